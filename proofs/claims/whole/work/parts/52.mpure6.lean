
/-! ===== calls and days of the reference ===== -/
theorem anyC_congr {σ τ : SeaT} {k : Nat} : ∀ n, (∀ i, i < n → (sC σ i == k && sK σ i != 4) = (sC τ i == k && sK τ i != 4)) → anyC σ k n = anyC τ k n
  | 0, _ => rfl
  | n + 1, h => by
    show (anyC σ k n || _) = (anyC τ k n || _)
    rw [anyC_congr n (fun i hi => h i (by omega)), h n (by omega)]
theorem anyC_m {σ : SeaT} {i k : Nat} (hk : k ≠ 0) (h4 : sK σ i = 4) (n : Nat) : anyC (wC σ i 0) k n = anyC σ k n := by
  refine anyC_congr n (fun j hj => ?_)
  show (up1 (sC σ) i 0 j == k && sK σ j != 4) = _
  by_cases e : j = i
  · subst e; rw [h4]; simp
  · rw [up1_ne e]
def refS (σ : SeaT) (i c : Nat) : Nat :=
  let b := sC σ i
  let S1 := if b ≠ 0 ∧ sK σ i ≠ 4 ∧ anyC (wC σ i 0) b (sN σ) = false then clr (sS σ) (b - 1) else sS σ
  if c ≠ 0 ∧ sK σ i ≠ 4 then S1 ||| 2 ^ (c - 1) else S1
def refS1 (σ : SeaT) (i : Nat) : Nat := if sC σ i ≠ 0 ∧ sK σ i ≠ 4 ∧ anyC (wC σ i 0) (sC σ i) (sN σ) = false then clr (sS σ) (sC σ i - 1) else sS σ
theorem refS_eq {σ : SeaT} {i c : Nat} : refS σ i c = if c ≠ 0 ∧ sK σ i ≠ 4 then refS1 σ i ||| 2 ^ (c - 1) else refS1 σ i := rfl
theorem repC_ref {a : AT} (hJ : AJ a) {i c : Nat} (hi : i < sN (aS a)) : repC (aS a) i c = wS (wC (aS a) i c) (refS (aS a) i c) := by
  have hc := hJ.2 (sC (aS a) i) i hi rfl
  generalize aS a = σ at hc hi ⊢
  unfold repC refS begC
  by_cases h4 : sK σ i = 4
  · by_cases hb : sC σ i ≠ 0 ∧ anyC (wC σ i 0) (sC σ i) (sN (wC σ i 0)) = false
    · have e : clr (sS σ) (sC σ i - 1) = sS σ := by
        unfold clr
        by_cases q : (sS σ).testBit (sC σ i - 1) = true
        · have q2 := hc hb.1 q
          have q3 := hb.2
          rw [anyC_m hb.1 h4] at q3
          rw [show sN (wC σ i 0) = sN σ from rfl] at q3
          rw [q2] at q3
          exact absurd q3 (by decide)
        · rw [if_neg q]
      simp only [if_pos hb]
      rw [if_neg (fun q => q.2 h4), if_neg (fun q => q.2 h4), if_neg (fun q => q.2.1 h4), show sS (wC σ i 0) = sS σ from rfl, e]
      show mkSea _ _ _ (up1 (up1 (sC σ) i 0) i c) _ _ _ _ _ _ = mkSea _ _ _ (up1 (sC σ) i c) _ _ _ _ _ _
      rw [up1_up1]
      rfl
    · simp only [if_neg hb]
      rw [if_neg (fun q => q.2 h4), if_neg (fun q => q.2 h4), if_neg (fun q => q.2.1 h4)]
      show mkSea _ _ _ (up1 (up1 (sC σ) i 0) i c) _ _ _ _ _ _ = mkSea _ _ _ (up1 (sC σ) i c) _ _ _ _ _ _
      rw [up1_up1]
      rfl
  · have e1 : (sC σ i ≠ 0 ∧ sK σ i ≠ 4 ∧ anyC (wC σ i 0) (sC σ i) (sN σ) = false) ↔ (sC σ i ≠ 0 ∧ anyC (wC σ i 0) (sC σ i) (sN (wC σ i 0)) = false) := ⟨fun q => ⟨q.1, q.2.2⟩, fun q => ⟨q.1, h4, q.2⟩⟩
    simp only [e1]
    by_cases hb : sC σ i ≠ 0 ∧ anyC (wC σ i 0) (sC σ i) (sN (wC σ i 0)) = false
    · simp only [if_pos hb]
      by_cases h0 : c = 0
      · rw [if_neg (fun q => q.1 h0), if_neg (fun q => q.1 h0)]
        show mkSea _ _ _ (up1 (up1 (sC σ) i 0) i c) _ _ _ _ _ _ = mkSea _ _ _ (up1 (sC σ) i c) _ _ _ _ _ _
        rw [up1_up1]
        rfl
      · rw [if_pos ⟨h0, h4⟩, if_pos ⟨h0, h4⟩]
        show mkSea _ _ _ (up1 (up1 (sC σ) i 0) i c) _ _ _ _ _ _ = mkSea _ _ _ (up1 (sC σ) i c) _ _ _ _ _ _
        rw [up1_up1]
        rfl
    · simp only [if_neg hb]
      by_cases h0 : c = 0
      · rw [if_neg (fun q => q.1 h0), if_neg (fun q => q.1 h0)]
        show mkSea _ _ _ (up1 (up1 (sC σ) i 0) i c) _ _ _ _ _ _ = mkSea _ _ _ (up1 (sC σ) i c) _ _ _ _ _ _
        rw [up1_up1]
        rfl
      · rw [if_pos ⟨h0, h4⟩, if_pos ⟨h0, h4⟩]
        show mkSea _ _ _ (up1 (up1 (sC σ) i 0) i c) _ _ _ _ _ _ = mkSea _ _ _ (up1 (sC σ) i c) _ _ _ _ _ _
        rw [up1_up1]
        rfl
theorem refS1_lt {σ : SeaT} {i : Nat} (h : sS σ < 64) (hc : sC σ i ≤ 6) : refS1 σ i < 64 := by
  unfold refS1
  split
  · exact clr_lt _ h _ (by omega)
  · exact h
theorem RM.cal {μ : Mm} {a : AT} {i c S2 : Nat} {x : Int32} (h : RM μ a) (hi : i < sN (aS a)) : RM (setI (setI (setI μ 65 11 x) 65 11 (nI S2)) 70 i (cI c)) (setA a (wS (wC (aS a) i c) S2)) := by
  obtain ⟨m1, m2, m3, m4, m5, m6, m7, m8, m9, m10, m11, m12, m13⟩ := id h
  have hF : FrS μ (setI (setI (setI μ 65 11 x) 65 11 (nI S2)) 70 i (cI c)) := ((FrS.rf.set (Or.inr ⟨rfl, by omega⟩)).set (Or.inr ⟨rfl, by omega⟩)).set (Or.inl ⟨by omega, by omega⟩)
  refine h.sea hF (by simp [get_set]; exact m5) (fun j hj => ?_) (by simp [get_set]; rfl) (by simp [get_set]; exact m8) (by simp [get_set]; exact m9) (m10.kept rfl) (Nat.le_refl _) (fun j hj => rfl)
  obtain ⟨n1, n2, n3, n4, n5⟩ := m6 j hj
  unfold ShM
  show _ = nI (sK (aS a) j) ∧ _ = nI (sP (aS a) j) ∧ _ = cI (up1 _ _ _ _) ∧ _ = sV (aS a) j ∧ _ = sT (aS a) j
  by_cases e : j = i
  · subst e
    rw [up1_eq]
    simp [get_set]
    exact ⟨n1, n2, n4, n5⟩
  · rw [up1_ne e]
    simp [get_set, e]
    exact ⟨n1, n2, n3, n4, n5⟩
theorem gsF_congr {f g : Nat → Nat} {n : Nat} : ∀ k, (∀ j, j < k → f j = g j) → gsF f n k = gsF g n k
  | 0, _ => rfl
  | k + 1, h => by
    show (if f k % 8 = n then _ else _) = (if g k % 8 = n then _ else _)
    rw [gsF_congr k (fun j hj => h j (by omega)), h k (by omega)]
theorem RM.ans {μ μ' : Mm} {a : AT} {i w : Nat} (h : RM μ a) (hO : AOK a) (hi : i < sN (aS a)) (hc : sC (aS a) i ≠ 0) (hw : w < 4) (hF : FrS μ μ') (e71 : μ'.1 71 i = if fav (aOw a) (sC (aS a) i) w then sV (aS a) i + 1 else sV (aS a) i) (e72 : μ'.1 72 i = if fav (aOw a) (sC (aS a) i) w then sT (aS a) i else sT (aS a) i + 1) (er : ∀ k j, ¬ (k = 71 ∧ j = i) → ¬ (k = 72 ∧ j = i) → ¬ (k = 73 ∧ j = sA (aS a)) → ¬ (k = 65 ∧ j = 13) → μ'.1 k j = μ.1 k j) (e13 : μ'.1 65 13 = nI (if sA (aS a) < 40 then sA (aS a) + 1 else sA (aS a))) (e73 : sA (aS a) < 40 → μ'.1 73 (sA (aS a)) = nI (sC (aS a) i - 1 + 8 * w + if fav (aOw a) (sC (aS a) i) w then 64 else 0)) : RM μ' (setA a (ansT (aOw a) w i (aS a))) := by
  obtain ⟨m1, m2, m3, m4, m5, m6, m7, m8, m9, m10, m11, m12, m13⟩ := id h
  obtain ⟨o1, o2, o3, o4, o5, ⟨s1, s2, s3, s4⟩, oK, o8, o9, o10⟩ := id hO
  have hc6 := (s4 i (by omega)).2.2
  have eN := ansT_N (aOw a) w i (aS a)
  obtain ⟨f, f1, f2⟩ := m10
  have eqs : sK (ansT (aOw a) w i (aS a)) = up1 (sK (aS a)) i (sK (aS a) i) ∧ sP (ansT (aOw a) w i (aS a)) = up1 (sP (aS a)) i (sP (aS a) i) ∧ sC (ansT (aOw a) w i (aS a)) = up1 (sC (aS a)) i (sC (aS a) i) ∧ sV (ansT (aOw a) w i (aS a)) = up1 (sV (aS a)) i (if fav (aOw a) (sC (aS a) i) w then sV (aS a) i + 1 else sV (aS a) i) ∧ sT (ansT (aOw a) w i (aS a)) = up1 (sT (aS a)) i (if fav (aOw a) (sC (aS a) i) w then sT (aS a) i else sT (aS a) i + 1) ∧ sS (ansT (aOw a) w i (aS a)) = sS (aS a) ∧ sD (ansT (aOw a) w i (aS a)) = sD (aS a) ∧ sA (ansT (aOw a) w i (aS a)) = (if sA (aS a) < 40 then sA (aS a) + 1 else sA (aS a)) ∧ sG (ansT (aOw a) w i (aS a)) = (if sA (aS a) < 40 then up1 (sG (aS a)) (sC (aS a) i - 1) (sG (aS a) (sC (aS a) i - 1) &&& msk (fav (aOw a) (sC (aS a) i) w) w) else sG (aS a)) := by
    unfold ansT
    by_cases q : sA (aS a) < 40
    · simp only [if_pos q]; exact ⟨rfl, rfl, rfl, rfl, rfl, rfl, rfl, rfl, rfl⟩
    · simp only [if_neg q]; exact ⟨rfl, rfl, rfl, rfl, rfl, rfl, rfl, rfl, rfl⟩
  obtain ⟨q1, q2, q3, q4, q5, q6, q7, q8, q9⟩ := eqs
  refine h.sea hF (by rw [eN, er 65 5 (by omega) (by omega) (by omega) (by omega)]; exact m5) (fun j hj => ?_) (by rw [q6, er 65 11 (by omega) (by omega) (by omega) (by omega)]; exact m7) (by rw [q7, er 65 12 (by omega) (by omega) (by omega) (by omega)]; exact m8) (by rw [q8]; exact e13) ?_ (by rw [eN]; exact Nat.le_refl _) (fun j hj => by rw [q1, up1_id])
  · rw [eN] at hj
    obtain ⟨n1, n2, n3, n4, n5⟩ := m6 j hj
    unfold ShM
    rw [q1, q2, q3, q4, q5, up1_id, up1_id, up1_id, er 68 j (by omega) (by omega) (by omega) (by omega), er 69 j (by omega) (by omega) (by omega) (by omega), er 70 j (by omega) (by omega) (by omega) (by omega)]
    refine ⟨n1, n2, n3, ?_, ?_⟩
    · by_cases e : j = i
      · subst e; rw [up1_eq]; exact e71
      · rw [up1_ne e, er 71 j (by omega) (by omega) (by omega) (by omega)]; exact n4
    · by_cases e : j = i
      · subst e; rw [up1_eq]; exact e72
      · rw [up1_ne e, er 72 j (by omega) (by omega) (by omega) (by omega)]; exact n5
  · rw [q8, q9]
    by_cases q : sA (aS a) < 40
    · rw [if_pos q, if_pos q]
      have hz := e73 q
      have hw8 : ∀ B : Bool, (sC (aS a) i - 1 + 8 * w + if B then 64 else 0) % 8 = sC (aS a) i - 1 ∧ (sC (aS a) i - 1 + 8 * w + if B then 64 else 0) / 8 % 8 = w ∧ (sC (aS a) i - 1 + 8 * w + if B then 64 else 0) < 128 ∧ decide (63 < sC (aS a) i - 1 + 8 * w + if B then 64 else 0) = B := fun B => by
        cases B
        · refine ⟨?_, ?_, ?_, decide_eq_false ?_⟩ <;> simp <;> omega
        · refine ⟨?_, ?_, ?_, decide_eq_true ?_⟩ <;> simp <;> omega
      obtain ⟨z1, z2, z3, z4⟩ := hw8 (fav (aOw a) (sC (aS a) i) w)
      generalize (sC (aS a) i - 1 + 8 * w + if fav (aOw a) (sC (aS a) i) w then 64 else 0) = x at hz z1 z2 z3 z4
      refine ⟨up1 f (sA (aS a)) x, fun j hj => ?_, fun n hn => ?_⟩
      · by_cases e : j = sA (aS a)
        · subst e
          rw [up1_eq, hz]
          exact ⟨rfl, z3, by omega, by omega⟩
        · rw [up1_ne e, er 73 j (by omega) (by omega) (by omega) (by omega)]
          exact f1 j (by omega)
      · show (if up1 f _ x (sA (aS a)) % 8 = n then gsF (up1 f _ x) n _ &&& msk (decide (63 < up1 f _ x (sA (aS a)))) (up1 f _ x (sA (aS a)) / 8 % 8) else gsF (up1 f _ x) n _) = _
        rw [up1_eq, gsF_congr (f := up1 f (sA (aS a)) x) (g := f) (sA (aS a)) (fun j hj => up1_ne (by omega)), z1, z2, z4]
        by_cases e : n = sC (aS a) i - 1
        · subst e
          rw [if_pos rfl, up1_eq, f2 _ hn]
        · rw [if_neg (fun q => e q.symm), up1_ne e, f2 n hn]
    · rw [if_neg q, if_neg q]
      refine ⟨f, fun j hj => ?_, f2⟩
      rw [er 73 j (by omega) (by omega) (by omega) (by omega)]
      exact f1 j hj
theorem RM.mv {μ : Mm} {a : AT} {i p : Nat} (h : RM μ a) (hi : i < sN (aS a)) : RM (setI (setI μ 69 i (nI p)) 70 i (-1)) (setA a (wShip (aS a) i (sK (aS a) i) p 0 (sV (aS a) i) (sT (aS a) i))) := by
  obtain ⟨m1, m2, m3, m4, m5, m6, m7, m8, m9, m10, m11, m12, m13⟩ := id h
  have hF : FrS μ (setI (setI μ 69 i (nI p)) 70 i (-1)) := (FrS.rf.set (Or.inl ⟨by omega, by omega⟩)).set (Or.inl ⟨by omega, by omega⟩)
  refine h.sea hF m5 (fun j hj => ?_) m7 m8 m9 (m10.kept rfl) (Nat.le_refl _) (fun j hj => by show up1 _ _ _ _ = _; rw [up1_id])
  obtain ⟨n1, n2, n3, n4, n5⟩ := m6 j hj
  unfold ShM
  show _ = nI (up1 _ _ _ _) ∧ _ = nI (up1 _ _ _ _) ∧ _ = cI (up1 _ _ _ _) ∧ _ = up1 _ _ _ _ ∧ _ = up1 _ _ _ _
  by_cases e : j = i
  · subst e
    rw [up1_eq, up1_eq, up1_eq, up1_eq, up1_eq]
    simp [get_set]
    exact ⟨n1, rfl, n4, n5⟩
  · rw [up1_ne e, up1_ne e, up1_ne e, up1_ne e, up1_ne e]
    simp [get_set, e]
    exact ⟨n1, n2, n3, n4, n5⟩
theorem RM.dy {μ : Mm} {a : AT} {x : Int32} (h : RM μ a) : RM (setI μ 65 12 x) (setA a (wD (aS a) x)) := by
  obtain ⟨m1, m2, m3, m4, m5, m6, m7, m8, m9, m10, m11, m12, m13⟩ := id h
  have hF : FrS μ (setI μ 65 12 x) := FrS.rf.set (Or.inr ⟨rfl, by omega⟩)
  exact h.sea hF (by rw [get_ne (by decide)]; exact m5) (fun j hj => m6 j hj) (by rw [get_ne (by decide)]; exact m7) get_eq (by rw [get_ne (by decide)]; exact m9) (m10.kept rfl) (Nat.le_refl _) (fun j hj => rfl)
theorem AOK.sea {a : AT} {σ : SeaT} (h : AOK a) (hs : SeaOK σ) : AOK (setA a σ) := by
  obtain ⟨o1, o2, o3, o4, o5, o6, oK, o8, o9, o10⟩ := h
  exact ⟨o1, o2, o3, o4, o5, hs, oK, o8, o9, o10⟩
theorem ans_ok {ow : Nat → Nat} {w i : Nat} {σ : SeaT} (h : SeaOK σ) (hi : i < 6) : SeaOK (ansT ow w i σ) := by
  obtain ⟨h1, h2, h3, h4⟩ := h
  have hz : ∀ j, j < 6 → up1 (sK σ) i (sK σ i) j ≤ 4 ∧ up1 (sP σ) i (sP σ i) j ≤ 9 ∧ up1 (sC σ) i (sC σ i) j ≤ 6 := fun j hj => by rw [up1_id, up1_id, up1_id]; exact h4 j hj
  unfold ansT
  simp only
  split
  · exact ⟨h1, h2, by show _ + 1 ≤ 40; omega, hz⟩
  · exact ⟨h1, h2, h3, hz⟩
theorem mv_ok {i p : Nat} {v t : Int32} {σ : SeaT} (h : SeaOK σ) (hi : i < 6) (hp : p ≤ 9) : SeaOK (wShip σ i (sK σ i) p 0 v t) := by
  obtain ⟨h1, h2, h3, h4⟩ := h
  refine ⟨h1, h2, h3, fun j hj => ?_⟩
  show up1 (sK σ) i (sK σ i) j ≤ 4 ∧ up1 (sP σ) i p j ≤ 9 ∧ up1 (sC σ) i 0 j ≤ 6
  rw [up1_id]
  refine ⟨(h4 j hj).1, ?_, ?_⟩
  · by_cases e : j = i
    · rw [e, up1_eq]; exact hp
    · rw [up1_ne e]; exact (h4 j hj).2.1
  · by_cases e : j = i
    · rw [e, up1_eq]; omega
    · rw [up1_ne e]; exact (h4 j hj).2.2
theorem pd_ok {ow : Nat → Nat} {w : Nat} {σ : SeaT} (h : SeaOK σ) : ∀ i, i ≤ 6 → SeaOK (pdT ow w σ i)
  | 0, _ => h
  | i + 1, hi => by
    have h1 := pd_ok (ow := ow) (w := w) h i (by omega)
    simp only [pdT]
    split
    · have h2 := ans_ok (ow := ow) (w := w) h1 (show i < 6 by omega)
      exact mv_ok h2 (by omega) (aft_le (h2.2.2.2 i (by omega)).2.1)
    · exact mv_ok h1 (by omega) (aft_le (h1.2.2.2 i (by omega)).2.1)
