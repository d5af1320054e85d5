
/-! ===== the reference's years ===== -/
theorem ansT_K {ow : Nat → Nat} {w i : Nat} {σ : SeaT} : sK (ansT ow w i σ) = sK σ := by unfold ansT; simp only; split <;> exact up1_id _ _
theorem ansT_P {ow : Nat → Nat} {w i : Nat} {σ : SeaT} : sP (ansT ow w i σ) = sP σ := by unfold ansT; simp only; split <;> exact up1_id _ _
theorem ansT_C {ow : Nat → Nat} {w i : Nat} {σ : SeaT} : sC (ansT ow w i σ) = sC σ := by unfold ansT; simp only; split <;> exact up1_id _ _
theorem ansT_S {ow : Nat → Nat} {w i : Nat} {σ : SeaT} : sS (ansT ow w i σ) = sS σ := by unfold ansT; simp only; split <;> rfl
def pd2 (ow : Nat → Nat) (w : Nat) (σ : SeaT) (i : Nat) : SeaT := if sC (pdT ow w σ i) i ≠ 0 ∧ w ≠ 4 then ansT ow w i (pdT ow w σ i) else pdT ow w σ i
theorem pdT_s {ow : Nat → Nat} {w : Nat} {σ : SeaT} {i : Nat} : pdT ow w σ (i + 1) = wShip (pd2 ow w σ i) i (sK (pd2 ow w σ i) i) (aft ow (sK (pd2 ow w σ i) i) (sP (pd2 ow w σ i) i) (sC (pd2 ow w σ i) i) w) 0 (sV (pd2 ow w σ i) i) (sT (pd2 ow w σ i) i) := rfl
theorem pd2_f {ow : Nat → Nat} {w : Nat} {σ : SeaT} {i : Nat} : sK (pd2 ow w σ i) = sK (pdT ow w σ i) ∧ sS (pd2 ow w σ i) = sS (pdT ow w σ i) ∧ sP (pd2 ow w σ i) = sP (pdT ow w σ i) ∧ sC (pd2 ow w σ i) = sC (pdT ow w σ i) := by
  unfold pd2
  split
  · exact ⟨ansT_K, ansT_S, ansT_P, ansT_C⟩
  · exact ⟨rfl, rfl, rfl, rfl⟩
theorem pdT_f (ow : Nat → Nat) (w : Nat) (σ : SeaT) : ∀ i, sK (pdT ow w σ i) = sK σ ∧ sS (pdT ow w σ i) = sS σ ∧ (∀ j, sP (pdT ow w σ i) j = if j < i then aft ow (sK σ j) (sP σ j) (sC σ j) w else sP σ j) ∧ ∀ j, sC (pdT ow w σ i) j = if j < i then 0 else sC σ j
  | 0 => ⟨rfl, rfl, fun j => (if_neg (Nat.not_lt_zero j)).symm, fun j => (if_neg (Nat.not_lt_zero j)).symm⟩
  | i + 1 => by
    obtain ⟨h1, h2, h3, h4⟩ := pdT_f ow w σ i
    obtain ⟨k1, k2, k3, k4⟩ := pd2_f (ow := ow) (w := w) (σ := σ) (i := i)
    rw [h1] at k1
    rw [h2] at k2
    rw [pdT_s]
    refine ⟨?_, ?_, fun j => ?_, fun j => ?_⟩
    · show up1 (sK (pd2 ow w σ i)) i (sK (pd2 ow w σ i) i) = _
      rw [up1_id, k1]
    · show sS (pd2 ow w σ i) = _
      exact k2
    · show up1 (sP (pd2 ow w σ i)) i _ j = _
      by_cases e : j = i
      · subst e
        rw [up1_eq, if_pos (Nat.lt_succ_self j), k1, k3, k4, h3, h4, if_neg (Nat.lt_irrefl j), if_neg (Nat.lt_irrefl j)]
      · rw [up1_ne e, k3, h3]
        by_cases q : j < i
        · rw [if_pos q, if_pos (by omega)]
        · rw [if_neg q, if_neg (by omega)]
    · show up1 (sC (pd2 ow w σ i)) i 0 j = _
      by_cases e : j = i
      · subst e
        rw [up1_eq, if_pos (Nat.lt_succ_self j)]
      · rw [up1_ne e, k4, h4]
        by_cases q : j < i
        · rw [if_pos q, if_pos (by omega)]
        · rw [if_neg q, if_neg (by omega)]
def yrN (σ : SeaT) (x i : Nat) : Nat := (yrS σ x i).2
/-- a ship's call in a year's day -/
def ycl (q : SeaT × Nat) (i : Nat) : Nat := if sP q.1 i = 9 then 0 else if nxS q.2 / 65536 % 7 = 6 ∨ (sS q.1).testBit (nxS q.2 / 65536 % 7) = true then 0 else nxS q.2 / 65536 % 7 + 1
theorem yrS_h {σ : SeaT} {x i : Nat} (h : sP (yrS σ x i).1 i = 9) : yrS σ x (i + 1) = yrS σ x i := if_pos h
theorem yrS_d {σ : SeaT} {x i : Nat} (h : ¬ sP (yrS σ x i).1 i = 9) : yrS σ x (i + 1) = (begC (yrS σ x i).1 i (if nxS (yrS σ x i).2 / 65536 % 7 = 6 ∨ (sS (yrS σ x i).1).testBit (nxS (yrS σ x i).2 / 65536 % 7) = true then 0 else nxS (yrS σ x i).2 / 65536 % 7 + 1), nxS (yrS σ x i).2) := if_neg h
theorem begC_f {σ : SeaT} {i c : Nat} : sK (begC σ i c) = sK σ ∧ sP (begC σ i c) = sP σ ∧ sC (begC σ i c) = up1 (sC σ) i c ∧ sS (begC σ i c) = spB (sK σ i) (sS σ) c := by
  unfold begC spB
  by_cases h : c ≠ 0 ∧ sK σ i ≠ 4
  · rw [if_pos h, if_neg (fun q => q.elim h.1 h.2)]
    exact ⟨rfl, rfl, rfl, rfl⟩
  · rw [if_neg h, if_pos (by omega)]
    exact ⟨rfl, rfl, rfl, rfl⟩
theorem yrS_f {σ : SeaT} {x : Nat} (hx : x < 2 ^ 31) (hS : sS σ < 64) : ∀ i, sK (yrS σ x i).1 = sK σ ∧ sP (yrS σ x i).1 = sP σ ∧ sS (yrS σ x i).1 < 64 ∧ (yrS σ x i).2 < 2 ^ 31 ∧ (∀ j, i ≤ j → sC (yrS σ x i).1 j = sC σ j) ∧ ∀ j, j < i → sC (yrS σ x i).1 j = 0 ∨ sC (yrS σ x i).1 j ≤ 6 ∨ sC (yrS σ x i).1 j = sC σ j
  | 0 => ⟨rfl, rfl, hS, hx, fun j _ => rfl, fun j hj => absurd hj (Nat.not_lt_zero j)⟩
  | i + 1 => by
    obtain ⟨h1, h2, h3, h4, h5, h6⟩ := yrS_f hx hS i
    by_cases h : sP (yrS σ x i).1 i = 9
    · rw [yrS_h h]
      refine ⟨h1, h2, h3, h4, fun j hj => h5 j (by omega), fun j hj => ?_⟩
      by_cases e : j = i
      · subst e; exact Or.inr (Or.inr (h5 j (Nat.le_refl j)))
      · exact h6 j (by omega)
    · rw [yrS_d h]
      have hn : nxS (yrS σ x i).2 / 65536 % 7 < 7 := Nat.mod_lt _ (by decide)
      generalize nxS (yrS σ x i).2 / 65536 % 7 = n at hn
      have hc : (if n = 6 ∨ (sS (yrS σ x i).1).testBit n = true then 0 else n + 1) ≤ 6 := by
        split
        · omega
        · rename_i q
          have : n ≠ 6 := fun e => q (Or.inl e)
          omega
      generalize (if n = 6 ∨ (sS (yrS σ x i).1).testBit n = true then 0 else n + 1) = c at hc
      obtain ⟨b1, b2, b3, b4⟩ := begC_f (σ := (yrS σ x i).1) (i := i) (c := c)
      refine ⟨b1.trans h1, b2.trans h2, ?_, nxS_lt _, fun j hj => ?_, fun j hj => ?_⟩
      · show sS (begC _ _ _) < 64
        rw [b4]; exact spB_lt h3 hc
      · show sC (begC _ _ _) j = _
        rw [b3, up1_ne (by omega)]; exact h5 j (by omega)
      · show sC (begC _ _ _) j = 0 ∨ sC (begC _ _ _) j ≤ 6 ∨ sC (begC _ _ _) j = _
        rw [b3]
        by_cases e : j = i
        · subst e; rw [up1_eq]; exact Or.inr (Or.inl hc)
        · rw [up1_ne e]; exact h6 j (by omega)
/-- what the next ship's turn gives -/
theorem yrS_c {σ : SeaT} {x i : Nat} (h0 : sC (yrS σ x i).1 i = 0) : (∀ j, sC (yrS σ x (i + 1)).1 j = if j = i then ycl (yrS σ x i) i else sC (yrS σ x i).1 j) ∧ sS (yrS σ x (i + 1)).1 = spB (sK (yrS σ x i).1 i) (sS (yrS σ x i).1) (ycl (yrS σ x i) i) := by
  unfold ycl
  by_cases h : sP (yrS σ x i).1 i = 9
  · rw [yrS_h h, if_pos h]
    refine ⟨fun j => ?_, (if_pos (Or.inl rfl)).symm⟩
    split
    · rename_i e; rw [e, h0]
    · rfl
  · rw [yrS_d h, if_neg h]
    obtain ⟨b1, b2, b3, b4⟩ := begC_f (σ := (yrS σ x i).1) (i := i) (c := if nxS (yrS σ x i).2 / 65536 % 7 = 6 ∨ (sS (yrS σ x i).1).testBit (nxS (yrS σ x i).2 / 65536 % 7) = true then 0 else nxS (yrS σ x i).2 / 65536 % 7 + 1)
    exact ⟨fun j => by show sC (begC _ _ _) j = _; rw [b3]; rfl, b4⟩
theorem ycl_le (q : SeaT × Nat) (i : Nat) : ycl q i ≤ 6 := by
  unfold ycl
  have hn : nxS q.2 / 65536 % 7 < 7 := Nat.mod_lt _ (by decide)
  generalize nxS q.2 / 65536 % 7 = n at hn
  split
  · omega
  · split
    · omega
    · rename_i z
      have : n ≠ 6 := fun e => z (Or.inl e)
      omega
def yrD (tn : Nat → Nat → Nat) (ow : Nat → Nat) (σ : SeaT) (x : Nat) : SeaT × Nat := (dayT ow (widT tn (nxS x / 65536 % 3) (nxS (yrS σ (nxS x) (sN σ)).2 / 65536 % 10)) (yrS σ (nxS x) (sN σ)).1, nxS (yrS σ (nxS x) (sN σ)).2)
theorem yrT_s {tn : Nat → Nat → Nat} {ow : Nat → Nat} {σ : SeaT} {x d : Nat} : yrT tn ow σ x (d + 1) = yrD tn ow (yrT tn ow σ x d).1 (yrT tn ow σ x d).2 := rfl
def yS (σ0 σ : SeaT) : SeaT := mkSea (sN σ0) (sK σ0) (sP σ) (sC σ0) (sV σ0) (sT σ0) (sS σ) (sD σ0) (sA σ0) (sG σ0)
def FrY (μ0 μ : Mm) : Prop := (∀ k, k ≠ 65 → k ≠ 69 → k ≠ 83 → μ.1 k = μ0.1 k) ∧ (∀ j, j ≠ 11 → μ.1 65 j = μ0.1 65 j) ∧ μ.2.2 = μ0.2.2
theorem FrY.rf {μ : Mm} : FrY μ μ := ⟨fun _ _ _ _ => rfl, fun _ _ => rfl, rfl⟩
theorem FrY.tr {μ μ' μ2 : Mm} (h : FrY μ μ') (h2 : FrY μ' μ2) : FrY μ μ2 := ⟨fun k a b c => (h2.1 k a b c).trans (h.1 k a b c), fun j hj => (h2.2.1 j hj).trans (h.2.1 j hj), h2.2.2.trans h.2.2⟩
theorem FrY.set {μ μ' : Mm} (h : FrY μ μ') {k j : Nat} {v : Int32} (hk : k = 69 ∨ k = 83 ∨ (k = 65 ∧ j = 11)) : FrY μ (setI μ' k j v) := by
  refine ⟨fun a h1 h2 h3 => ?_, fun i hi => ?_, h.2.2⟩
  · have hn : a ≠ k := by omega
    show up2 μ'.1 k j v a = _
    rw [up2_ne hn]
    exact h.1 a h1 h2 h3
  · rw [get_ne (by omega)]
    exact h.2.1 i hi
theorem FrY.setl {μ μ' : Mm} (h : FrY μ μ') {k j : Nat} {v : Int64} : FrY μ (setL μ' k j v) := ⟨h.1, h.2.1, h.2.2⟩
theorem FrY.X {μ μ' : Mm} (h : FrY μ μ') : FrX μ μ' := ⟨fun k hk => h.1 k (by omega) (by omega) (by omega), h.2.2⟩
theorem RM.yr {μ0 μ : Mm} {a : AT} {σ : SeaT} (h : RM μ0 a) (hf : FrY μ0 μ) (h11 : μ.1 65 11 = nI (sS σ)) (hp : ∀ j, j < sN (aS a) → μ.1 69 j = nI (sP σ j)) : RM μ (setA a (yS (aS a) σ)) := by
  have h1 : RM ((fun k => if k = 83 then μ.1 k else μ0.1 k, μ.2) : Mm) a := h.kept (fun j _ => by show (if (65 : Nat) = 83 then μ.1 65 else μ0.1 65) j = _; rw [if_neg (by omega)]) (fun k hk => by show (if k = 83 then μ.1 k else μ0.1 k) = _; rw [if_neg (by omega)])
  have hF : FrS ((fun k => if k = 83 then μ.1 k else μ0.1 k, μ.2) : Mm) μ := ⟨fun k j hn => by
    show μ.1 k j = (if k = 83 then μ.1 k else μ0.1 k) j
    split
    · rfl
    · unfold seaP at hn
      by_cases e : k = 65
      · subst e; exact hf.2.1 j (by omega)
      · rw [hf.1 k e (by omega) (by omega)], rfl⟩
  obtain ⟨m1, m2, m3, m4, m5, m6, m7, m8, m9, m10, m11, m12, m13⟩ := id h
  refine h1.sea hF (by rw [hf.2.1 5 (by omega)]; exact m5) (fun j hj => ?_) h11 (by rw [hf.2.1 12 (by omega)]; exact m8) (by rw [hf.2.1 13 (by omega)]; exact m9) (m10.kept (hf.1 73 (by omega) (by omega) (by omega))) (Nat.le_refl _) (fun j hj => rfl)
  obtain ⟨n1, n2, n3, n4, n5⟩ := m6 j hj
  unfold ShM
  rw [hf.1 68 (by omega) (by omega) (by omega), hf.1 70 (by omega) (by omega) (by omega), hf.1 71 (by omega) (by omega) (by omega), hf.1 72 (by omega) (by omega) (by omega)]
  exact ⟨n1, hp j hj, n3, n4, n5⟩
theorem AOK.yr {a : AT} {σ : SeaT} (h : AOK a) (hs : sS σ < 64) (hp : ∀ j, j < 6 → sP σ j ≤ 9) : AOK (setA a (yS (aS a) σ)) := by
  refine h.sea ?_
  obtain ⟨o1, o2, o3, o4, o5, ⟨s1, s2, s3, s4⟩, oK, o8, o9, o10⟩ := h
  exact ⟨s1, hs, s3, fun j hj => ⟨(s4 j hj).1, hp j hj, (s4 j hj).2.2⟩⟩
/-- the reference within years: the sea of the other side tells its places, its spent names, its seed -/
def YM (μ0 μ : Mm) (a : AT) (σ : SeaT) (x : Nat) : Prop := FrY μ0 μ ∧ μ.1 65 11 = nI (sS σ) ∧ (∀ j, j < sN (aS a) → μ.1 69 j = nI (sP σ j)) ∧ μ.2.1 65 30 = lN x ∧ x < 2 ^ 31 ∧ sN σ = sN (aS a) ∧ sK σ = sK (aS a) ∧ sS σ < 64 ∧ (∀ j, j < 6 → sP σ j ≤ 9) ∧ ∀ j, j < sN σ → sC σ j = 0
theorem dayT_f {ow : Nat → Nat} {w : Nat} {σ : SeaT} : sN (dayT ow w σ) = sN σ ∧ sK (dayT ow w σ) = sK σ ∧ sS (dayT ow w σ) = sS σ ∧ (∀ j, sP (dayT ow w σ) j = if j < sN σ then aft ow (sK σ j) (sP σ j) (sC σ j) w else sP σ j) ∧ ∀ j, sC (dayT ow w σ) j = if j < sN σ then 0 else sC σ j := ⟨pdT_N ow w σ _, pdT_f ow w σ (sN σ)⟩
theorem lrem_i {x d : Nat} (hx : x < 2 ^ 31) (hd : 0 < d) (hd2 : d < 2 ^ 31) : (lN x / (65536 : Int64) - lN x / (65536 : Int64) / (nI d).toInt64 * (nI d).toInt64).toInt32 = nI (x / 65536 % d) := by
  rw [show (65536 : Int64) = lN 65536 from rfl, nI_l hd2, pk_lDiv (by omega) (by decide) (by decide), pk_lRem (by have := Nat.div_le_self x 65536; omega) hd (by omega), lN_i]
theorem widT_ex {tn : Nat → Nat → Nat} {s x w : Nat} (h : ∀ j, 1 ≤ j → j ≤ w → ¬ x < pfT tn s j) (h2 : ¬ x < pfT tn s (w + 1)) : ∀ j, 1 ≤ j → j ≤ w + 1 → ¬ x < pfT tn s j := fun j h3 h4 => by
  by_cases e : j = w + 1
  · rw [e]; exact h2
  · exact h j h3 (by omega)
theorem homeT_congr {p q : Nat → Nat} : ∀ n, (∀ j, j < n → p j = q j) → homeT p n = homeT q n
  | 0, _ => rfl
  | n + 1, h => by
    show homeT p n + (if p n = 9 then 1 else 0) = homeT q n + (if q n = 9 then 1 else 0)
    rw [homeT_congr n (fun j hj => h j (by omega)), h n (by omega)]
