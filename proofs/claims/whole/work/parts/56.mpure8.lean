
/-! ===== the reference reads a page ===== -/
theorem nmT_up {ow : Nat → Nat} {k v : Nat} (h0 : ow k = 0) (hv : v ≠ 0) : ∀ n, nmT (up1 ow k v) n = nmT ow n + if k < n then 1 else 0
  | 0 => by simp [nmT]
  | n + 1 => by
    have h := nmT_up h0 hv n
    simp only [nmT]
    rw [h]
    by_cases e : n = k
    · subst e
      rw [up1_eq, if_neg hv, if_pos h0, if_neg (Nat.lt_irrefl n), if_pos (Nat.lt_succ_self n)]
    · rw [up1_ne e]
      have q2 : (k < n + 1) ↔ (k < n) := by omega
      simp only [q2]
      omega
theorem nmT_zero : ∀ n, nmT (fun _ => 0) n = 0
  | 0 => rfl
  | n + 1 => by show nmT _ n + (if (0 : Nat) = 0 then 0 else 1) = 0; rw [nmT_zero n]; rfl
def RdM (μ : Mm) (w : Nat) (tn : Nat → Nat → Nat) (ow : Nat → Nat) : Prop := μ.1 65 22 = nI w ∧ w ≤ 3 ∧ μ.1 65 23 = nI (nmT ow 6) ∧ (∀ w s, w < 5 → s < 3 → μ.1 76 (3 * w + s) = nI (tn w s)) ∧ (∀ n, n < 6 → μ.1 77 n = cI (ow n)) ∧ (∀ n, n < 6 → ow n ≤ 4) ∧ TnOK tn
/-- but the reader's cells all stay -/
def FrR (μ μ' : Mm) : Prop := (∀ k, k ≠ 65 → k ≠ 76 → k ≠ 77 → μ'.1 k = μ.1 k) ∧ (∀ j, j < 20 ∨ 23 < j → μ'.1 65 j = μ.1 65 j) ∧ μ'.2 = μ.2
theorem FrR.rf {μ : Mm} : FrR μ μ := ⟨fun _ _ _ _ => rfl, fun _ _ => rfl, rfl⟩
theorem FrR.tr {μ μ' μ2 : Mm} (h : FrR μ μ') (h2 : FrR μ' μ2) : FrR μ μ2 := ⟨fun k a b c => (h2.1 k a b c).trans (h.1 k a b c), fun j hj => (h2.2.1 j hj).trans (h.2.1 j hj), h2.2.2.trans h.2.2⟩
theorem FrR.set {μ μ' : Mm} (h : FrR μ μ') {k j : Nat} {v : Int32} (hk : k = 76 ∨ k = 77 ∨ (k = 65 ∧ 20 ≤ j ∧ j ≤ 23)) : FrR μ (setI μ' k j v) := by
  refine ⟨fun a h1 h2 h3 => ?_, fun i hi => ?_, h.2.2⟩
  · have hn : a ≠ k := by omega
    show up2 μ'.1 k j v a = _
    rw [up2_ne hn]
    exact h.1 a h1 h2 h3
  · rw [get_ne (by omega)]
    exact h.2.1 i hi
theorem FrR.X {μ μ' : Mm} (h : FrR μ μ') : FrX μ μ' := ⟨fun k hk => h.1 k (by omega) (by omega) (by omega), by rw [h.2.2]⟩
theorem RM.rd {μ μ' : Mm} {a : AT} (h : RM μ a) (hf : FrR μ μ') : RM μ' a := h.kept (fun j hj => hf.2.1 j (by omega)) (fun k hk => hf.1 k (by omega) (by omega) (by omega))
theorem RdM.own {μ : Mm} {w n : Nat} {tn : Nat → Nat → Nat} {ow : Nat → Nat} {x y : Int32} (h : RdM μ w tn ow) (hn : n < 6) (h0 : ow n = 0) (hx : x = nI w) (hy : y = nI (nmT ow 6 + 1)) : RdM (setI (setI μ 77 n x) 65 23 y) w tn (up1 ow n (w + 1)) := by
  subst hx; subst hy
  obtain ⟨h1, h2, h3, h4, h5, h6, h7⟩ := h
  refine ⟨by rw [get_ne (by omega), get_ne (by omega)]; exact h1, h2, by rw [get_eq, nmT_up h0 (by omega), if_pos hn], fun w s hw hs => by rw [get_ne (by omega), get_ne (by omega)]; exact h4 w s hw hs, fun m hm => ?_, fun m hm => ?_, h7⟩
  · rw [get_ne (by omega)]
    by_cases e : m = n
    · rw [e, get_eq, up1_eq, cI_s]
    · rw [get_ne (by omega), up1_ne e]; exact h5 m hm
  · by_cases e : m = n
    · rw [e, up1_eq]; omega
    · rw [up1_ne e]; exact h6 m hm
theorem RdM.ten {μ : Mm} {s w v : Nat} {tn : Nat → Nat → Nat} {ow : Nat → Nat} {x y : Int32} (h : RdM μ w tn ow) (hs : s < 3) (h0 : tn w s = 0) (hv : v ≤ tn 4 s) (hx : x = nI v) (hy : y = nI (tn 4 s - v)) : RdM (setI (setI μ 76 (3 * w + s) x) 76 (12 + s) y) w (up2N (up2N tn w s v) 4 s (tn 4 s - v)) ow := by
  subst hx; subst hy
  obtain ⟨h1, h2, h3, h4, h5, h6, h7⟩ := h
  refine ⟨by rw [get_ne (by omega), get_ne (by omega)]; exact h1, h2, by rw [get_ne (by omega), get_ne (by omega)]; exact h3, fun a t ha ht => ?_, fun m hm => by rw [get_ne (by omega), get_ne (by omega)]; exact h5 m hm, h6, fun t ht => ?_⟩
  · show _ = nI (if a = 4 ∧ t = s then _ else if a = w ∧ t = s then _ else tn a t)
    by_cases e : a = 4 ∧ t = s
    · rw [if_pos e, e.1, e.2, show 3 * 4 + s = 12 + s by omega, get_eq]
    · rw [if_neg e, get_ne (by omega)]
      by_cases e2 : a = w ∧ t = s
      · rw [if_pos e2, e2.1, e2.2, get_eq]
      · rw [if_neg e2, get_ne (by omega)]; exact h4 a t ha ht
  · have q := h7 t ht
    simp only [up2N]
    by_cases e : t = s
    · subst e
      rcases (show w = 0 ∨ w = 1 ∨ w = 2 ∨ w = 3 by omega) with rfl | rfl | rfl | rfl <;> simp <;> omega
    · simp [e]; omega
theorem RdM.wind {μ : Mm} {w : Nat} {tn : Nat → Nat → Nat} {ow : Nat → Nat} {x : Int32} (h : RdM μ w tn ow) (hw : w < 3) (hx : x = nI (w + 1)) : RdM (setI μ 65 22 x) (w + 1) tn ow := by
  subst hx
  obtain ⟨h1, h2, h3, h4, h5, h6, h7⟩ := h
  exact ⟨get_eq, by omega, by rw [get_ne (by omega)]; exact h3, fun a t ha ht => by rw [get_ne (by omega)]; exact h4 a t ha ht, fun m hm => by rw [get_ne (by omega)]; exact h5 m hm, h6, h7⟩
theorem RdM.keep {μ : Mm} {w j : Nat} {tn : Nat → Nat → Nat} {ow : Nat → Nat} {x : Int32} (h : RdM μ w tn ow) (hj : j = 20 ∨ j = 21) : RdM (setI μ 65 j x) w tn ow := by
  obtain ⟨h1, h2, h3, h4, h5, h6, h7⟩ := h
  exact ⟨by rw [get_ne (by omega)]; exact h1, h2, by rw [get_ne (by omega)]; exact h3, fun a t ha ht => by rw [get_ne (by omega)]; exact h4 a t ha ht, fun m hm => by rw [get_ne (by omega)]; exact h5 m hm, h6, h7⟩
theorem sub48p : ∀ c, c < 127 → (inW (nI c - 48) 0 5 = decide (48 ≤ c ∧ c < 54)) := by decide +kernel
theorem sub48t : ∀ c, c < 127 → (inW (nI c - 48) 0 9 = decide (48 ≤ c ∧ c ≤ 57)) := by decide +kernel
def nsQ (c : Nat) (q : PsT) (μ : Mm) : Option Value → Mm → Prop := fun r μ' => FrR μ μ' ∧ match pst c q with
  | none => r = some (.int (-1)) ∧ RdM μ' q.2.1 q.2.2.1 q.2.2.2
  | some q' => r = some (.int (nI q'.1)) ∧ RdM μ' q'.2.1 q'.2.2.1 q'.2.2.2
theorem nsQ_no {c x w : Nat} {tn : Nat → Nat → Nat} {ow : Nat → Nat} {μ μ' : Mm} (hf : FrR μ μ') (h : pst c (x, w, tn, ow) = none) (hR : RdM μ' w tn ow) : nsQ c (x, w, tn, ow) μ (some (.int (-1))) μ' := ⟨hf, by rw [h]; exact ⟨rfl, hR⟩⟩
theorem nsQ_yes {c x w : Nat} {tn : Nat → Nat → Nat} {ow : Nat → Nat} {q : PsT} {μ μ' : Mm} {v : Int32} (hf : FrR μ μ') (h : pst c q = some (x, w, tn, ow)) (hR : RdM μ' w tn ow) (hv : v = nI x) : nsQ c q μ (some (.int v)) μ' := ⟨hf, by rw [h, hv]; exact ⟨rfl, hR⟩⟩
theorem pst_0 {c w : Nat} {tn : Nat → Nat → Nat} {ow : Nat → Nat} : pst c (0, w, tn, ow) = if c = 45 then some (2, w, tn, ow) else nmP c 1 (0, w, tn, ow) := rfl
theorem pst_1 {c w : Nat} {tn : Nat → Nat → Nat} {ow : Nat → Nat} : pst c (1, w, tn, ow) = if c = 58 then some (3, w, tn, ow) else nmP c 2 (1, w, tn, ow) := rfl
theorem pst_2 {c w : Nat} {tn : Nat → Nat → Nat} {ow : Nat → Nat} : pst c (2, w, tn, ow) = if c = 58 then some (3, w, tn, ow) else none := rfl
theorem pst_6 {c w : Nat} {tn : Nat → Nat → Nat} {ow : Nat → Nat} : pst c (6, w, tn, ow) = if w < 3 ∧ c = 47 then some (0, w + 1, tn, ow) else none := rfl
theorem nmP_y {c x x0 w : Nat} {tn : Nat → Nat → Nat} {ow : Nat → Nat} (h : 48 ≤ c ∧ c < 54 ∧ ow (c - 48) = 0) : nmP c x (x0, w, tn, ow) = some (x, w, tn, up1 ow (c - 48) (w + 1)) := if_pos h
theorem nmP_n {c x x0 w : Nat} {tn : Nat → Nat → Nat} {ow : Nat → Nat} (h : ¬ (48 ≤ c ∧ c < 54 ∧ ow (c - 48) = 0)) : nmP c x (x0, w, tn, ow) = none := if_neg h
theorem prT_s {cd : Nat → Nat} {k : Nat} {q : PsT} (h : prT cd k = some q) : prT cd (k + 1) = pst (cd k) q := by
  show (prT cd k).bind _ = _
  rw [h]; rfl
/-- what stands behind a reading -/
def rbQ (cd : Nat → Nat) (n : Nat) (μ : Mm) : Option Value → Mm → Prop := fun r μ' => r = none ∧ FrR μ μ' ∧ μ'.1 65 20 = nI (faT cd n) ∧ match prT cd n with
  | none => μ'.1 65 21 = 0
  | some q => μ'.1 65 21 = bI (decide (q.2.1 = 3 ∧ q.1 = 6)) ∧ RdM μ' q.2.1 q.2.2.1 q.2.2.2
theorem RM.book {μ μ' : Mm} {a : AT} {w : Nat} {tn : Nat → Nat → Nat} {ow : Nat → Nat} (h : RM μ a) (hR : RdM μ w tn ow) (he : ∀ k, k ≠ 65 → k ≠ 66 → k ≠ 67 → μ'.1 k = μ.1 k) (e33 : ∀ j, 33 ≤ j → μ'.1 65 j = μ.1 65 j) (e66 : ∀ k, k < 15 → μ'.1 66 k = μ.1 76 k) (e67 : ∀ k, k < 6 → μ'.1 67 k = μ.1 77 k) (e0 : μ'.1 65 0 = 1) (e1 : μ'.1 65 1 = nI (aNb a + 1)) (e2 : μ'.1 65 2 = nI (nmT ow 6)) (e5 : μ'.1 65 5 = 0) (e11 : μ'.1 65 11 = 0) (e12 : μ'.1 65 12 = 0) (e13 : μ'.1 65 13 = 0) (e15 : μ'.1 65 15 = -1) (e16 : μ'.1 65 16 = 0) (e18 : μ'.1 65 18 = 0) : RM μ' (newA a tn ow) := by
  obtain ⟨m1, m2, m3, m4, m5, m6, m7, m8, m9, m10, m11, m12, m13⟩ := id h
  obtain ⟨r1, r2, r3, r4, r5, r6, r7⟩ := hR
  refine ⟨by rw [e0]; show 1 = bI (decide (0 < aNb a + 1)); rw [decide_eq_true (by omega)]; rfl, e1, e2, fun _ => ⟨fun w s hw hs => by rw [e66 _ (by omega)]; exact r4 w s hw hs, fun n hn => by rw [e67 n hn]; exact r5 n hn⟩, e5, fun i hi => absurd hi (Nat.not_lt_zero i), e11, e12, e13, ⟨fun _ => 0, fun j hj => absurd hj (Nat.not_lt_zero j), fun n hn => rfl⟩, ?_, ⟨e18, fun j hj => by rw [he 75 (by omega) (by omega) (by omega)]; exact m12.2 j hj⟩, ?_⟩
  · exact ⟨e15, e16, fun j hj => by rw [he 74 (by omega) (by omega) (by omega)]; exact m11.2.2 j hj⟩
  · show μ'.1 65 33 = 0 ∨ (μ'.1 65 33 = 1 ∧ ∃ m, m < aNb a + 1 ∧ μ'.1 65 34 = nI m)
    rw [e33 33 (by omega), e33 34 (by omega)]
    unfold KpM at m13
    split at m13
    · exact Or.inr ⟨m13.1, aNb a, by omega, m13.2.1⟩
    · rcases m13 with q | ⟨q, m, hm, q2⟩
      · exact Or.inl q
      · exact Or.inr ⟨q, m, by omega, q2⟩
