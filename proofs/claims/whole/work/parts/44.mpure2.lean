
/-! ===== the reference's table of chances ===== -/
theorem getl_set (μ : Mm) (k j : Nat) (v : Int64) (a b : Nat) : (setL μ k j v).2.1 a b = if a = k ∧ b = j then v else μ.2.1 a b := by
  show up2 μ.2.1 k j v a b = _
  unfold up2
  by_cases h1 : a = k <;> by_cases h2 : b = j <;> simp [h1, h2]
theorem getl_ne {μ : Mm} {k j : Nat} {v : Int64} {a b : Nat} (h : ¬ (a = k ∧ b = j)) : (setL μ k j v).2.1 a b = μ.2.1 a b := by rw [getl_set, if_neg h]
theorem getl_eq {μ : Mm} {k j : Nat} {v : Int64} : (setL μ k j v).2.1 k j = v := by rw [getl_set, if_pos ⟨rfl, rfl⟩]
theorem RM.ofI {μ μ' : Mm} {a : AT} (h : RM μ a) (e : μ'.1 = μ.1) : RM μ' a := h.kept (fun j _ => by rw [e]) (fun k _ => by rw [e])
def FrL (μ μ' : Mm) : Prop := μ'.1 = μ.1 ∧ μ'.2.2 = μ.2.2 ∧ μ'.2.1 65 = μ.2.1 65
theorem FrL.rf {μ : Mm} : FrL μ μ := ⟨rfl, rfl, rfl⟩
theorem FrL.X {μ μ' : Mm} (h : FrL μ μ') : FrX μ μ' := ⟨fun k _ => by rw [h.1], h.2.1⟩
theorem FrL.set {μ μ' : Mm} (h : FrL μ μ') {k j : Nat} {v : Int64} (hk : k ≠ 65 := by decide) : FrL μ (setL μ' k j v) := ⟨h.1, h.2.1, by rw [← h.2.2]; funext b; exact getl_ne (fun q => hk q.1.symm)⟩
theorem clr_or : ∀ S, S < 64 → ∀ n, n < 6 → clr (63 - S) n = 63 - (S ||| 2 ^ n) := by decide +kernel
theorem tst_63 : ∀ S, S < 64 → ∀ n, n < 6 → (63 - S).testBit n = !S.testBit n := by decide +kernel
theorem frA_sp {κ S k : Nat} (hS : S < 64) (hk : k ≤ 6) : frA κ (63 - S) k = 63 - spB κ S k := by
  unfold frA spB
  split
  · rfl
  · exact clr_or S hS (k - 1) (by omega)
def cbT (tn : Nat → Nat → Nat) (ow : Nat → Nat) (κ : Nat) (c : Nat → Nat → Nat) (p F s k : Nat) : Nat → Nat
  | 0 => 0
  | w + 1 => cbT tn ow κ c p F s k w + tn w s * c (aft ow κ p k w) (frA κ F k)
theorem cbT_wo {tn : Nat → Nat → Nat} {ow : Nat → Nat} {κ : Nat} {c : Nat → Nat → Nat} {p F s k : Nat} (h : TnOK tn) (hs : s < 3) : cbT tn ow κ c p F s k 5 = woT tn ow κ c p F s k := by
  have e := h s hs
  have a4 : aft ow κ p k 4 = p := if_pos rfl
  have an : ∀ w, w < 4 → c (aft ow κ p k w) (frA κ F k) = if fav ow k w = true then c (ahd κ p k) (frA κ F k) else c (bhd κ p k) (frA κ F k) := fun w hw => by
    rw [show aft ow κ p k w = if fav ow k w = true then ahd κ p k else bhd κ p k from if_neg (by omega)]
    split <;> rfl
  simp only [cbT, woT]
  rw [a4, an 0 (by omega), an 1 (by omega), an 2 (by omega), an 3 (by omega)]
  simp only [favT]
  generalize c (ahd κ p k) (frA κ F k) = A
  generalize c (bhd κ p k) (frA κ F k) = B
  generalize c p (frA κ F k) = C
  generalize tn 0 s = t0 at e ⊢
  generalize tn 1 s = t1 at e ⊢
  generalize tn 2 s = t2 at e ⊢
  generalize tn 3 s = t3 at e ⊢
  generalize tn 4 s = t4 at e ⊢
  have key : ∀ (x b : Nat), x + b + t4 = 10 → x * A + (10 - x - t4) * B + t4 * C = x * A + b * B + t4 * C := fun x b hx => by rw [show 10 - x - t4 = b by omega]
  cases fav ow k 0 <;> cases fav ow k 1 <;> cases fav ow k 2 <;> cases fav ow k 3 <;> simp only [if_true, if_false, Bool.false_eq_true, Nat.zero_add, Nat.add_zero]
  · rw [key _ (t0 + t1 + t2 + t3) (by omega)]; try (simp only [Nat.add_mul, Nat.zero_mul]; try omega)
  · rw [key _ (t0 + t1 + t2) (by omega)]; try (simp only [Nat.add_mul, Nat.zero_mul]; try omega)
  · rw [key _ (t0 + t1 + t3) (by omega)]; try (simp only [Nat.add_mul, Nat.zero_mul]; try omega)
  · rw [key _ (t0 + t1) (by omega)]; try (simp only [Nat.add_mul, Nat.zero_mul]; try omega)
  · rw [key _ (t0 + t2 + t3) (by omega)]; try (simp only [Nat.add_mul, Nat.zero_mul]; try omega)
  · rw [key _ (t0 + t2) (by omega)]; try (simp only [Nat.add_mul, Nat.zero_mul]; try omega)
  · rw [key _ (t0 + t3) (by omega)]; try (simp only [Nat.add_mul, Nat.zero_mul]; try omega)
  · rw [key _ (t0) (by omega)]; try (simp only [Nat.add_mul, Nat.zero_mul]; try omega)
  · rw [key _ (t1 + t2 + t3) (by omega)]; try (simp only [Nat.add_mul, Nat.zero_mul]; try omega)
  · rw [key _ (t1 + t2) (by omega)]; try (simp only [Nat.add_mul, Nat.zero_mul]; try omega)
  · rw [key _ (t1 + t3) (by omega)]; try (simp only [Nat.add_mul, Nat.zero_mul]; try omega)
  · rw [key _ (t1) (by omega)]; try (simp only [Nat.add_mul, Nat.zero_mul]; try omega)
  · rw [key _ (t2 + t3) (by omega)]; try (simp only [Nat.add_mul, Nat.zero_mul]; try omega)
  · rw [key _ (t2) (by omega)]; try (simp only [Nat.add_mul, Nat.zero_mul]; try omega)
  · rw [key _ (t3) (by omega)]; try (simp only [Nat.add_mul, Nat.zero_mul]; try omega)
  · rw [key _ (0) (by omega)]; try (simp only [Nat.add_mul, Nat.zero_mul]; try omega)

theorem cbT_le {tn : Nat → Nat → Nat} {ow : Nat → Nat} {κ : Nat} {c : Nat → Nat → Nat} {p F s k M : Nat} (h : TnOK tn) (hs : s < 3) (hc : ∀ p F, c p F ≤ M) : ∀ n, n ≤ 5 → cbT tn ow κ c p F s k n ≤ 10 * n * M
  | 0, _ => Nat.zero_le _
  | n + 1, hn => by
    have h1 := cbT_le (ow := ow) (κ := κ) (p := p) (F := F) (k := k) h hs hc n (by omega)
    have h2 : tn n s * c (aft ow κ p k n) (frA κ F k) ≤ 10 * M := Nat.mul_le_mul (h.le (by omega) hs) (hc _ _)
    have h3 : 10 * (n + 1) * M = 10 * n * M + 10 * M := by rw [Nat.mul_add, Nat.add_mul]
    simp only [cbT]
    omega
theorem chT9 {tn : Nat → Nat → Nat} {ow : Nat → Nat} {κ d F : Nat} : chT tn ow κ d 9 F = 30 ^ d := by
  cases d <;> simp [chT]
theorem woT9 {tn : Nat → Nat → Nat} {ow : Nat → Nat} {κ d F s k : Nat} (h : TnOK tn) (hs : s < 3) (hκ : κ ≤ 4) : woT tn ow κ (chT tn ow κ d) 9 F s k = 10 * 30 ^ d := by
  have e1 : ahd κ 9 k = 9 := by unfold ahd; omega
  have e2 : bhd κ 9 k = 9 := by unfold bhd; rfl
  have h9 := fav4_le (ow := ow) h (k := k) hs
  unfold woT
  rw [e1, e2, chT9, ← Nat.add_mul, ← Nat.add_mul]
  congr 1
  omega
theorem beT9 {tn : Nat → Nat → Nat} {ow : Nat → Nat} {κ d F s : Nat} (h : TnOK tn) (hs : s < 3) (hκ : κ ≤ 4) : ∀ n, beT tn ow κ (chT tn ow κ d) 9 F s n = (0, 10 * 30 ^ d)
  | 0 => by show (0, woT tn ow κ (chT tn ow κ d) 9 F s 0) = _; rw [woT9 h hs hκ]
  | n + 1 => by
    simp only [beT]
    rw [beT9 h hs hκ n, woT9 h hs hκ]
    exact if_neg (fun q => absurd q.2 (Nat.lt_irrefl _))
def ChL (μ : Mm) (tn : Nat → Nat → Nat) (ow : Nat → Nat) (κ d : Nat) : Prop := ∀ S p, S < 64 → p ≤ 9 → μ.2.1 78 (640 * d + 10 * S + p) = lN (chT tn ow κ d p (63 - S))
theorem lcmp_gt {x y : Nat} (hx : x < 2 ^ 63) (hy : y < 2 ^ 63) : lg_cmp (lN x) (lN y) ≤ 0 ↔ ¬ y < x := by
  unfold lg_cmp
  by_cases h : y < x
  · rw [if_pos (show lN x > lN y from (pk_lLT hy hx).mpr h)]; simp [h]
  · rw [if_neg (show ¬ lN x > lN y from fun q => h ((pk_lLT hy hx).mp q))]
    by_cases e : x = y
    · subst e; simp
    · rw [if_neg (fun q => e ((pk_lEQ hx hy).mp q))]; simp [h]
theorem lcmp_m1 {y : Nat} (hy : y < 2 ^ 63) : lg_cmp (-1) (lN y) ≤ 0 := by
  unfold lg_cmp
  have h : ¬ (-1 : Int64) > lN y := by
    show ¬ lN y < -1
    rw [Int64.lt_iff_toInt_lt, pk_lT hy, show (-1 : Int64).toInt = -1 by decide]
    omega
  have h2 : ¬ (-1 : Int64) = lN y := by
    rw [← Int64.toInt_inj, pk_lT hy, show (-1 : Int64).toInt = -1 by decide]
    omega
  rw [if_neg h, if_neg h2]
  decide
