
/-! ===== the reference's cells hold a state ===== -/
def gsF (f : Nat → Nat) (n : Nat) : Nat → Int32
  | 0 => 31
  | k + 1 => if f k % 8 = n then gsF f n k &&& msk (decide (63 < f k)) (f k / 8 % 8) else gsF f n k
def AnR (μ : Mm) (c k : Nat) (G : Nat → Int32) : Prop := ∃ f : Nat → Nat, (∀ j, j < k → μ.1 c j = nI (f j) ∧ f j < 128 ∧ f j % 8 < 6 ∧ f j / 8 % 8 < 4) ∧ ∀ n, n < 6 → gsF f n k = G n
def ShM (μ : Mm) (i κ p c : Nat) (v t : Int32) : Prop := μ.1 68 i = nI κ ∧ μ.1 69 i = nI p ∧ μ.1 70 i = cI c ∧ μ.1 71 i = v ∧ μ.1 72 i = t
def BkM (μ : Mm) (a : AT) : Prop := (∀ w s, w < 5 → s < 3 → μ.1 66 (3 * w + s) = nI (aTn a w s)) ∧ ∀ n, n < 6 → μ.1 67 n = cI (aOw a n)
def WkM (μ : Mm) (a : AT) : Prop := (if aWb a then ∃ z, z < sN (aS a) ∧ μ.1 65 15 = nI z ∧ sK (aS a) z = aWk a else μ.1 65 15 = -1) ∧ μ.1 65 16 = nI (aWn a) ∧ ∀ j, j < 7 → μ.1 74 j = nI (aWp a j)
def KpM (μ : Mm) (a : AT) : Prop := if aKf a then μ.1 65 33 = 1 ∧ μ.1 65 34 = nI (aNb a) ∧ μ.1 65 35 = nI (sN (aKs a)) ∧ μ.1 65 36 = nI (sS (aKs a)) ∧ μ.1 65 37 = sD (aKs a) ∧ μ.1 65 38 = nI (sA (aKs a)) ∧ AnR μ 87 (sA (aKs a)) (sG (aKs a)) ∧ (∀ i, i < sN (aKs a) → μ.1 84 i = nI (sP (aKs a) i) ∧ μ.1 85 i = sV (aKs a) i ∧ μ.1 86 i = sT (aKs a) i ∧ sK (aKs a) i = sK (aS a) i) ∧ sN (aKs a) ≤ sN (aS a)
  else μ.1 65 33 = 0 ∨ (μ.1 65 33 = 1 ∧ ∃ m, m < aNb a ∧ μ.1 65 34 = nI m)
def RM (μ : Mm) (a : AT) : Prop := μ.1 65 0 = bI (decide (0 < aNb a)) ∧ μ.1 65 1 = nI (aNb a) ∧ μ.1 65 2 = nI (nmT (aOw a) 6) ∧ (0 < aNb a → BkM μ a) ∧ μ.1 65 5 = nI (sN (aS a)) ∧ (∀ i, i < sN (aS a) → ShM μ i (sK (aS a) i) (sP (aS a) i) (sC (aS a) i) (sV (aS a) i) (sT (aS a) i)) ∧ μ.1 65 11 = nI (sS (aS a)) ∧ μ.1 65 12 = sD (aS a) ∧ μ.1 65 13 = nI (sA (aS a)) ∧ AnR μ 73 (sA (aS a)) (sG (aS a)) ∧ WkM μ a ∧ (μ.1 65 18 = nI (aPn a) ∧ ∀ j, j < 30 → μ.1 75 j = nI (aPc a j)) ∧ KpM μ a
/-- ranges, and what runs of calls keep -/
def SeaOK (σ : SeaT) : Prop := sN σ ≤ 6 ∧ sS σ < 64 ∧ sA σ ≤ 40 ∧ ∀ i, i < 6 → sK σ i ≤ 4 ∧ sP σ i ≤ 9 ∧ sC σ i ≤ 6
def AOK (a : AT) : Prop := aPn a ≤ 30 ∧ (∀ j, j < 30 → aPc a j ≤ 126) ∧ aNb a ≤ 600 ∧ TnOK (aTn a) ∧ (∀ n, n < 6 → aOw a n ≤ 4) ∧ SeaOK (aS a) ∧ SeaOK (aKs a) ∧ aWk a ≤ 4 ∧ aWn a ≤ 6 ∧ ∀ j, j < 7 → aWp a j ≤ 9
/-- a sea without a BOOK is empty; a name that is spent and called today is called by one who spends -/
def AJ (a : AT) : Prop := (aNb a = 0 → sN (aS a) = 0 ∧ aWb a = false) ∧ ∀ c i, i < sN (aS a) → sC (aS a) i = c → c ≠ 0 → (sS (aS a)).testBit (c - 1) = true → anyC (aS a) c (sN (aS a)) = true
theorem SeaR.ok {μ : Mm} {s : Nat} {σ : SeaT} (h : SeaR μ s σ) : SeaOK σ := ⟨h.2.1, h.2.2.2.1, h.2.2.2.2.2.2.1, fun i hi => ⟨(h.2.2.2.2.2.2.2.1 i hi).2.1, (h.2.2.2.2.2.2.2.1 i hi).2.2.2.1, (h.2.2.2.2.2.2.2.1 i hi).2.2.2.2.2.1⟩⟩
theorem RC.ok {μ : Mm} {a : AT} (h : RC μ a) : AOK a := by
  obtain ⟨a1, a2, a3, a4, ⟨b, hb, hcur, hdrf, hB⟩, hS, hK, hD, hW⟩ := h
  exact ⟨a1.2.1, fun j hj => (a1.2.2 j hj).2, a3, hB.2.2.2, hB.2.2.1, hS.ok, hK.ok, hW.2.2.1, hW.2.2.2.2.1, fun j hj => (hW.2.2.2.2.2 j hj).2⟩
theorem TnOK.le {tn : Nat → Nat → Nat} (h : TnOK tn) {w s : Nat} (hw : w < 5) (hs : s < 3) : tn w s ≤ 10 := by
  have h4 := h s hs
  rcases (show w = 0 ∨ w = 1 ∨ w = 2 ∨ w = 3 ∨ w = 4 by omega) with rfl | rfl | rfl | rfl | rfl <;> omega
/-- a call of the reference leaves the class's cells -/
def FrX (μ μ' : Mm) : Prop := (∀ k, k < 65 → μ'.1 k = μ.1 k) ∧ μ'.2.2 = μ.2.2
theorem FrX.rf {μ : Mm} : FrX μ μ := ⟨fun _ _ => rfl, rfl⟩
theorem FrX.tr {μ μ' μ2 : Mm} (h : FrX μ μ') (h2 : FrX μ' μ2) : FrX μ μ2 := ⟨fun k hk => (h2.1 k hk).trans (h.1 k hk), h2.2.trans h.2⟩
theorem FrX.set {μ μ' : Mm} (h : FrX μ μ') {k j : Nat} {v : Int32} (hk : 65 ≤ k) : FrX μ (setI μ' k j v) := ⟨fun a ha => by
  have hn : a ≠ k := by omega
  show up2 μ'.1 k j v a = _
  rw [up2_ne hn]
  exact h.1 a ha, h.2⟩
theorem FrX.setl {μ μ' : Mm} (h : FrX μ μ') {k j : Nat} {v : Int64} : FrX μ (setL μ' k j v) := ⟨h.1, h.2⟩
theorem FrM.X {S : Nat → Prop} {μ μ' : Mm} (h : FrM S μ μ') (hS : ∀ k, S k → 65 ≤ k) : FrX μ μ' := ⟨fun k hk => h.1 k (fun q => by have := hS k q; omega), by rw [h.2]⟩
theorem RC.X {μ μ' : Mm} {a : AT} (h : RC μ a) (hf : FrX μ μ') : RC μ' a := by
  obtain ⟨a1, a2, a3, a4, ⟨b, hb, hcur, hdrf, hB⟩, hS, hK, ⟨τ, hD⟩, hW⟩ := h
  have f : FrM (fun k => 65 ≤ k) (μ.1, μ'.2) μ' := ⟨fun k hk => hf.1 k (by omega), rfl⟩
  have s : ∀ s, (s = 4 ∨ s = 13 ∨ s = 22) → ∀ k, seaS s k → ¬ 65 ≤ k := fun s hs k hk q => by have := seaC hs k hk; omega
  refine ⟨PgR.kept (μ := (μ.1, μ'.2)) a1 f (by omega) (by omega), by rw [hf.1 0 (by omega)]; exact a2, a3, by rw [hf.1 0 (by omega)]; exact a4, ⟨b, hb, by rw [hf.2]; exact hcur, by rw [hf.2]; exact hdrf, BkR.kept (μ := (μ.1, μ'.2)) hB f (fun k h1 h2 q => by omega)⟩, SeaR.kept (μ := (μ.1, μ'.2)) hS f (s 4 (Or.inl rfl)), SeaR.kept (μ := (μ.1, μ'.2)) hK f (s 13 (Or.inr (Or.inl rfl))), ⟨τ, SeaR.kept (μ := (μ.1, μ'.2)) hD f (s 22 (Or.inr (Or.inr rfl)))⟩, WkR.kept (μ := (μ.1, μ'.2)) hW f (by omega) (by omega)⟩
theorem AnR.kept {μ μ' : Mm} {c k : Nat} {G : Nat → Int32} (h : AnR μ c k G) (e : μ'.1 c = μ.1 c) : AnR μ' c k G := by
  obtain ⟨f, h1, h2⟩ := h
  exact ⟨f, fun j hj => by rw [e]; exact h1 j hj, h2⟩
/-- the reference's scratch may change -/
theorem RM.kept {μ μ' : Mm} {a : AT} (h : RM μ a) (e65 : ∀ j, (j = 0 ∨ j = 1 ∨ j = 2 ∨ j = 5 ∨ j = 11 ∨ j = 12 ∨ j = 13 ∨ j = 15 ∨ j = 16 ∨ j = 18 ∨ (33 ≤ j ∧ j ≤ 38)) → μ'.1 65 j = μ.1 65 j) (ea : ∀ k, (66 ≤ k ∧ k ≤ 75) ∨ (84 ≤ k ∧ k ≤ 87) → μ'.1 k = μ.1 k) : RM μ' a := by
  obtain ⟨h1, h2, h3, h4, h5, h6, h7, h8, h9, h10, h11, h12, h13⟩ := h
  refine ⟨by rw [e65 0 (by omega)]; exact h1, by rw [e65 1 (by omega)]; exact h2, by rw [e65 2 (by omega)]; exact h3, fun hb => ⟨fun w s hw hs => by rw [ea 66 (by omega)]; exact (h4 hb).1 w s hw hs, fun n hn => by rw [ea 67 (by omega)]; exact (h4 hb).2 n hn⟩, by rw [e65 5 (by omega)]; exact h5, fun i hi => ?_, by rw [e65 11 (by omega)]; exact h7, by rw [e65 12 (by omega)]; exact h8, by rw [e65 13 (by omega)]; exact h9, h10.kept (ea 73 (by omega)), ?_, ⟨by rw [e65 18 (by omega)]; exact h12.1, fun j hj => by rw [ea 75 (by omega)]; exact h12.2 j hj⟩, ?_⟩
  · unfold ShM
    rw [ea 68 (by omega), ea 69 (by omega), ea 70 (by omega), ea 71 (by omega), ea 72 (by omega)]
    exact h6 i hi
  · unfold WkM
    rw [e65 15 (by omega), e65 16 (by omega), ea 74 (by omega)]
    exact h11
  · unfold KpM at h13 ⊢
    rw [e65 33 (by omega), e65 34 (by omega), e65 35 (by omega), e65 36 (by omega), e65 37 (by omega), e65 38 (by omega), ea 84 (by omega), ea 85 (by omega), ea 86 (by omega)]
    split
    · rename_i hk
      rw [if_pos hk] at h13
      exact ⟨h13.1, h13.2.1, h13.2.2.1, h13.2.2.2.1, h13.2.2.2.2.1, h13.2.2.2.2.2.1, h13.2.2.2.2.2.2.1.kept (ea 87 (by omega)), h13.2.2.2.2.2.2.2⟩
    · rename_i hk
      rw [if_neg hk] at h13
      exact h13
def inW (x lo hi : Int32) : Bool := decide (¬ x < lo) && decide (¬ hi < x)
theorem inW_N {x M : Int32} {n : Nat} (hM : M.toInt + 1 = (n : Int)) : inW x 0 M = inN x n := by
  unfold inW inN
  rw [Bool.eq_iff_iff, Bool.and_eq_true, decide_eq_true_eq, decide_eq_true_eq, decide_eq_true_eq, Int32.lt_iff_toInt_lt, Int32.lt_iff_toInt_lt, i0]
  omega
theorem inW_D {x M : Int32} {n : Nat} (hM : M.toInt = (n : Int)) : inW x 1 M = inD x n := by
  unfold inW inD
  rw [Bool.eq_iff_iff, Bool.and_eq_true, decide_eq_true_eq, decide_eq_true_eq, decide_eq_true_eq, Int32.lt_iff_toInt_lt, Int32.lt_iff_toInt_lt, i1]
  omega
theorem inW_P (x : Int32) : inW x 0 1 = isPt x := by
  unfold inW isPt
  have e1 : (1 : Int32).toInt = 1 := by decide
  rw [Bool.eq_iff_iff, Bool.and_eq_true, Bool.or_eq_true, decide_eq_true_eq, decide_eq_true_eq, decide_eq_true_eq, decide_eq_true_eq, Int32.lt_iff_toInt_lt, Int32.lt_iff_toInt_lt, i0, e1, ← Int32.toInt_inj, ← Int32.toInt_inj, i0, e1]
  omega

def cntU (S : Nat) : Nat → Nat
  | 0 => 0
  | n + 1 => cntU S n + if S.testBit n then 1 else 0
theorem cntU_6 (S : Nat) : cntU S 6 = cntB S := by simp only [cntU, cntB]; omega
theorem bI_nI (b : Bool) : bI b = nI (if b then 1 else 0) := by cases b <;> rfl
theorem cI_n1 (n : Nat) : nI n - 1 = cI n := rfl
theorem spOr {κ S k : Nat} : (if k = 0 ∨ κ = 4 then S else S ||| 2 ^ (k - 1)) = (if k = 0 ∨ κ = 4 then S else S ||| 2 ^ (k - 1)) := rfl
def spB (κ S k : Nat) : Nat := if k = 0 ∨ κ = 4 then S else S ||| 2 ^ (k - 1)
theorem spB_lt {κ S k : Nat} (h : S < 64) (hk : k ≤ 6) : spB κ S k < 64 := by
  unfold spB
  split
  · exact h
  · exact bit_set_lt S h (k - 1) (by omega)
def p30N : Nat → Nat
  | 0 => 1
  | n + 1 => p30N n * 30
theorem p30N_eq : ∀ n, p30N n = 30 ^ n
  | 0 => rfl
  | n + 1 => by rw [Nat.pow_succ, ← p30N_eq n]; rfl
theorem cmp0 {a : Nat} (h : a < 2 ^ 63) : lg_cmp (lN a) 0 = 0 ↔ a = 0 := by
  have e : (0 : Int64) = lN 0 := rfl
  unfold lg_cmp
  rw [e]
  by_cases h0 : a = 0
  · subst h0
    simp
  · have h1 : ¬ lN a < lN 0 := by rw [pk_lLT h (by decide)]; omega
    have h2 : lN 0 < lN a := by rw [pk_lLT (by decide) h]; omega
    have h3 : ¬ lN a = lN 0 := by rw [pk_lEQ h (by decide)]; exact h0
    simp [h0, h1, h2, h3]
theorem bI_01 (b : Bool) : bI b = 0 ∨ bI b = 1 := by cases b; exact Or.inl rfl; exact Or.inr rfl
