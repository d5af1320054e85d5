
/-! ===== what wakes tell, the digest of the reference ===== -/
theorem cI_add1 (k : Nat) : cI k + 1 = cI (k + 1) := by rw [cI_s]; show nI k - 1 + 1 = nI k; exact Int32.sub_add_cancel _ _
theorem geC {k : Nat} (h : k < 2 ^ 30) : (6 : Int32) ≤ cI k ↔ 7 ≤ k := by
  rw [Int32.le_iff_toInt_le, cI_int (by omega), show (6 : Int32).toInt = 6 by decide]
  omega
def wrT (tn : Nat → Nat → Nat) (ow : Nat → Nat) (κ : Nat) (pl : Nat → Nat) (d k : Nat) : Nat → Nat
  | 0 => 0
  | w + 1 => wrT tn ow κ pl d k w + if (0 < sumT tn w 3 ∧ (k = 0 ∨ pl d ≠ 9)) ∧ aft ow κ (pl d) k w = pl (d + 1) then 1 else 0
theorem wrT_eq {tn : Nat → Nat → Nat} {ow : Nat → Nat} {κ : Nat} {pl : Nat → Nat} {d k : Nat} : ∀ n, wrT tn ow κ pl d k n = if pl d = 9 ∧ k ≠ 0 then 0 else wbT tn ow κ pl d k n
  | 0 => by simp [wrT, wbT]
  | n + 1 => by
    simp only [wrT, wbT]
    rw [wrT_eq n]
    by_cases h : pl d = 9 ∧ k ≠ 0
    · rw [if_pos h, if_pos h, if_neg (by omega)]
    · rw [if_neg h, if_neg h]
      by_cases q : 0 < sumT tn n 3 ∧ aft ow κ (pl d) k n = pl (d + 1)
      · rw [if_pos q, if_pos (by omega)]
      · rw [if_neg q, if_neg (by omega)]
def FrD (μ μ' : Mm) : Prop := μ'.1 = μ.1 ∧ μ'.2.2 = μ.2.2
theorem FrD.rf {μ : Mm} : FrD μ μ := ⟨rfl, rfl⟩
theorem FrL.D {μ μ' : Mm} (h : FrL μ μ') : FrD μ μ' := ⟨h.1, h.2.1⟩
theorem FrD.X {μ μ' : Mm} (h : FrD μ μ') : FrX μ μ' := ⟨fun k _ => by rw [h.1], h.2⟩
theorem FrD.tr {μ μ' μ2 : Mm} (h : FrD μ μ') (h2 : FrD μ' μ2) : FrD μ μ2 := ⟨h2.1.trans h.1, h2.2.trans h.2⟩
theorem FrD.set {μ μ' : Mm} (h : FrD μ μ') {k j : Nat} {v : Int64} : FrD μ (setL μ' k j v) := ⟨h.1, h.2⟩
theorem fLk {a : AT} {i : Nat} {z : Int32} (hi : i < sN (aS a)) (h6 : sN (aS a) ≤ 6) (hz : isPt z = true) : fLikely a (nI i) 2 z = lN ((if z = 0 then chT (aTn a) (aOw a) (sK (aS a) i) (1 + 1) (sP (aS a) i) (63 - sS (aS a)) else 30 ^ (1 + 1)) / Nat.gcd (chT (aTn a) (aOw a) (sK (aS a) i) (1 + 1) (sP (aS a) i) (63 - sS (aS a))) (30 ^ (1 + 1))) := by
  unfold fLikely
  rw [inN_lt hi (by omega), hz, show inD 2 4 = true from by decide, if_pos rfl, Bool.and_self, if_pos rfl, nn_nI (by omega), show nn 2 = 2 from by decide]
theorem fCd {a : AT} (h : aWb a = true) : fCalled a = nI (wyT (aTn a) (aOw a) (aWk a) (aWp a) (aWn a)) := by unfold fCalled; rw [h]; rfl
