
/-! ===== what a forecast leaves, and the digest ===== -/
theorem RC.kept {S : Nat → Prop} {μ μ' : Mm} {a : AT} (h : RC μ a) (hf : FrM S μ μ') (hS : ∀ k, S k → k = 3 ∨ (22 ≤ k ∧ k ≤ 30) ∨ (33 ≤ k ∧ k ≤ 48)) (h22 : ∃ τ, SeaR μ' 22 τ) : RC μ' a := by
  obtain ⟨a1, a2, a3, a4, ⟨b, hb, hcur, hdrf, hB⟩, hA, hK, hD, hW⟩ := h
  have n : ∀ k, ¬ (k = 3 ∨ (22 ≤ k ∧ k ≤ 30) ∨ (33 ≤ k ∧ k ≤ 48)) → ¬ S k := fun k q z => q (hS k z)
  refine ⟨a1.kept hf (n 1 (by omega)) (n 2 (by omega)), by rw [hf.1 0 (n 0 (by omega))]; exact a2, a3, by rw [hf.1 0 (n 0 (by omega))]; exact a4, ⟨b, hb, by rw [hf.2]; exact hcur, by rw [hf.2]; exact hdrf, hB.kept hf (fun k h1 h2 => n k (by omega))⟩, hA.kept hf (fun k hk => n k (by rcases hk with q | q <;> omega)), hK.kept hf (fun k hk => n k (by rcases hk with q | q <;> omega)), h22, hW.kept hf (n 31 (by omega)) (n 32 (by omega))⟩
theorem RC.fc {S : Nat → Prop} {μ μ' : Mm} {a : AT} (h : RC μ a) (hf : FrM S μ μ') (hS : ∀ k, S k → 33 ≤ k ∧ k ≤ 48) : RC μ' a := by
  obtain ⟨τ, hτ⟩ := h.2.2.2.2.2.2.2.1
  exact h.kept hf (fun k hk => Or.inr (Or.inr (hS k hk))) ⟨τ, hτ.kept hf (fun k hk q => by have := hS k q; rcases hk with z | z <;> omega)⟩
theorem suD_step {tn : Nat → Nat → Nat} {ow : Nat → Nat} {κ p F d : Nat} (h : d ≤ 4) : suD tn ow κ p F (5 - d) = if chT tn ow κ d p F = 30 ^ d then d else suD tn ow κ p F (5 - (d + 1)) := by
  rcases (show d = 0 ∨ d = 1 ∨ d = 2 ∨ d = 3 ∨ d = 4 by omega) with rfl | rfl | rfl | rfl | rfl <;> rfl
def mx (h v : Int64) : Int64 := 31 * h + v
def mxF (f : Nat → Int64) (h : Int64) : Nat → Int64
  | 0 => h
  | n + 1 => mx (mxF f h n) (f n)
def dBk (a : AT) (h : Int64) : Int64 := mx (mxF (fun n => (cI (aOw a n)).toInt64) (mxF (fun k => (nI (aTn a (k / 3) (k % 3))).toInt64) h 15) 6) (nI (tellT (aTn a) 3)).toInt64
def dSh (a : AT) (h : Int64) (i : Nat) : Int64 := mx (mx (mxF (fun q => (tel (aS a) i q).toInt64) h 5) (fLikely a (nI i) 2 0)) (fLikely a (nI i) 2 1)
def dNm (a : AT) (h : Int64) : Nat → Int64
  | 0 => h
  | n + 1 => mx (mx (dNm a h n) (bI ((sS (aS a)).testBit n)).toInt64) (sG (aS a) n).toInt64
def dSs (a : AT) (h : Int64) : Nat → Int64
  | 0 => h
  | n + 1 => dSh a (dSs a h n) n
def fDigest (a : AT) : Int64 :=
  let h0 : Int64 := 661
  let h1 := if 0 < aNb a then dBk a h0 else h0
  let h2 := dNm a h1 6
  let h3 := dSs a h2 (sN (aS a))
  let h4 := if aWb a then mx h3 (fCalled a).toInt64 else h3
  let h5 := mxF (fun i => (nI (aPc a i)).toInt64) h4 (aPn a)
  mxF (fun q => (fCount a (nI q)).toInt64) h5 9
