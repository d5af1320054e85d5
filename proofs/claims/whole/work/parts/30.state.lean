
/-! ===== the state of a sea as both sides tell it ===== -/
abbrev AT : Type := (Nat × (Nat → Nat)) × (Nat × (Nat → Nat → Nat) × (Nat → Nat)) × SeaT × (Bool × SeaT) × (Bool × Nat × Nat × (Nat → Nat))
def mkA (pn : Nat) (pc : Nat → Nat) (nb : Nat) (tn : Nat → Nat → Nat) (ow : Nat → Nat) (σ : SeaT) (kf : Bool) (ks : SeaT) (wb : Bool) (wk wn : Nat) (wp : Nat → Nat) : AT := ((pn, pc), (nb, tn, ow), σ, (kf, ks), (wb, wk, wn, wp))
def aPn (a : AT) : Nat := a.1.1
def aPc (a : AT) : Nat → Nat := a.1.2
def aNb (a : AT) : Nat := a.2.1.1
def aTn (a : AT) : Nat → Nat → Nat := a.2.1.2.1
def aOw (a : AT) : Nat → Nat := a.2.1.2.2
def aS (a : AT) : SeaT := a.2.2.1
def aKf (a : AT) : Bool := a.2.2.2.1.1
def aKs (a : AT) : SeaT := a.2.2.2.1.2
def aWb (a : AT) : Bool := a.2.2.2.2.1
def aWk (a : AT) : Nat := a.2.2.2.2.2.1
def aWn (a : AT) : Nat := a.2.2.2.2.2.2.1
def aWp (a : AT) : Nat → Nat := a.2.2.2.2.2.2.2
/-- the class's cells hold a state -/
def RC (μ : Mm) (a : AT) : Prop := PgR μ (aPn a) (aPc a) ∧ μ.1 0 9 = nI (aNb a) ∧ aNb a ≤ 600 ∧ μ.1 0 10 = bI (aKf a) ∧ (∃ b, (b = 49 ∨ b = 57) ∧ μ.2.2.1 = b ∧ μ.2.2.2 = 106 - b ∧ BkR μ b (aTn a) (aOw a)) ∧ SeaR μ 4 (aS a) ∧ SeaR μ 13 (aKs a) ∧ (∃ τ, SeaR μ 22 τ) ∧ WkR μ (aWb a) (aWk a) (aWn a) (aWp a)
/-- a call of the class leaves the reference's cells -/
def FrC (μ μ' : Mm) : Prop := (∀ k, 65 ≤ k → μ'.1 k = μ.1 k) ∧ μ'.2.1 = μ.2.1
theorem FrC.rf {μ : Mm} : FrC μ μ := ⟨fun _ _ => rfl, rfl⟩
theorem FrM.C {S : Nat → Prop} {μ μ' : Mm} (h : FrM S μ μ') (hS : ∀ k, S k → k < 65) : FrC μ μ' := ⟨fun k hk => h.1 k (fun q => by have := hS k q; omega), by rw [h.2]⟩
theorem FrC.tr {μ μ' μ2 : Mm} (h : FrC μ μ') (h2 : FrC μ' μ2) : FrC μ μ2 := ⟨fun k hk => (h2.1 k hk).trans (h.1 k hk), h2.2.trans h.2⟩
/-- an int names one of n things -/
def inN (x : Int32) (n : Nat) : Bool := decide (0 ≤ x.toInt ∧ x.toInt < (n : Int))
def inD (x : Int32) (n : Nat) : Bool := decide (1 ≤ x.toInt ∧ x.toInt ≤ (n : Int))
def nn (x : Int32) : Nat := x.toNatClampNeg
theorem nn_nI {j : Nat} (h : j < 2 ^ 31) : nn (nI j) = j := nI_clamp h
theorem i0 : (0 : Int32).toInt = 0 := by decide
theorem i1 : (1 : Int32).toInt = 1 := by decide
theorem inR_N {x M : Int32} {n : Nat} (hM : M.toInt = (n : Int)) : inR x M = inN x n := by
  unfold inR inN
  rw [Bool.eq_iff_iff, Bool.and_eq_true, decide_eq_true_eq, decide_eq_true_eq, decide_eq_true_eq, Int32.lt_iff_toInt_lt, Int32.le_iff_toInt_le, hM, i0]
  omega
theorem inN_of {x : Int32} {n : Nat} (hn : n < 2 ^ 31) (h : inN x n = true) : ∃ j, j < n ∧ x = nI j := by
  rw [← inR_N (M := nI n) (nI_toInt hn)] at h
  exact inR_of rfl hn h
theorem inN_nI {j n : Nat} (hj : j < 2 ^ 31) : inN (nI j) n = decide (j < n) := by
  unfold inN
  rw [nI_toInt hj]
  congr 1
  rw [eq_iff_iff]
  omega
theorem inN_t {x M : Int32} {n : Nat} (hM : M.toInt = (n : Int)) (h : ¬ x < 0) (h2 : ¬ M ≤ x) : inN x n = true := by
  unfold inN
  rw [decide_eq_true_eq]
  rw [Int32.lt_iff_toInt_lt, i0] at h
  rw [Int32.le_iff_toInt_le, hM] at h2
  omega
theorem inN_f1 {x : Int32} {n : Nat} (h : x < 0) : inN x n = false := by
  unfold inN
  rw [decide_eq_false_iff_not]
  rw [Int32.lt_iff_toInt_lt, i0] at h
  omega
theorem inN_f2 {x M : Int32} {n : Nat} (hM : M.toInt = (n : Int)) (h2 : M ≤ x) : inN x n = false := by
  unfold inN
  rw [decide_eq_false_iff_not]
  rw [Int32.le_iff_toInt_le, hM] at h2
  omega
theorem inN_t' {x M : Int32} {n : Nat} (hM : M.toInt + 1 = (n : Int)) (h : ¬ x < 0) (h2 : ¬ M < x) : inN x n = true := by
  unfold inN
  rw [decide_eq_true_eq]
  rw [Int32.lt_iff_toInt_lt, i0] at h
  rw [Int32.lt_iff_toInt_lt] at h2
  omega
theorem inN_f2' {x M : Int32} {n : Nat} (hM : M.toInt + 1 = (n : Int)) (h2 : M < x) : inN x n = false := by
  unfold inN
  rw [decide_eq_false_iff_not]
  rw [Int32.lt_iff_toInt_lt] at h2
  omega
theorem inD_t {x M : Int32} {n : Nat} (hM : M.toInt = (n : Int)) (h : ¬ x < 1) (h2 : ¬ M < x) : inD x n = true := by
  unfold inD
  rw [decide_eq_true_eq]
  rw [Int32.lt_iff_toInt_lt, i1] at h
  rw [Int32.lt_iff_toInt_lt] at h2
  omega
theorem inD_f1 {x : Int32} {n : Nat} (h : x < 1) : inD x n = false := by
  unfold inD
  rw [decide_eq_false_iff_not]
  rw [Int32.lt_iff_toInt_lt, i1] at h
  omega
theorem inD_f2 {x M : Int32} {n : Nat} (hM : M.toInt = (n : Int)) (h2 : M < x) : inD x n = false := by
  unfold inD
  rw [decide_eq_false_iff_not]
  rw [Int32.lt_iff_toInt_lt] at h2
  omega
theorem inD_of {x : Int32} {n : Nat} (hn : n < 2 ^ 31) (h : inD x n = true) : ∃ d, d + 1 ≤ n ∧ x = nI (d + 1) := by
  have h2 : 1 ≤ x.toInt ∧ x.toInt ≤ (n : Int) := of_decide_eq_true h
  obtain ⟨j, hj, rfl⟩ := nI_of (x := x) (by rw [Int32.lt_iff_toInt_lt, i0]; omega)
  rw [nI_toInt hj] at h2
  exact ⟨j - 1, by omega, by rw [Nat.sub_add_cancel (by omega)]⟩
theorem bI_ne {b : Bool} (h : ¬ bI b = 0) : b = true := by cases b; exact absurd rfl h; rfl
theorem bI_e {b : Bool} (h : bI b = 0) : b = false := (bI_0 b).mp h
def tel (σ : SeaT) (i q : Nat) : Int32 := if q = 0 then nI (sK σ i) else if q = 1 then nI (sP σ i) else if q = 2 then cI (sC σ i) else if q = 3 then sV σ i else sT σ i
theorem tel_eq {μ : Mm} {z i q : Nat} {σ : SeaT} (h : ShR μ z (sK σ i) (sP σ i) (sC σ i) (sV σ i) (sT σ i)) (hq : q ≤ 4) : μ.1 z q = tel σ i q := by
  obtain ⟨z1, z2, z3, z4, z5, z6, z7, z8⟩ := h
  rcases (show q = 0 ∨ q = 1 ∨ q = 2 ∨ q = 3 ∨ q = 4 by omega) with rfl | rfl | rfl | rfl | rfl
  · exact z1
  · exact z3
  · exact z5
  · exact z7
  · exact z8
/-! what each call answers -/
def fTenths (a : AT) (x y : Int32) : Int32 := if inN x 5 && inN y 3 then (if 0 < aNb a then nI (aTn a (nn x) (nn y)) else -103) else -101
def fWindOf (a : AT) (x : Int32) : Int32 := if inN x 6 then (if 0 < aNb a then cI (aOw a (nn x)) else -103) else -101
def fAbout (a : AT) (x y : Int32) : Int32 := if inN x (sN (aS a)) then (if inN y 5 then tel (aS a) (nn x) (nn y) else -102) else -101
def isA (κ q : Nat) : Bool := q == 0 || q == κ || (q == 3 && κ == 4)
def fAs (a : AT) (x y : Int32) : Int32 := if inN x (sN (aS a)) then (if inN y 5 then (if isA (sK (aS a) (nn x)) (nn y) then x else -1) else -102) else -101
def fSpent (a : AT) (x : Int32) : Int32 := if inN x 6 then bI ((sS (aS a)).testBit (nn x)) else -101
def fGuess (a : AT) (x : Int32) : Int32 := if inN x 6 then sG (aS a) (nn x) else -101
def fTells (a : AT) : Int32 := if 0 < aNb a then nI (tellT (aTn a) 3) else -103
def fCalled (a : AT) : Int32 := if aWb a then nI (wyT (aTn a) (aOw a) (aWk a) (aWp a) (aWn a)) else -103
def fBy (a : AT) (x : Int32) : Int32 := if aWb a then (if inN x (aWn a) then cI (byT (aTn a) (aOw a) (aWk a) (aWp a) (aWn a) (nn x)) else -101) else -103
def isPt (z : Int32) : Bool := decide (z = 0) || decide (z = 1)
def fLikely (a : AT) (x y z : Int32) : Int64 := if inN x (sN (aS a)) then (if inD y 4 && isPt z then
    (let c := chT (aTn a) (aOw a) (sK (aS a) (nn x)) (nn y) (sP (aS a) (nn x)) (63 - sS (aS a)); lN ((if z = 0 then c else 30 ^ nn y) / Nat.gcd c (30 ^ nn y))) else -102) else -101
def fWhat (a : AT) (x y z : Int32) : Int32 := if inN x (sN (aS a)) && inN y 3 then (if inD z 4 then
    cI (beT (aTn a) (aOw a) (sK (aS a) (nn x)) (chT (aTn a) (aOw a) (sK (aS a) (nn x)) (nn z - 1)) (sP (aS a) (nn x)) (63 - sS (aS a)) (nn y) 6).1 else -102) else -101
def suD (tn : Nat → Nat → Nat) (ow : Nat → Nat) (κ p F : Nat) : Nat → Nat
  | 0 => 5
  | n + 1 => if chT tn ow κ (4 - n) p F = 30 ^ (4 - n) then 4 - n else suD tn ow κ p F n
def fSure (a : AT) (x : Int32) : Int32 := if inN x (sN (aS a)) then
    (let d := suD (aTn a) (aOw a) (sK (aS a) (nn x)) (sP (aS a) (nn x)) (63 - sS (aS a)) 5; if d = 5 then -1 else nI d) else -101
def fRace (a : AT) (x y z p : Int32) : Int64 := if inN x (sN (aS a)) && inN y (sN (aS a)) && !(decide (x = y)) then (if inD z 6 && isPt p then
    (let c := raT (aTn a) (aOw a) (nn z) (sP (aS a) (nn x)) (sP (aS a) (nn y)); lN ((if p = 0 then c else 30 ^ nn z) / Nat.gcd c (30 ^ nn z))) else -102) else -101
def fCount (a : AT) (x : Int32) : Int32 := if inN x 9 then (if nn x = 0 then nI (nmT (aOw a) 6) else if nn x = 1 then nI (sN (aS a)) else if nn x = 2 then nI (homeT (sP (aS a)) (sN (aS a))) else if nn x = 3 then nI (cntB (sS (aS a))) else if nn x = 4 then sD (aS a) else if nn x = 5 then nI (sA (aS a)) else if nn x = 6 then nI (aWn a) else if nn x = 7 then nI (aPn a) else nI (aNb a)) else -102
def fYears (a : AT) (x y z : Int32) : Int32 := if inD x 60 && decide (¬ y < 0) && inN z 4 then (if 0 < aNb a then
    (let q := yrT (aTn a) (aOw a) (mkSea (sN (aS a)) (sK (aS a)) (sP (aS a)) (fun _ => 0) (sV (aS a)) (sT (aS a)) (sS (aS a)) (sD (aS a)) (sA (aS a)) (sG (aS a))) (nn y) (nn x)
     if nn z = 0 then nI (homeT (sP q.1) (sN q.1)) else if nn z = 1 then nI (sumP (sP q.1) (sN q.1)) else if nn z = 2 then nI (cntB (sS q.1)) else nI q.2) else -103) else -102
