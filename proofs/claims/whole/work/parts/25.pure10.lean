
/-! ===== the page and its reader ===== -/
def byN (w : Int64) (j : Nat) : Nat := uN w / 2 ^ (8 * j) % 256
theorem low8 (y : Int64) : (y.toInt32 &&& 255) = nI (uN y % 256) := by
  rw [pk_and y.toInt32 8 (by decide)]
  congr 1
  show (y.toInt32.toBitVec.toNat) % 256 = y.toBitVec.toNat % 256
  have : y.toInt32.toBitVec.toNat = y.toBitVec.toNat % 2 ^ 32 := by
    show (y.toBitVec.signExtend 32).toNat = _
    rw [BitVec.signExtend_eq_setWidth_of_le _ (by decide), BitVec.toNat_setWidth]
  rw [this]
  omega
theorem byN_eq (w : Int64) {j : Nat} (hj : j < 8) : (((w.toUInt64 >>> (((8 : Int32) * nI j).toInt64.toUInt64 &&& Int64.toUInt64 63)).toInt64).toInt32 &&& 255) = nI (byN w j) := by
  rw [low8, show (8 : Int32) * nI j = nI (8 * j) from pk_mul 8 j, uN_sk w (by omega)]
  rfl
theorem byN_lt (w : Int64) (j : Nat) : byN w j < 256 := Nat.mod_lt _ (by decide)
def leT (w : Int64) : Nat → Option Nat
  | 0 => some 0
  | k + 1 => match leT w k with
    | none => none
    | some f => if 126 < byN w k ∨ (byN w k ≠ 0 ∧ f < k) then none else some (if byN w k ≠ 0 then f + 1 else f)
def leK (w : Int64) : Nat := match leT w 8 with
  | none => 0
  | some f => f + 1
theorem leT_some {w : Int64} : ∀ {k f : Nat}, leT w k = some f → f ≤ k ∧ ∀ i, i < k → byN w i ≤ 126
  | 0, f, h => by
    cases h
    exact ⟨Nat.le_refl _, fun i hi => absurd hi (by omega)⟩
  | k + 1, f, h => by
    simp only [leT] at h
    cases hq : leT w k with
    | none => rw [hq] at h; cases h
    | some f0 =>
      rw [hq] at h
      simp only at h
      obtain ⟨h1, h2⟩ := leT_some hq
      by_cases c : 126 < byN w k ∨ (byN w k ≠ 0 ∧ f0 < k)
      · rw [if_pos c] at h; cases h
      · rw [if_neg c] at h
        injection h with h
        refine ⟨by rw [← h]; split <;> omega, fun i hi => ?_⟩
        by_cases e : i = k
        · rw [e]; omega
        · exact h2 i (by omega)
theorem leT_none {w : Int64} : ∀ (k m : Nat), leT w k = none → k ≤ m → leT w m = none
  | k, 0, h, hm => by have : k = 0 := by omega
                      subst this; exact h
  | k, m + 1, h, hm => by
    by_cases e : k = m + 1
    · rw [← e]; exact h
    · simp only [leT]
      rw [leT_none k m h (by omega)]
theorem leK_some {w : Int64} {f : Nat} (h : leT w 8 = some f) : leK w = f + 1 := by unfold leK; rw [h]
theorem leK_none {w : Int64} (h : leT w 8 = none) : leK w = 0 := by unfold leK; rw [h]
theorem leK_le {w : Int64} : leK w ≤ 9 := by
  cases h : leT w 8 with
  | none => rw [leK_none h]; omega
  | some f => rw [leK_some h]; have := (leT_some h).1; omega
theorem leK_by {w : Int64} (h : leK w ≠ 0) {i : Nat} (hi : i < 8) : byN w i ≤ 126 := by
  cases hq : leT w 8 with
  | none => exact absurd (leK_none hq) h
  | some f => exact (leT_some hq).2 i hi
def PgR (μ : Mm) (n : Nat) (cd : Nat → Nat) : Prop := μ.1 1 1 = nI n ∧ n ≤ 30 ∧ ∀ j, j < 30 → μ.1 2 j = nI (cd j) ∧ cd j ≤ 126
theorem PgR.kept {S : Nat → Prop} {μ μ' : Mm} {n : Nat} {cd : Nat → Nat} (h : PgR μ n cd) (hf : FrM S μ μ') (h1 : ¬ S 1) (h2 : ¬ S 2) : PgR μ' n cd := by
  unfold PgR
  rw [hf.1 1 h1, hf.1 2 h2]
  exact h
def pgW (n m : Nat) (w : Int64) (cd : Nat → Nat) : Nat → Nat := fun j => if n ≤ j ∧ j < n + m then byN w (j - n) else cd j
/-- the reader: what may come next, the wind, tenths, winds of names -/
abbrev PsT : Type := Nat × Nat × (Nat → Nat → Nat) × (Nat → Nat)
def up2N (f : Nat → Nat → Nat) (a b v : Nat) : Nat → Nat → Nat := fun x y => if x = a ∧ y = b then v else f x y
def nmP (c x : Nat) (q : PsT) : Option PsT := if 48 ≤ c ∧ c < 54 ∧ q.2.2.2 (c - 48) = 0 then some (x, q.2.1, q.2.2.1, up1 q.2.2.2 (c - 48) (q.2.1 + 1)) else none
def pst (c : Nat) (q : PsT) : Option PsT :=
  if q.1 = 0 then (if c = 45 then some (2, q.2) else nmP c 1 q)
  else if q.1 = 1 then (if c = 58 then some (3, q.2) else nmP c 2 q)
  else if q.1 = 2 then (if c = 58 then some (3, q.2) else none)
  else if q.1 = 6 then (if q.2.1 < 3 ∧ c = 47 then some (0, q.2.1 + 1, q.2.2) else none)
  else if 48 ≤ c ∧ c ≤ 57 ∧ c - 48 ≤ q.2.2.1 4 (q.1 - 3) then some (q.1 + 1, q.2.1, up2N (up2N q.2.2.1 q.2.1 (q.1 - 3) (c - 48)) 4 (q.1 - 3) (q.2.2.1 4 (q.1 - 3) - (c - 48)), q.2.2.2) else none
def ps0 : PsT := (0, 0, (fun w _ => if w = 4 then 10 else 0), (fun _ => 0))
def prT (cd : Nat → Nat) : Nat → Option PsT
  | 0 => some ps0
  | i + 1 => (prT cd i).bind (pst (cd i))
def faT (cd : Nat → Nat) : Nat → Nat
  | 0 => 0
  | n + 1 => if (prT cd (n + 1)).isSome then n + 1 else faT cd n
theorem prT_none {cd : Nat → Nat} : ∀ (k m : Nat), prT cd k = none → k ≤ m → prT cd m = none
  | k, 0, h, hm => by have : k = 0 := by omega
                      subst this; exact h
  | k, m + 1, h, hm => by
    by_cases e : k = m + 1
    · rw [← e]; exact h
    · simp only [prT]
      rw [prT_none k m h (by omega)]
      rfl
theorem faT_at {cd : Nat → Nat} {i : Nat} {q : PsT} (h : prT cd i = some q) (h2 : prT cd (i + 1) = none) : ∀ n, i ≤ n → faT cd n = i
  | 0, hn => by have : i = 0 := by omega
                subst this; rfl
  | n + 1, hn => by
    by_cases e : i = n + 1
    · subst e
      show (if (prT cd (n + 1)).isSome then n + 1 else faT cd n) = n + 1
      rw [h]; rfl
    · show (if (prT cd (n + 1)).isSome then n + 1 else faT cd n) = i
      rw [prT_none (i + 1) (n + 1) h2 (by omega)]
      exact faT_at h h2 n (by omega)
theorem faT_all {cd : Nat → Nat} {n : Nat} {q : PsT} (h : prT cd n = some q) : faT cd n = n := by
  cases n with
  | zero => rfl
  | succ n =>
    show (if (prT cd (n + 1)).isSome then n + 1 else faT cd n) = n + 1
    rw [h]; rfl
def RdR (μ : Mm) (x w : Nat) : Prop := μ.1 3 0 = nI x ∧ x ≤ 6 ∧ μ.1 3 1 = nI w ∧ w ≤ 3
def rdS (b : Nat) : Nat → Prop := fun k => k = 3 ∨ (b + 2 ≤ k ∧ k ≤ b + 7)
