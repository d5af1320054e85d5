
/-! ===== a wake ===== -/
def WkR (μ : Mm) (bg : Bool) (κ n : Nat) (pl : Nat → Nat) : Prop := μ.1 31 1 = bI bg ∧ μ.1 31 2 = nI κ ∧ κ ≤ 4 ∧ μ.1 31 3 = nI n ∧ n ≤ 6 ∧ ∀ j, j < 7 → μ.1 32 j = nI (pl j) ∧ pl j ≤ 9
theorem WkR.kept {S : Nat → Prop} {μ μ' : Mm} {bg : Bool} {κ n : Nat} {pl : Nat → Nat} (h : WkR μ bg κ n pl) (hf : FrM S μ μ') (h1 : ¬ S 31) (h2 : ¬ S 32) : WkR μ' bg κ n pl := by
  unfold WkR
  rw [hf.1 31 h1, hf.1 32 h2]
  exact h
def wbT (tn : Nat → Nat → Nat) (ow : Nat → Nat) (κ : Nat) (pl : Nat → Nat) (d k : Nat) : Nat → Nat
  | 0 => 0
  | w + 1 => wbT tn ow κ pl d k w + if 0 < sumT tn w 3 ∧ aft ow κ (pl d) k w = pl (d + 1) then 1 else 0
def wdT (tn : Nat → Nat → Nat) (ow : Nat → Nat) (κ : Nat) (pl : Nat → Nat) (d k : Nat) : Nat := if pl d = 9 ∧ k ≠ 0 then 0 else wbT tn ow κ pl d k 5
def dsT (tn : Nat → Nat → Nat) (ow : Nat → Nat) (κ : Nat) (pl : Nat → Nat) (d : Nat) : Nat → Nat
  | 0 => 0
  | k + 1 => dsT tn ow κ pl d k + wdT tn ow κ pl d k
def wyT (tn : Nat → Nat → Nat) (ow : Nat → Nat) (κ : Nat) (pl : Nat → Nat) : Nat → Nat
  | 0 => 1
  | d + 1 => wyT tn ow κ pl d * dsT tn ow κ pl d 7
/-- by: the call's code (name + 1) and how many -/
def onT (tn : Nat → Nat → Nat) (ow : Nat → Nat) (κ : Nat) (pl : Nat → Nat) (d : Nat) : Nat → Nat × Nat
  | 0 => (7, 0)
  | k + 1 => let q := onT tn ow κ pl d k; if 0 < wdT tn ow κ pl d k then (k, q.2 + 1) else q
def byT (tn : Nat → Nat → Nat) (ow : Nat → Nat) (κ : Nat) (pl : Nat → Nat) (n d : Nat) : Nat := if wyT tn ow κ pl n = 0 then 7 else if (onT tn ow κ pl d 7).2 = 1 then (onT tn ow κ pl d 7).1 else 7
theorem wbT_le {tn : Nat → Nat → Nat} {ow : Nat → Nat} {κ : Nat} {pl : Nat → Nat} {d k : Nat} : ∀ n, wbT tn ow κ pl d k n ≤ n
  | 0 => Nat.le_refl _
  | n + 1 => by
    have h1 := wbT_le (tn := tn) (ow := ow) (κ := κ) (pl := pl) (d := d) (k := k) n
    show _ + _ ≤ _
    split <;> omega
theorem wdT_le {tn : Nat → Nat → Nat} {ow : Nat → Nat} {κ : Nat} {pl : Nat → Nat} {d k : Nat} : wdT tn ow κ pl d k ≤ 5 := by
  unfold wdT
  split
  · exact Nat.zero_le _
  · exact wbT_le 5
theorem dsT_le {tn : Nat → Nat → Nat} {ow : Nat → Nat} {κ : Nat} {pl : Nat → Nat} {d : Nat} : ∀ n, dsT tn ow κ pl d n ≤ 5 * n
  | 0 => Nat.le_refl _
  | n + 1 => by
    have h1 := dsT_le (tn := tn) (ow := ow) (κ := κ) (pl := pl) (d := d) n
    have h2 := wdT_le (tn := tn) (ow := ow) (κ := κ) (pl := pl) (d := d) (k := n)
    show _ + _ ≤ _
    omega
theorem wyT_le {tn : Nat → Nat → Nat} {ow : Nat → Nat} {κ : Nat} {pl : Nat → Nat} : ∀ n, wyT tn ow κ pl n ≤ 35 ^ n
  | 0 => Nat.le_refl _
  | n + 1 => by
    have h1 := wyT_le (tn := tn) (ow := ow) (κ := κ) (pl := pl) n
    have h2 := dsT_le (tn := tn) (ow := ow) (κ := κ) (pl := pl) (d := n) 7
    show _ * _ ≤ _
    rw [Nat.pow_succ]
    exact Nat.mul_le_mul h1 h2
theorem wyT_lt {tn : Nat → Nat → Nat} {ow : Nat → Nat} {κ : Nat} {pl : Nat → Nat} {n : Nat} (h : n ≤ 6) : wyT tn ow κ pl n < 2 ^ 31 := by
  have h1 := wyT_le (tn := tn) (ow := ow) (κ := κ) (pl := pl) n
  have h2 : 35 ^ n ≤ 35 ^ 6 := Nat.pow_le_pow_right (by decide) h
  have h3 : (35 : Nat) ^ 6 < 2 ^ 31 := by decide
  omega
theorem onT_le {tn : Nat → Nat → Nat} {ow : Nat → Nat} {κ : Nat} {pl : Nat → Nat} {d : Nat} : ∀ n, n ≤ 7 → (onT tn ow κ pl d n).1 ≤ 7 ∧ (onT tn ow κ pl d n).2 ≤ n
  | 0, _ => ⟨Nat.le_refl _, Nat.le_refl _⟩
  | n + 1, hn => by
    have h1 := onT_le (tn := tn) (ow := ow) (κ := κ) (pl := pl) (d := d) n (by omega)
    show (let q := onT tn ow κ pl d n; if 0 < wdT tn ow κ pl d n then (n, q.2 + 1) else q).1 ≤ 7 ∧ (let q := onT tn ow κ pl d n; if 0 < wdT tn ow κ pl d n then (n, q.2 + 1) else q).2 ≤ n + 1
    simp only
    split
    · exact ⟨by show n ≤ 7; omega, by show _ + 1 ≤ n + 1; omega⟩
    · exact ⟨h1.1, by omega⟩
theorem aft_le {ow : Nat → Nat} {κ p k w : Nat} (hp : p ≤ 9) : aft ow κ p k w ≤ 9 := by
  unfold aft ahd bhd
  split
  · exact hp
  · split
    · exact Nat.min_le_left _ _
    · split <;> omega
