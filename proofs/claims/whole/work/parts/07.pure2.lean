
/-! ===== a sea (ships, spent names, days, answers) ===== -/
theorem get_set (μ : Mm) (k j : Nat) (v : Int32) (a b : Nat) : (setI μ k j v).1 a b = if a = k ∧ b = j then v else μ.1 a b := by
  show up2 μ.1 k j v a b = _
  unfold up2
  by_cases h1 : a = k <;> by_cases h2 : b = j <;> simp [h1, h2]
theorem get_ne {μ : Mm} {k j : Nat} {v : Int32} {a b : Nat} (h : ¬ (a = k ∧ b = j)) : (setI μ k j v).1 a b = μ.1 a b := by rw [get_set, if_neg h]
theorem get_eq {μ : Mm} {k j : Nat} {v : Int32} : (setI μ k j v).1 k j = v := by rw [get_set, if_pos ⟨rfl, rfl⟩]
abbrev SeaT : Type := Nat × (Nat → Nat) × (Nat → Nat) × (Nat → Nat) × (Nat → Int32) × (Nat → Int32) × Nat × Int32 × Nat × (Nat → Int32)
def sN (σ : SeaT) : Nat := σ.1
def sK (σ : SeaT) : Nat → Nat := σ.2.1
def sP (σ : SeaT) : Nat → Nat := σ.2.2.1
def sC (σ : SeaT) : Nat → Nat := σ.2.2.2.1
def sV (σ : SeaT) : Nat → Int32 := σ.2.2.2.2.1
def sT (σ : SeaT) : Nat → Int32 := σ.2.2.2.2.2.1
def sS (σ : SeaT) : Nat := σ.2.2.2.2.2.2.1
def sD (σ : SeaT) : Int32 := σ.2.2.2.2.2.2.2.1
def sA (σ : SeaT) : Nat := σ.2.2.2.2.2.2.2.2.1
def sG (σ : SeaT) : Nat → Int32 := σ.2.2.2.2.2.2.2.2.2
/-- a ship's cell -/
def ShR (μ : Mm) (z : Nat) (κ p c : Nat) (v t : Int32) : Prop := μ.1 z 0 = nI κ ∧ κ ≤ 4 ∧ μ.1 z 1 = nI p ∧ p ≤ 9 ∧ μ.1 z 2 = cI c ∧ c ≤ 6 ∧ μ.1 z 3 = v ∧ μ.1 z 4 = t
def SeaR (μ : Mm) (s : Nat) (σ : SeaT) : Prop := μ.1 s 2 = nI (sN σ) ∧ sN σ ≤ 6 ∧ μ.1 s 3 = nI (sS σ) ∧ sS σ < 64 ∧ μ.1 s 4 = sD σ ∧ μ.1 s 5 = nI (sA σ) ∧ sA σ ≤ 40 ∧ (∀ i, i < 6 → ShR μ (s + 1 + 1 + i) (sK σ i) (sP σ i) (sC σ i) (sV σ i) (sT σ i)) ∧ ∀ n, n < 6 → μ.1 (s + 8) n = sG σ n
/-- nothing but some cells has changed -/
def FrM (S : Nat → Prop) (μ μ' : Mm) : Prop := (∀ k, ¬ S k → μ'.1 k = μ.1 k) ∧ μ'.2 = μ.2
theorem FrM.rf {S : Nat → Prop} {μ : Mm} : FrM S μ μ := ⟨fun _ _ => rfl, rfl⟩
theorem FrM.set {S : Nat → Prop} {μ μ' : Mm} (h : FrM S μ μ') {k j : Nat} {v : Int32} (hk : S k) : FrM S μ (setI μ' k j v) := by
  refine ⟨fun a ha => ?_, h.2⟩
  have hn : a ≠ k := fun q => ha (by rw [q]; exact hk)
  show up2 μ'.1 k j v a = _
  rw [up2_ne hn]
  exact h.1 a ha
theorem FrM.tr {S T : Nat → Prop} {μ μ' μ2 : Mm} (h : FrM S μ μ') (h2 : FrM T μ' μ2) (hT : ∀ k, T k → S k) : FrM S μ μ2 := ⟨fun a ha => (h2.1 a (fun q => ha (hT a q))).trans (h.1 a ha), h2.2.trans h.2⟩
theorem FrM.wk {S T : Nat → Prop} {μ μ' : Mm} (h : FrM S μ μ') (hT : ∀ k, S k → T k) : FrM T μ μ' := ⟨fun a ha => h.1 a (fun q => ha (hT a q)), h.2⟩
def seaS (s : Nat) : Nat → Prop := fun k => k = s ∨ (s + 2 ≤ k ∧ k ≤ s + 8)
theorem SeaR.kept {S : Nat → Prop} {μ μ' : Mm} {s : Nat} {σ : SeaT} (h : SeaR μ s σ) (hf : FrM S μ μ') (hd : ∀ k, seaS s k → ¬ S k) : SeaR μ' s σ := by
  obtain ⟨h1, h2, h3, h4, h5, h6, h7, h8, h9⟩ := h
  have e0 := hf.1 s (hd s (Or.inl rfl))
  refine ⟨by rw [e0]; exact h1, h2, by rw [e0]; exact h3, h4, by rw [e0]; exact h5, by rw [e0]; exact h6, h7, fun i hi => ?_, fun n hn => ?_⟩
  · unfold ShR
    rw [hf.1 (s + 1 + 1 + i) (hd _ (Or.inr (by omega)))]
    exact h8 i hi
  · rw [hf.1 (s + 8) (hd _ (Or.inr (by omega)))]
    exact h9 n hn
theorem BkR.kept {S : Nat → Prop} {μ μ' : Mm} {b : Nat} {tn : Nat → Nat → Nat} {ow : Nat → Nat} (h : BkR μ b tn ow) (hf : FrM S μ μ') (hd : ∀ k, b + 2 ≤ k → k ≤ b + 7 → ¬ S k) : BkR μ' b tn ow := by
  obtain ⟨h1, h2, h3, h4⟩ := h
  refine ⟨fun w s hw hs => ?_, fun n hn => ?_, h3, h4⟩
  · rw [hf.1 _ (hd _ (by omega) (by omega))]
    exact h1 w s hw hs
  · rw [hf.1 _ (hd _ (by omega) (by omega))]
    exact h2 n hn
theorem fa6 {P : Nat → Prop} (h0 : P 0) (h1 : P 1) (h2 : P 2) (h3 : P 3) (h4 : P 4) (h5 : P 5) : ∀ n, n < 6 → P n := by
  intro n hn
  rcases (show n = 0 ∨ n = 1 ∨ n = 2 ∨ n = 3 ∨ n = 4 ∨ n = 5 by omega) with rfl | rfl | rfl | rfl | rfl | rfl <;> assumption
theorem bit_get : ∀ S, S < 64 → ∀ n, n < 6 → ((nI S >>> (nI n &&& 31)) &&& 1) = bI (S.testBit n) := by decide +kernel
theorem bit_free : ∀ S, S < 64 → ((63 : Int32) &&& (nI S ^^^ (-1))) = nI (63 - S) := by decide +kernel
theorem bit_set : ∀ S, S < 64 → ∀ n, n < 6 → (nI S ||| ((1 : Int32) <<< (nI n &&& 31))) = nI (S ||| 2 ^ n) := by decide +kernel
theorem bit_set_lt : ∀ S, S < 64 → ∀ n, n < 6 → S ||| 2 ^ n < 64 := by decide +kernel
def clr (S n : Nat) : Nat := if S.testBit n then S - 2 ^ n else S
theorem bit_clr : ∀ S, S < 64 → ∀ n, n < 6 → (nI S &&& (((1 : Int32) <<< (nI n &&& 31)) ^^^ (-1))) = nI (clr S n) := by decide +kernel
theorem clr_lt : ∀ S, S < 64 → ∀ n, n < 6 → clr S n < 64 := by decide +kernel
def cntB (S : Nat) : Nat := (if S.testBit 0 then 1 else 0) + (if S.testBit 1 then 1 else 0) + (if S.testBit 2 then 1 else 0) + (if S.testBit 3 then 1 else 0) + (if S.testBit 4 then 1 else 0) + (if S.testBit 5 then 1 else 0)
def homeT (p : Nat → Nat) : Nat → Nat
  | 0 => 0
  | n + 1 => homeT p n + if p n = 9 then 1 else 0
def sumP (p : Nat → Nat) : Nat → Nat
  | 0 => 0
  | n + 1 => sumP p n + p n
theorem sumP_le {p : Nat → Nat} (h : ∀ i, i < 6 → p i ≤ 9) : ∀ n, n ≤ 6 → sumP p n ≤ 9 * n
  | 0, _ => Nat.zero_le _
  | n + 1, hn => by
    have h1 := sumP_le h n (by omega)
    have h2 := h n (by omega)
    show _ + _ ≤ _
    omega
/-- whether one of the first n ships that spends calls k (name + 1) -/
def anyC (σ : SeaT) (k : Nat) : Nat → Bool
  | 0 => false
  | n + 1 => anyC σ k n || (sC σ n == k && sK σ n != 4)
