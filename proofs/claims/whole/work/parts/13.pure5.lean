
/-! ===== forecasts: chances of 30 to the days ===== -/
def frA (κ F k : Nat) : Nat := if k = 0 ∨ κ = 4 then F else clr F (k - 1)
def woT (tn : Nat → Nat → Nat) (ow : Nat → Nat) (κ : Nat) (c : Nat → Nat → Nat) (p F s k : Nat) : Nat := favT tn ow k s 4 * c (ahd κ p k) (frA κ F k) + (10 - favT tn ow k s 4 - tn 4 s) * c (bhd κ p k) (frA κ F k) + tn 4 s * c p (frA κ F k)
def beT (tn : Nat → Nat → Nat) (ow : Nat → Nat) (κ : Nat) (c : Nat → Nat → Nat) (p F s : Nat) : Nat → Nat × Nat
  | 0 => (0, woT tn ow κ c p F s 0)
  | n + 1 => let q := beT tn ow κ c p F s n; if F.testBit n = true ∧ q.2 < woT tn ow κ c p F s (n + 1) then (n + 1, woT tn ow κ c p F s (n + 1)) else q
def suT (tn : Nat → Nat → Nat) (ow : Nat → Nat) (κ : Nat) (c : Nat → Nat → Nat) (p F : Nat) : Nat → Nat
  | 0 => 0
  | s + 1 => suT tn ow κ c p F s + woT tn ow κ c p F s (beT tn ow κ c p F s 6).1
def chT (tn : Nat → Nat → Nat) (ow : Nat → Nat) (κ : Nat) : Nat → Nat → Nat → Nat
  | 0, p, _ => if p = 9 then 1 else 0
  | d + 1, p, F => if p = 9 then 30 ^ (d + 1) else suT tn ow κ (chT tn ow κ d) p F 3
theorem frA_lt {κ F k : Nat} (hF : F < 64) (hk : k ≤ 6) : frA κ F k < 64 := by
  unfold frA
  split
  · exact hF
  · exact clr_lt _ hF _ (by omega)
theorem ahd_le {κ p k : Nat} : ahd κ p k ≤ 9 := Nat.min_le_left _ _
theorem bhd_le {κ p k : Nat} (h : p ≤ 9) : bhd κ p k ≤ 9 := by unfold bhd; split <;> omega
def TnOK (tn : Nat → Nat → Nat) : Prop := ∀ s, s < 3 → tn 0 s + tn 1 s + tn 2 s + tn 3 s + tn 4 s = 10
theorem fav4_le {tn : Nat → Nat → Nat} {ow : Nat → Nat} (h : TnOK tn) {k s : Nat} (hs : s < 3) : favT tn ow k s 4 + tn 4 s ≤ 10 := by
  have h1 := h s hs
  have h2 : favT tn ow k s 4 ≤ tn 0 s + tn 1 s + tn 2 s + tn 3 s := by
    simp only [favT]
    split <;> split <;> split <;> split <;> omega
  omega
theorem woT_le {tn : Nat → Nat → Nat} {ow : Nat → Nat} {κ : Nat} {c : Nat → Nat → Nat} {M p F s k : Nat} (h : TnOK tn) (hs : s < 3) (hc : ∀ p F, c p F ≤ M) : woT tn ow κ c p F s k ≤ 10 * M := by
  have h1 := fav4_le (ow := ow) h (k := k) hs
  have a1 : favT tn ow k s 4 * c (ahd κ p k) (frA κ F k) ≤ favT tn ow k s 4 * M := Nat.mul_le_mul_left _ (hc _ _)
  have a2 : (10 - favT tn ow k s 4 - tn 4 s) * c (bhd κ p k) (frA κ F k) ≤ (10 - favT tn ow k s 4 - tn 4 s) * M := Nat.mul_le_mul_left _ (hc _ _)
  have a3 : tn 4 s * c p (frA κ F k) ≤ tn 4 s * M := Nat.mul_le_mul_left _ (hc _ _)
  have a4 : favT tn ow k s 4 * M + (10 - favT tn ow k s 4 - tn 4 s) * M + tn 4 s * M = 10 * M := by
    rw [← Nat.add_mul, ← Nat.add_mul]
    congr 1
    omega
  unfold woT
  omega
theorem beT_snd {tn : Nat → Nat → Nat} {ow : Nat → Nat} {κ : Nat} {c : Nat → Nat → Nat} {p F s : Nat} : ∀ n, (beT tn ow κ c p F s n).2 = woT tn ow κ c p F s (beT tn ow κ c p F s n).1 ∧ (beT tn ow κ c p F s n).1 ≤ n
  | 0 => ⟨rfl, Nat.le_refl _⟩
  | n + 1 => by
    have h := beT_snd (tn := tn) (ow := ow) (κ := κ) (c := c) (p := p) (F := F) (s := s) n
    simp only [beT]
    split
    · exact ⟨rfl, Nat.le_refl _⟩
    · exact ⟨h.1, by omega⟩
theorem suT_le {tn : Nat → Nat → Nat} {ow : Nat → Nat} {κ : Nat} {c : Nat → Nat → Nat} {M p F : Nat} (h : TnOK tn) (hc : ∀ p F, c p F ≤ M) : ∀ n, n ≤ 3 → suT tn ow κ c p F n ≤ 10 * n * M
  | 0, _ => Nat.zero_le _
  | n + 1, hn => by
    have h1 := suT_le (ow := ow) (κ := κ) (p := p) (F := F) h hc n (by omega)
    have h2 := woT_le (ow := ow) (κ := κ) (p := p) (F := F) (s := n) (k := (beT tn ow κ c p F n 6).1) h (by omega) hc
    have h3 : 10 * (n + 1) * M = 10 * n * M + 10 * M := by rw [Nat.mul_add, Nat.add_mul]
    simp only [suT]
    omega
theorem chT_le {tn : Nat → Nat → Nat} {ow : Nat → Nat} {κ : Nat} (h : TnOK tn) : ∀ d p F, chT tn ow κ d p F ≤ 30 ^ d
  | 0, p, F => by simp only [chT]; split <;> simp
  | d + 1, p, F => by
    have h1 := suT_le (ow := ow) (κ := κ) (p := p) (F := F) h (chT_le (ow := ow) (κ := κ) h d) 3 (by omega)
    simp only [chT]
    split
    · exact Nat.le_refl _
    · rw [Nat.pow_succ]; omega
theorem p30 {d : Nat} (h : d ≤ 4) : 30 ^ d ≤ 810000 := by
  have := Nat.pow_le_pow_right (show 0 < 30 by decide) h
  exact this
theorem p30_6 {d : Nat} (h : d ≤ 6) : 30 ^ d ≤ 729000000 := by
  have := Nat.pow_le_pow_right (show 0 < 30 by decide) h
  exact this
theorem stT90 : ∀ d, d ≤ 6 → (stT 90).getD d 0 = nI (30 ^ d) := by
  intro d h
  rcases (show d = 0 ∨ d = 1 ∨ d = 2 ∨ d = 3 ∨ d = 4 ∨ d = 5 ∨ d = 6 by omega) with rfl | rfl | rfl | rfl | rfl | rfl | rfl <;> decide +kernel
def FcR (μ : Mm) (tn : Nat → Nat → Nat) (ow : Nat → Nat) (κ : Nat) : Prop := μ.1 33 3 = nI κ ∧ κ ≤ 4 ∧ (∀ k s, k < 7 → s < 3 → μ.1 (41 + k) s = nI (favT tn ow k s 4)) ∧ ∀ s, s < 3 → μ.1 48 s = nI (tn 4 s)
def MmR (μ : Mm) (tn : Nat → Nat → Nat) (ow : Nat → Nat) (κ N : Nat) : Prop := ∀ d p F, 1 ≤ d → d ≤ N → p ≤ 9 → F < 64 → μ.1 (35 + d) (p * 64 + F) = -1 ∨ μ.1 (35 + d) (p * 64 + F) = nI (chT tn ow κ d p F)
def fnd : Nat → Prop := fun k => 35 ≤ k ∧ k ≤ 39
theorem FcR.kept {μ μ' : Mm} {tn : Nat → Nat → Nat} {ow : Nat → Nat} {κ : Nat} (h : FcR μ tn ow κ) (hf : FrM fnd μ μ') : FcR μ' tn ow κ := by
  obtain ⟨h1, h2, h3, h4⟩ := h
  refine ⟨?_, h2, fun k s hk hs => ?_, fun s hs => ?_⟩
  · rw [hf.1 33 (fun q => by have := q.1; omega)]; exact h1
  · rw [hf.1 (41 + k) (fun q => by have := q.2; omega)]; exact h3 k s hk hs
  · rw [hf.1 48 (fun q => by have := q.2; omega)]; exact h4 s hs
theorem fcF : ∀ d, d < 5 → kt (35 + d) = 10 ∧ kn (35 + d) = 640 := by decide +kernel
theorem fcA : ∀ k, k < 7 → kt (41 + k) = 10 ∧ kn (41 + k) = 3 := by decide +kernel
