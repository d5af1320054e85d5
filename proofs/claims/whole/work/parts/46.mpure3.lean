
/-! ===== which sign tells most ===== -/
def ttI (tn : Nat → Nat → Nat) (s : Nat) (q : Nat × Nat) : Nat → Nat × Nat
  | 0 => q
  | w + 1 => let r := ttI tn s q w; if r.2 < tn w s + 1 then (s + 1, tn w s + 1) else r
def ttO (tn : Nat → Nat → Nat) : Nat → Nat × Nat
  | 0 => (0, 0)
  | s + 1 => ttI tn s (ttO tn s) 5
theorem ttI_max (tn : Nat → Nat → Nat) (s : Nat) (q : Nat × Nat) : ∀ n, 1 ≤ n → ttI tn s q n = if q.2 < maxT tn s n + 1 then (s + 1, maxT tn s n + 1) else q
  | 0, h => absurd h (by decide)
  | 1, _ => by
    show (if q.2 < tn 0 s + 1 then (s + 1, tn 0 s + 1) else q) = _
    rw [show maxT tn s 1 = tn 0 s from Nat.zero_max _]
  | n + 2, _ => by
    have h := ttI_max tn s q (n + 1) (by omega)
    show (let r := ttI tn s q (n + 1); if r.2 < tn (n + 1) s + 1 then (s + 1, tn (n + 1) s + 1) else r) = _
    rw [show maxT tn s (n + 2) = max (maxT tn s (n + 1)) (tn (n + 1) s) from rfl, h]
    generalize maxT tn s (n + 1) = m
    generalize tn (n + 1) s = t
    simp only
    by_cases h1 : q.2 < m + 1
    · rw [if_pos h1]
      by_cases h2 : m < t
      · rw [if_pos (show m + 1 < t + 1 by omega), if_pos (show q.2 < max m t + 1 by omega), show max m t = t by omega]
      · rw [if_neg (show ¬ m + 1 < t + 1 by omega), if_pos (show q.2 < max m t + 1 by omega), show max m t = m by omega]
    · rw [if_neg h1]
      by_cases h2 : q.2 < t + 1
      · rw [if_pos h2, if_pos (show q.2 < max m t + 1 by omega), show max m t = t by omega]
      · rw [if_neg h2, if_neg (show ¬ q.2 < max m t + 1 by omega)]
theorem ttO_tell (tn : Nat → Nat → Nat) : ∀ n, 1 ≤ n → ttO tn n = (tellT tn n + 1, maxT tn (tellT tn n) 5 + 1)
  | 0, h => absurd h (by decide)
  | 1, _ => by
    have e : tellT tn 1 = 0 := by show (let b := 0; if maxT tn 0 5 > maxT tn b 5 then 0 else b) = 0; simp
    rw [e]
    show ttI tn 0 (0, 0) 5 = _
    rw [ttI_max tn 0 (0, 0) 5 (by decide), if_pos (Nat.succ_pos _)]
  | n + 2, _ => by
    show ttI tn (n + 1) (ttO tn (n + 1)) 5 = _
    rw [ttO_tell tn (n + 1) (by omega), ttI_max _ _ _ 5 (by decide)]
    have e : tellT tn (n + 2) = if maxT tn (n + 1) 5 > maxT tn (tellT tn (n + 1)) 5 then n + 1 else tellT tn (n + 1) := rfl
    by_cases h : maxT tn (n + 1) 5 > maxT tn (tellT tn (n + 1)) 5
    · rw [e, if_pos h, if_pos (show _ + 1 < _ + 1 by omega)]
    · rw [e, if_neg h, if_neg (show ¬ _ + 1 < _ + 1 by omega)]
theorem leC {t m : Nat} (ht : t < 2 ^ 30) (hm : m < 2 ^ 30) : nI t ≤ cI m ↔ t < m := by
  rw [Int32.le_iff_toInt_le, nI_toInt (by omega), cI_int (by omega)]
  omega
theorem ttI_le {tn : Nat → Nat → Nat} {s : Nat} {q : Nat × Nat} (hq : q.1 ≤ 3 ∧ q.2 ≤ 11) (hs : s < 3) (ht : ∀ w, w < 5 → tn w s ≤ 10) : ∀ n, n ≤ 5 → (ttI tn s q n).1 ≤ 3 ∧ (ttI tn s q n).2 ≤ 11
  | 0, _ => hq
  | n + 1, hn => by
    have h := ttI_le hq hs ht n (by omega)
    have h2 := ht n (by omega)
    simp only [ttI]
    split
    · exact ⟨by omega, by omega⟩
    · exact h
theorem ttO_le {tn : Nat → Nat → Nat} (ht : ∀ w s, w < 5 → s < 3 → tn w s ≤ 10) : ∀ n, n ≤ 3 → (ttO tn n).1 ≤ 3 ∧ (ttO tn n).2 ≤ 11
  | 0, _ => ⟨Nat.zero_le _, Nat.zero_le _⟩
  | n + 1, hn => ttI_le (ttO_le ht n (by omega)) (by omega) (fun w hw => ht w n hw (by omega)) 5 (Nat.le_refl _)
/-! ===== what is sure ===== -/
theorem mul_eq_top {t c M : Nat} (hc : c ≤ M) : t * c = t * M ↔ t = 0 ∨ c = M := by
  constructor
  · intro h
    rcases Nat.eq_zero_or_pos t with q | q
    · exact Or.inl q
    · exact Or.inr (Nat.eq_of_mul_eq_mul_left q h)
  · rintro (h | h)
    · rw [h, Nat.zero_mul, Nat.zero_mul]
    · rw [h]
theorem cbT_top {tn : Nat → Nat → Nat} {ow : Nat → Nat} {κ : Nat} {c : Nat → Nat → Nat} {p F s k M : Nat} (hc : ∀ p F, c p F ≤ M) : ∀ n, cbT tn ow κ c p F s k n ≤ pfT tn s n * M
  | 0 => Nat.zero_le _
  | n + 1 => by
    have h1 := cbT_top (tn := tn) (ow := ow) (κ := κ) (p := p) (F := F) (s := s) (k := k) hc n
    have h2 : tn n s * c (aft ow κ p k n) (frA κ F k) ≤ tn n s * M := Nat.mul_le_mul_left _ (hc _ _)
    simp only [cbT, pfT, Nat.add_mul]
    omega
theorem cbT_step {tn : Nat → Nat → Nat} {ow : Nat → Nat} {κ : Nat} {c : Nat → Nat → Nat} {p F s k M : Nat} (hc : ∀ p F, c p F ≤ M) (n : Nat) : cbT tn ow κ c p F s k (n + 1) = pfT tn s (n + 1) * M ↔ cbT tn ow κ c p F s k n = pfT tn s n * M ∧ (tn n s = 0 ∨ c (aft ow κ p k n) (frA κ F k) = M) := by
  have h1 := cbT_top (tn := tn) (ow := ow) (κ := κ) (p := p) (F := F) (s := s) (k := k) hc n
  have h2 : tn n s * c (aft ow κ p k n) (frA κ F k) ≤ tn n s * M := Nat.mul_le_mul_left _ (hc _ _)
  rw [← mul_eq_top (t := tn n s) (hc _ _)]
  simp only [cbT, pfT, Nat.add_mul]
  omega
theorem pfT_5 {tn : Nat → Nat → Nat} {s : Nat} (h : TnOK tn) (hs : s < 3) : pfT tn s 5 = 10 := by
  have := h s hs
  simp only [pfT]
  omega
theorem beT_step {tn : Nat → Nat → Nat} {ow : Nat → Nat} {κ : Nat} {c : Nat → Nat → Nat} {p F s W : Nat} (hw : ∀ k, woT tn ow κ c p F s k ≤ W) (n : Nat) : (beT tn ow κ c p F s (n + 1)).2 = W ↔ (beT tn ow κ c p F s n).2 = W ∨ (F.testBit n = true ∧ woT tn ow κ c p F s (n + 1) = W) := by
  have h1 := hw (n + 1)
  have h2 := (beT_snd (tn := tn) (ow := ow) (κ := κ) (c := c) (p := p) (F := F) (s := s) n).1
  have h3 := hw (beT tn ow κ c p F s n).1
  simp only [beT]
  by_cases hq : F.testBit n = true ∧ (beT tn ow κ c p F s n).2 < woT tn ow κ c p F s (n + 1)
  · rw [if_pos hq]
    have h4 := hq.2
    constructor
    · exact fun e => Or.inr ⟨hq.1, e⟩
    · rintro (e | e)
      · show woT tn ow κ c p F s (n + 1) = W; omega
      · exact e.2
  · rw [if_neg hq]
    constructor
    · exact fun e => Or.inl e
    · rintro (e | e)
      · exact e
      · rcases Nat.lt_or_ge (beT tn ow κ c p F s n).2 (woT tn ow κ c p F s (n + 1)) with g | g
        · exact absurd ⟨e.1, g⟩ hq
        · omega
theorem beT_mono {tn : Nat → Nat → Nat} {ow : Nat → Nat} {κ : Nat} {c : Nat → Nat → Nat} {p F s W : Nat} (hw : ∀ k, woT tn ow κ c p F s k ≤ W) {n : Nat} (h : (beT tn ow κ c p F s n).2 = W) : ∀ m, (beT tn ow κ c p F s (n + m)).2 = W
  | 0 => h
  | m + 1 => (beT_step hw (n + m)).mpr (Or.inl (beT_mono hw h m))
theorem suT_step {tn : Nat → Nat → Nat} {ow : Nat → Nat} {κ : Nat} {c : Nat → Nat → Nat} {M p F : Nat} (h : TnOK tn) (hc : ∀ p F, c p F ≤ M) (n : Nat) (hn : n < 3) : suT tn ow κ c p F (n + 1) = 10 * (n + 1) * M ↔ suT tn ow κ c p F n = 10 * n * M ∧ (beT tn ow κ c p F n 6).2 = 10 * M := by
  have h1 := suT_le (ow := ow) (κ := κ) (p := p) (F := F) h hc n (by omega)
  have h2 := woT_le (ow := ow) (κ := κ) (p := p) (F := F) (s := n) (k := (beT tn ow κ c p F n 6).1) h hn hc
  have h3 : 10 * (n + 1) * M = 10 * n * M + 10 * M := by rw [Nat.mul_add, Nat.add_mul]
  rw [(beT_snd (tn := tn) (ow := ow) (κ := κ) (c := c) (p := p) (F := F) (s := n) 6).1]
  simp only [suT]
  omega
def ChZ (μ : Mm) (tn : Nat → Nat → Nat) (ow : Nat → Nat) (κ d : Nat) : Prop := ∀ S p, S < 64 → p ≤ 9 → μ.1 79 (640 * d + 10 * S + p) = bI (decide (chT tn ow κ d p (63 - S) = 30 ^ d))
def FrK (K : Nat) (μ μ' : Mm) : Prop := (∀ k, k ≠ K → μ'.1 k = μ.1 k) ∧ μ'.2 = μ.2
theorem FrK.rf {K : Nat} {μ : Mm} : FrK K μ μ := ⟨fun _ _ => rfl, rfl⟩
theorem FrK.set {K : Nat} {μ μ' : Mm} (h : FrK K μ μ') {j : Nat} {v : Int32} : FrK K μ (setI μ' K j v) := ⟨fun a ha => by
  show up2 μ'.1 K j v a = _
  rw [up2_ne ha]
  exact h.1 a ha, h.2⟩
theorem FrK.X {K : Nat} {μ μ' : Mm} (h : FrK K μ μ') (hK : 65 ≤ K) : FrX μ μ' := ⟨fun k hk => h.1 k (by omega), by rw [h.2]⟩
theorem RM.ofK {K : Nat} {μ μ' : Mm} {a : AT} (h : RM μ a) (e : FrK K μ μ') (hK : 76 ≤ K ∧ K < 84) : RM μ' a := h.kept (fun j _ => by rw [e.1 65 (by omega)]) (fun k hk => e.1 k (by omega))
theorem suD_hit {tn : Nat → Nat → Nat} {ow : Nat → Nat} {κ p F d : Nat} (hd : d < 5) (h : chT tn ow κ d p F = 30 ^ d) : suD tn ow κ p F (5 - d) = d := by
  rw [show 5 - d = (4 - d) + 1 by omega]
  simp only [suD]
  rw [show 4 - (4 - d) = d by omega, if_pos h]
theorem suD_miss {tn : Nat → Nat → Nat} {ow : Nat → Nat} {κ p F d : Nat} (hd : d < 5) (h : chT tn ow κ d p F ≠ 30 ^ d) : suD tn ow κ p F (5 - d) = suD tn ow κ p F (5 - (d + 1)) := by
  rw [show 5 - d = (4 - d) + 1 by omega, show 5 - (d + 1) = 4 - d by omega]
  simp only [suD]
  rw [show 4 - (4 - d) = d by omega, if_neg h]
