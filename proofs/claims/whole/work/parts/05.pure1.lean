
/-! ===== plain facts, and what the class's own helpers answer ===== -/
def bI (b : Bool) : Int32 := if b then 1 else 0
theorem bI_t {b : Bool} (h : b = true) : bI b = 1 := by rw [h]; rfl
theorem bI_f {b : Bool} (h : b = false) : bI b = 0 := by rw [h]; rfl
theorem bI_0 (b : Bool) : bI b = 0 ↔ b = false := by cases b <;> simp [bI]
def inR (x M : Int32) : Bool := decide (¬ x < 0) && decide (¬ M ≤ x)
theorem inR_t {x M : Int32} (h : ¬ x < 0) (h2 : ¬ M ≤ x) : (1 : Int32) = bI (inR x M) := by simp [inR, h, h2, bI]
theorem inR_f1 {x M : Int32} (h : x < 0) : (0 : Int32) = bI (inR x M) := by simp [inR, h, bI]
theorem inR_f2 {x M : Int32} (h : M ≤ x) : (0 : Int32) = bI (inR x M) := by simp [inR, h, bI]
theorem inR_of {x M : Int32} {n : Nat} (hM : M = nI n) (hn : n < 2 ^ 31) (h : inR x M = true) : ∃ j, j < n ∧ x = nI j := by
  simp only [inR, Bool.and_eq_true, decide_eq_true_eq] at h
  obtain ⟨j, hj, rfl⟩ := nI_of h.1
  refine ⟨j, ?_, rfl⟩
  have := h.2
  rw [hM, nI_leI hn hj] at this
  omega
theorem inR_nI {j n : Nat} {M : Int32} (hM : M = nI n) (hn : n < 2 ^ 31) (h : j < n) : inR (nI j) M = true := by
  simp only [inR, Bool.and_eq_true, decide_eq_true_eq]
  refine ⟨nI_pos (by omega), ?_⟩
  rw [hM, nI_leI hn (by omega)]
  omega
def cI (k : Nat) : Int32 := nI k - 1
theorem cI_0 : cI 0 = -1 := by decide
theorem cI_s (k : Nat) : cI (k + 1) = nI k := nI_pred k
theorem cI_1 (k : Nat) : cI k + 1 = nI k := by show nI k - 1 + 1 = nI k; rw [Int32.sub_add_cancel]
theorem cI_n (k : Nat) : cI k + 1 = cI (k + 1) := by rw [cI_1, cI_s]
theorem cI_eq {a b : Nat} (ha : a < 2 ^ 31) (hb : b < 2 ^ 31) : cI a = cI b ↔ a = b := by
  constructor
  · intro h
    have h2 : cI a + 1 = cI b + 1 := by rw [h]
    rw [cI_1, cI_1] at h2
    exact (nI_eq ha hb).mp h2
  · intro h; rw [h]
theorem cI_m1 {a : Nat} (ha : a < 2 ^ 31) : cI a = -1 ↔ a = 0 := by rw [← cI_0]; exact cI_eq ha (by decide)
theorem cI_pos {a : Nat} (ha : a < 2 ^ 31) (h : ¬ cI a = -1) : ∃ k, a = k + 1 := ⟨a - 1, by have := mt (cI_m1 ha).mpr h; omega⟩
theorem nI_l3 {a b : Nat} (ha : a < 2 ^ 31) (hb : b < 2 ^ 31) (h : ¬ nI a ≤ nI b) : b < a := by
  rw [nI_leI ha hb] at h; omega
def fav (ow : Nat → Nat) (k w : Nat) : Bool := if k = 0 then (w == 0 || w == 1) else ow (k - 1) == w + 1
def sbK (κ : Nat) : Nat := ([2, 3, 1, 2, 2] : List Nat).getD κ 0
def tbK (κ : Nat) : Nat := ([2, 2, 1, 1, 1] : List Nat).getD κ 0
def ahd (κ p k : Nat) : Nat := min 9 (p + if k = 0 then 1 else sbK κ)
def bhd (κ p k : Nat) : Nat := if p = 9 then 9 else p - (if k = 0 then 1 else tbK κ)
def aft (ow : Nat → Nat) (κ p k w : Nat) : Nat := if w = 4 then p else if fav ow k w then ahd κ p k else bhd κ p k
/-- a BOOK's cells: tenths by wind and sign, the wind of each name (0: none) -/
def BkR (μ : Mm) (b : Nat) (tn : Nat → Nat → Nat) (ow : Nat → Nat) : Prop := (∀ w s, w < 5 → s < 3 → μ.1 (b + 1 + 1 + w) s = nI (tn w s)) ∧ (∀ n, n < 6 → μ.1 (b + 7) n = cI (ow n)) ∧ (∀ n, n < 6 → ow n ≤ 4) ∧ (∀ s, s < 3 → tn 0 s + tn 1 s + tn 2 s + tn 3 s + tn 4 s = 10)
theorem bkF {b : Nat} (h : b = 49 ∨ b = 57) : b < 88 ∧ kt b = 0 ∧ kt (b + 1) = 15 ∧ kn (b + 1) = 5 ∧ kt (b + 7) = 10 ∧ kn (b + 7) = 6 ∧ (∀ w, w < 5 → b + 1 + 1 + w < 88 ∧ kt (b + 1 + 1 + w) = 10 ∧ kn (b + 1 + 1 + w) = 3) := by
  rcases h with rfl | rfl <;> decide +kernel
theorem seaF {s : Nat} (h : s = 4 ∨ s = 13 ∨ s = 22) : s < 88 ∧ kt s = 4 ∧ kt (s + 1) = 14 ∧ kn (s + 1) = 6 ∧ kt (s + 8) = 10 ∧ kn (s + 8) = 6 ∧ (∀ i, i < 6 → s + 1 + 1 + i < 88 ∧ kt (s + 1 + 1 + i) = 5) := by
  rcases h with rfl | rfl | rfl <;> decide +kernel
theorem BkR.le {μ : Mm} {b : Nat} {tn : Nat → Nat → Nat} {ow : Nat → Nat} (h : BkR μ b tn ow) {w s : Nat} (hw : w < 5) (hs : s < 3) : tn w s ≤ 10 := by
  have h4 := h.2.2.2 s hs
  rcases (show w = 0 ∨ w = 1 ∨ w = 2 ∨ w = 3 ∨ w = 4 by omega) with rfl | rfl | rfl | rfl | rfl <;> omega
def favT (tn : Nat → Nat → Nat) (ow : Nat → Nat) (k s : Nat) : Nat → Nat
  | 0 => 0
  | w + 1 => favT tn ow k s w + if fav ow k w then tn w s else 0
def sumT (tn : Nat → Nat → Nat) (w : Nat) : Nat → Nat
  | 0 => 0
  | s + 1 => sumT tn w s + tn w s
def maxT (tn : Nat → Nat → Nat) (s : Nat) : Nat → Nat
  | 0 => 0
  | w + 1 => max (maxT tn s w) (tn w s)
def tellT (tn : Nat → Nat → Nat) : Nat → Nat
  | 0 => 0
  | n + 1 => let b := tellT tn n; if maxT tn n 5 > maxT tn b 5 then n else b
def nmT (ow : Nat → Nat) : Nat → Nat
  | 0 => 0
  | n + 1 => nmT ow n + if ow n = 0 then 0 else 1
theorem nI_max {a b : Nat} (ha : a < 2 ^ 31) (hb : b < 2 ^ 31) : (if nI a < nI b then nI b else nI a) = nI (max a b) := by
  by_cases h : a < b
  · rw [if_pos ((nI_ltI ha hb).mpr h), Nat.max_eq_right (by omega)]
  · rw [if_neg (fun q => h ((nI_ltI ha hb).mp q)), Nat.max_eq_left (by omega)]
theorem maxT_le {tn : Nat → Nat → Nat} {s : Nat} (h : ∀ w, w < 5 → tn w s ≤ 10) : ∀ n, n ≤ 5 → maxT tn s n ≤ 10
  | 0, _ => Nat.zero_le _
  | n + 1, hn => by
    have h1 := maxT_le h n (by omega)
    have h2 := h n (by omega)
    show max _ _ ≤ 10
    omega
theorem favT_le {tn : Nat → Nat → Nat} {ow : Nat → Nat} {k s : Nat} (h : ∀ w, w < 5 → tn w s ≤ 10) : ∀ n, n ≤ 5 → favT tn ow k s n ≤ 10 * n
  | 0, _ => Nat.zero_le _
  | n + 1, hn => by
    have h1 := favT_le (ow := ow) (k := k) h n (by omega)
    have h2 := h n (by omega)
    show _ + _ ≤ _
    split <;> omega
theorem sumT_le {tn : Nat → Nat → Nat} {w : Nat} (h : ∀ s, s < 3 → tn w s ≤ 10) : ∀ n, n ≤ 3 → sumT tn w n ≤ 10 * n
  | 0, _ => Nat.zero_le _
  | n + 1, hn => by
    have h1 := sumT_le h n (by omega)
    have h2 := h n (by omega)
    show _ + _ ≤ _
    omega
theorem nmT_le {ow : Nat → Nat} : ∀ n, nmT ow n ≤ n
  | 0 => Nat.le_refl _
  | n + 1 => by
    have h1 := nmT_le (ow := ow) n
    show _ + _ ≤ _
    split <;> omega
theorem tellT_lt {tn : Nat → Nat → Nat} : ∀ n, 0 < n → tellT tn n < n
  | 0, h => absurd h (by decide)
  | 1, _ => by
    show (let b := 0; if maxT tn 0 5 > maxT tn b 5 then 0 else b) < 1
    simp
  | n + 2, _ => by
    have h1 := tellT_lt (tn := tn) (n + 1) (by omega)
    show (let b := tellT tn (n + 1); if maxT tn (n + 1) 5 > maxT tn b 5 then n + 1 else b) < n + 2
    simp only
    split <;> omega

theorem nI_min9' {a : Nat} (ha : a < 2 ^ 31) : (if nI a < (9 : Int32) then nI a else (9 : Int32)) = nI (min 9 a) := by
  by_cases h : a < 9
  · rw [if_pos (show nI a < (9 : Int32) from (nI_ltI (b := 9) ha (by decide)).mpr h), Nat.min_eq_right (by omega)]
  · rw [if_neg (show ¬ nI a < (9 : Int32) from fun q => h ((nI_ltI (b := 9) ha (by decide)).mp q)), Nat.min_eq_left (by omega)]; rfl
theorem nI_sub0 {a b : Nat} (ha : a < 2 ^ 30) (hb : b < 2 ^ 30) : (if (0 : Int32) < nI a - nI b then nI a - nI b else (0 : Int32)) = nI (a - b) := by
  by_cases h : b ≤ a
  · rw [pk_sub h]
    by_cases h2 : a - b = 0
    · rw [h2]; rfl
    · rw [if_pos (show (0 : Int32) < nI (a - b) from (nI_ltI (a := 0) (by decide) (by omega)).mpr (by omega))]
  · have hn := pk_sneg hb (show a < b by omega)
    rw [if_neg (fun q => by rw [Int32.lt_iff_toInt_lt] at q hn; omega), show a - b = 0 by omega]; rfl
theorem stT88 : ∀ κ, κ ≤ 4 → (stT 88).getD κ 0 = nI (sbK κ) := by
  intro κ h
  rcases (show κ = 0 ∨ κ = 1 ∨ κ = 2 ∨ κ = 3 ∨ κ = 4 by omega) with rfl | rfl | rfl | rfl | rfl <;> rfl
theorem stT89 : ∀ κ, κ ≤ 4 → (stT 89).getD κ 0 = nI (tbK κ) := by
  intro κ h
  rcases (show κ = 0 ∨ κ = 1 ∨ κ = 2 ∨ κ = 3 ∨ κ = 4 by omega) with rfl | rfl | rfl | rfl | rfl <;> rfl
theorem sbK_le : ∀ κ, κ ≤ 4 → sbK κ ≤ 3 := by
  intro κ h
  rcases (show κ = 0 ∨ κ = 1 ∨ κ = 2 ∨ κ = 3 ∨ κ = 4 by omega) with rfl | rfl | rfl | rfl | rfl <;> decide
theorem tbK_le : ∀ κ, κ ≤ 4 → tbK κ ≤ 3 := by
  intro κ h
  rcases (show κ = 0 ∨ κ = 1 ∨ κ = 2 ∨ κ = 3 ∨ κ = 4 by omega) with rfl | rfl | rfl | rfl | rfl <;> decide
