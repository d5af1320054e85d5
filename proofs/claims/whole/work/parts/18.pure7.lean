
/-! ===== races, fractions, draws ===== -/
def raS (tn : Nat → Nat → Nat) (ow : Nat → Nat) (c : Nat → Nat → Nat) (a b : Nat) : Nat → Nat
  | 0 => 0
  | w + 1 => raS tn ow c a b w + sumT tn w 3 * c (aft ow 0 a 0 w) (aft ow 0 b 0 w)
def raT (tn : Nat → Nat → Nat) (ow : Nat → Nat) : Nat → Nat → Nat → Nat
  | 0, a, b => if b = 9 then 0 else if a = 9 then 1 else 0
  | d + 1, a, b => if b = 9 then 0 else if a = 9 then 30 ^ (d + 1) else raS tn ow (raT tn ow d) a b 5
theorem raS_le {tn : Nat → Nat → Nat} {ow : Nat → Nat} {c : Nat → Nat → Nat} {M a b : Nat} (hc : ∀ a b, c a b ≤ M) : ∀ n, raS tn ow c a b n ≤ (raS tn ow (fun _ _ => 1) a b n) * M
  | 0 => Nat.zero_le _
  | n + 1 => by
    have h1 := raS_le (tn := tn) (ow := ow) (a := a) (b := b) hc n
    have h2 : sumT tn n 3 * c (aft ow 0 a 0 n) (aft ow 0 b 0 n) ≤ sumT tn n 3 * M := Nat.mul_le_mul_left _ (hc _ _)
    simp only [raS, Nat.mul_one, Nat.add_mul]
    omega
theorem raS_one {tn : Nat → Nat → Nat} {ow : Nat → Nat} {a b : Nat} (h : TnOK tn) : raS tn ow (fun _ _ => 1) a b 5 = 30 := by
  have h0 := h 0 (by omega)
  have h1 := h 1 (by omega)
  have h2 := h 2 (by omega)
  simp only [raS, sumT]
  omega
theorem raS_mono {tn : Nat → Nat → Nat} {ow : Nat → Nat} {a b : Nat} : ∀ n, n ≤ 5 → raS tn ow (fun _ _ => 1) a b n ≤ raS tn ow (fun _ _ => 1) a b 5 := by
  intro n hn
  rcases (show n = 0 ∨ n = 1 ∨ n = 2 ∨ n = 3 ∨ n = 4 ∨ n = 5 by omega) with rfl | rfl | rfl | rfl | rfl | rfl <;> simp only [raS] <;> omega
theorem raT_le {tn : Nat → Nat → Nat} {ow : Nat → Nat} (h : TnOK tn) : ∀ d a b, raT tn ow d a b ≤ 30 ^ d
  | 0, a, b => by simp only [raT]; split <;> simp <;> split <;> simp
  | d + 1, a, b => by
    have h1 := raS_le (tn := tn) (ow := ow) (c := raT tn ow d) (a := a) (b := b) (raT_le (ow := ow) h d) 5
    rw [raS_one h] at h1
    simp only [raT]
    split
    · exact Nat.zero_le _
    · split
      · exact Nat.le_refl _
      · rw [Nat.pow_succ]; omega
def nxS (s : Nat) : Nat := (1103515245 * s + 12345) % 2147483648
theorem nxS_lt (s : Nat) : nxS s < 2 ^ 31 := Nat.mod_lt _ (by decide)
theorem nxS_eq {s : Nat} (h : s < 2 ^ 31) : ((1103515245 : Int64) * (lN s) + (12345 : Int64)) &&& (2147483647 : Int64) = lN (nxS s) := by
  have e1 : (1103515245 : Int64) = lN 1103515245 := rfl
  have e2 : (12345 : Int64) = lN 12345 := rfl
  have e3 : (2147483647 : Int64) = lN (2147483648 - 1) := rfl
  rw [e1, e2, e3, lN_mul, lN_add]
  exact g_mask (s := 31) rfl (by decide) (by omega)
def pfT (tn : Nat → Nat → Nat) (s : Nat) : Nat → Nat
  | 0 => 0
  | w + 1 => pfT tn s w + tn w s
def widT (tn : Nat → Nat → Nat) (s x : Nat) : Nat := if x < pfT tn s 1 then 0 else if x < pfT tn s 2 then 1 else if x < pfT tn s 3 then 2 else if x < pfT tn s 4 then 3 else 4
theorem widT_at {tn : Nat → Nat → Nat} {s x i : Nat} (hi : i < 4) (h : ∀ j, 1 ≤ j → j ≤ i → ¬ x < pfT tn s j) (h2 : x < pfT tn s (i + 1)) : widT tn s x = i := by
  unfold widT
  rcases (show i = 0 ∨ i = 1 ∨ i = 2 ∨ i = 3 by omega) with rfl | rfl | rfl | rfl
  · rw [if_pos h2]
  · rw [if_neg (h 1 (by omega) (by omega)), if_pos h2]
  · rw [if_neg (h 1 (by omega) (by omega)), if_neg (h 2 (by omega) (by omega)), if_pos h2]
  · rw [if_neg (h 1 (by omega) (by omega)), if_neg (h 2 (by omega) (by omega)), if_neg (h 3 (by omega) (by omega)), if_pos h2]
theorem widT_no {tn : Nat → Nat → Nat} {s x : Nat} (h : ∀ j, 1 ≤ j → j ≤ 4 → ¬ x < pfT tn s j) : widT tn s x = 4 := by
  unfold widT
  rw [if_neg (h 1 (by omega) (by omega)), if_neg (h 2 (by omega) (by omega)), if_neg (h 3 (by omega) (by omega)), if_neg (h 4 (by omega) (by omega))]
theorem widT_le {tn : Nat → Nat → Nat} {s x : Nat} : widT tn s x ≤ 4 := by
  unfold widT
  split
  · omega
  · split
    · omega
    · split
      · omega
      · split <;> omega
theorem pfT_le {tn : Nat → Nat → Nat} {s : Nat} (h : ∀ w, w < 5 → tn w s ≤ 10) : ∀ n, n ≤ 5 → pfT tn s n ≤ 10 * n
  | 0, _ => Nat.zero_le _
  | n + 1, hn => by
    have h1 := pfT_le h n (by omega)
    have h2 := h n (by omega)
    show _ + _ ≤ _
    omega
theorem gcd_step {a b : Nat} (h : b ≠ 0) : Nat.gcd a b = Nat.gcd b (a % b) := by
  rw [Nat.gcd_comm a b, Nat.gcd_rec b a, Nat.gcd_comm]
/-- Euclid's remainders fall: at step i behind the first, the product by 2 to the i is small -/
def gcI (a b i : Nat) : Prop := a < 2 ^ 31 ∧ b < 2 ^ 31 ∧ (i = 0 ∨ (b < a ∧ a * b * 2 ^ (i - 1) < 2 ^ 62))
theorem gcI_step {a b i : Nat} (h : gcI a b i) (hb : b ≠ 0) : gcI b (a % b) (i + 1) := by
  obtain ⟨h1, h2, h3⟩ := h
  have hlt : a % b < b := Nat.mod_lt _ (by omega)
  refine ⟨h2, by omega, Or.inr ⟨hlt, ?_⟩⟩
  rw [Nat.add_sub_cancel]
  rcases h3 with rfl | ⟨h3, h4⟩
  · rw [Nat.pow_zero, Nat.mul_one]
    have e1 : b * (a % b) < 2 ^ 31 * 2 ^ 31 := Nat.mul_lt_mul'' h2 (by omega)
    have e2 : (2 : Nat) ^ 31 * 2 ^ 31 = 2 ^ 62 := by decide
    omega
  · cases i with
    | zero => 
      rw [Nat.pow_zero, Nat.mul_one]
      have e1 : b * (a % b) < 2 ^ 31 * 2 ^ 31 := Nat.mul_lt_mul'' h2 (by omega)
      have e2 : (2 : Nat) ^ 31 * 2 ^ 31 = 2 ^ 62 := by decide
      omega
    | succ i =>
      rw [Nat.add_sub_cancel] at h4
      have e0 : 2 * (a % b) ≤ a := by
        have q1 := Nat.div_add_mod a b
        have q2 : 1 ≤ a / b := (Nat.le_div_iff_mul_le (by omega)).mpr (by omega)
        have q3 : b * 1 ≤ b * (a / b) := Nat.mul_le_mul_left _ q2
        omega
      have e1 : b * (a % b) * 2 ^ (i + 1) ≤ a * b * 2 ^ i := by
        rw [Nat.pow_succ]
        have : b * (a % b) * (2 ^ i * 2) = b * (2 * (a % b)) * 2 ^ i := by
          rw [Nat.mul_comm (2 ^ i) 2, ← Nat.mul_assoc, Nat.mul_assoc b, Nat.mul_comm (a % b) 2]
        rw [this, Nat.mul_comm a b]
        exact Nat.mul_le_mul_right _ (Nat.mul_le_mul_left _ e0)
      omega
theorem gcI_end {a b : Nat} (h : gcI a b 64) : b = 0 := by
  obtain ⟨h1, h2, h3⟩ := h
  rcases h3 with h3 | ⟨h3, h4⟩
  · exact absurd h3 (by decide)
  · rcases Nat.eq_zero_or_pos b with q | q
    · exact q
    · have e : 1 * 1 ≤ a * b := Nat.mul_le_mul (by omega) q
      have e2 : 1 * 2 ^ 63 ≤ a * b * 2 ^ 63 := Nat.mul_le_mul_right _ (by omega)
      have e3 : (2 : Nat) ^ 62 < 1 * 2 ^ 63 := by decide
      have e4 : a * b * 2 ^ (64 - 1) = a * b * 2 ^ 63 := rfl
      omega
