
/-! ===== races, forward ===== -/
def smT (f : Nat → Nat) : Nat → Nat
  | 0 => 0
  | n + 1 => smT f n + f n
theorem smT_congr {f g : Nat → Nat} : ∀ n, (∀ k, k < n → f k = g k) → smT f n = smT g n
  | 0, _ => rfl
  | n + 1, h => by show smT f n + f n = smT g n + g n; rw [smT_congr n (fun k hk => h k (by omega)), h n (by omega)]
theorem smT_zero {f : Nat → Nat} : ∀ n, (∀ k, k < n → f k = 0) → smT f n = 0
  | 0, _ => rfl
  | n + 1, h => by show smT f n + f n = 0; rw [smT_zero n (fun k hk => h k (by omega)), h n (by omega)]
def rcTo (ow : Nat → Nat) (k w : Nat) : Nat := if k / 10 = 9 ∨ k % 10 = 9 then k else 10 * aft ow 0 (k / 10) 0 w + aft ow 0 (k % 10) 0 w
def add1 (T : Nat → Nat) (j v : Nat) : Nat → Nat := fun t => if t = j then T t + v else T t
def rcW (tn : Nat → Nat → Nat) (ow : Nat → Nat) (P : Nat → Nat) (k : Nat) (T : Nat → Nat) : Nat → Nat → Nat
  | 0 => T
  | w + 1 => add1 (rcW tn ow P k T w) (rcTo ow k w) (P k * sumT tn w 3)
def rcK (tn : Nat → Nat → Nat) (ow : Nat → Nat) (P : Nat → Nat) : Nat → Nat → Nat
  | 0 => fun _ => 0
  | k + 1 => rcW tn ow P k (rcK tn ow P k) 5
def rcP (tn : Nat → Nat → Nat) (ow : Nat → Nat) (k0 : Nat) : Nat → Nat → Nat
  | 0 => fun k => if k = k0 then 1 else 0
  | d + 1 => rcK tn ow (rcP tn ow k0 d) 100
def dotT (T V : Nat → Nat) : Nat := smT (fun k => T k * V k) 100
theorem smT_add1 {T V : Nat → Nat} {j v : Nat} : ∀ n, smT (fun k => add1 T j v k * V k) n = smT (fun k => T k * V k) n + if j < n then v * V j else 0
  | 0 => by simp [smT]
  | n + 1 => by
    have h := smT_add1 (T := T) (V := V) (j := j) (v := v) n
    show smT _ n + add1 T j v n * V n = smT _ n + T n * V n + _
    rw [h]
    unfold add1
    by_cases e : n = j
    · subst e
      rw [if_neg (Nat.lt_irrefl n), if_pos rfl, if_pos (Nat.lt_succ_self n), Nat.add_mul]
      omega
    · rw [if_neg e]
      by_cases q : j < n
      · rw [if_pos q, if_pos (by omega)]; omega
      · rw [if_neg q, if_neg (by omega)]; omega
theorem dot_add1 {T V : Nat → Nat} {j v : Nat} (hj : j < 100) : dotT (add1 T j v) V = dotT T V + v * V j := by
  unfold dotT
  rw [smT_add1, if_pos hj]
theorem rcTo_lt {ow : Nat → Nat} {k w : Nat} (h : k < 100) : rcTo ow k w < 100 := by
  have h1 := aft_le (ow := ow) (κ := 0) (k := 0) (w := w) (p := k / 10) (by omega)
  have h2 := aft_le (ow := ow) (κ := 0) (k := 0) (w := w) (p := k % 10) (by omega)
  unfold rcTo
  split <;> omega
theorem dot_rcW {tn : Nat → Nat → Nat} {ow : Nat → Nat} {P T V : Nat → Nat} {k : Nat} (hk : k < 100) : ∀ w, dotT (rcW tn ow P k T w) V = dotT T V + P k * smT (fun w => sumT tn w 3 * V (rcTo ow k w)) w
  | 0 => by simp [rcW, smT]
  | w + 1 => by
    show dotT (add1 _ _ _) V = _
    rw [dot_add1 (rcTo_lt hk), dot_rcW hk w]
    show _ = dotT T V + P k * (smT _ w + sumT tn w 3 * V (rcTo ow k w))
    rw [Nat.mul_add, Nat.mul_assoc]
    omega
def raV (tn : Nat → Nat → Nat) (ow : Nat → Nat) (d k : Nat) : Nat := raT tn ow d (k / 10) (k % 10)
theorem raS_sm {tn : Nat → Nat → Nat} {ow : Nat → Nat} {c : Nat → Nat → Nat} {a b : Nat} : ∀ n, raS tn ow c a b n = smT (fun w => sumT tn w 3 * c (aft ow 0 a 0 w) (aft ow 0 b 0 w)) n
  | 0 => rfl
  | n + 1 => by show raS tn ow c a b n + _ = smT _ n + _; rw [raS_sm n]
theorem smT_mul {f : Nat → Nat} {M : Nat} : ∀ n, smT (fun w => f w * M) n = smT f n * M
  | 0 => by simp [smT]
  | n + 1 => by show smT _ n + f n * M = (smT f n + f n) * M; rw [smT_mul n, Nat.add_mul]
theorem sum30 {tn : Nat → Nat → Nat} (h : TnOK tn) : smT (fun w => sumT tn w 3) 5 = 30 := by
  have h0 := h 0 (by omega)
  have h1 := h 1 (by omega)
  have h2 := h 2 (by omega)
  simp only [smT, sumT]
  omega
theorem raV_step {tn : Nat → Nat → Nat} {ow : Nat → Nat} (h : TnOK tn) {d k : Nat} (hk : k < 100) : smT (fun w => sumT tn w 3 * raV tn ow d (rcTo ow k w)) 5 = raV tn ow (d + 1) k := by
  by_cases ho : k / 10 = 9 ∨ k % 10 = 9
  · rw [smT_congr 5 (g := fun w => sumT tn w 3 * raV tn ow d k) (fun w _ => by rw [show rcTo ow k w = k from if_pos ho]), smT_mul, sum30 h]
    unfold raV
    by_cases h9 : k % 10 = 9
    · rw [h9]
      cases d <;> simp [raT]
    · have h8 : k / 10 = 9 := by omega
      rw [h8]
      cases d with
      | zero => simp [raT, h9]
      | succ d => simp only [raT]; rw [if_neg h9, if_neg h9]; simp [Nat.pow_succ]; omega
  · have h9 : ¬ k % 10 = 9 := fun q => ho (Or.inr q)
    have h8 : ¬ k / 10 = 9 := fun q => ho (Or.inl q)
    show _ = raT tn ow (d + 1) (k / 10) (k % 10)
    simp only [raT]
    rw [if_neg h9, if_neg h8, raS_sm]
    refine smT_congr 5 (fun w _ => ?_)
    have h1 := aft_le (ow := ow) (κ := 0) (k := 0) (w := w) (p := k / 10) (by omega)
    have h2 := aft_le (ow := ow) (κ := 0) (k := 0) (w := w) (p := k % 10) (by omega)
    unfold raV
    rw [show rcTo ow k w = 10 * aft ow 0 (k / 10) 0 w + aft ow 0 (k % 10) 0 w from if_neg ho]
    rw [show (10 * aft ow 0 (k / 10) 0 w + aft ow 0 (k % 10) 0 w) / 10 = aft ow 0 (k / 10) 0 w by omega, show (10 * aft ow 0 (k / 10) 0 w + aft ow 0 (k % 10) 0 w) % 10 = aft ow 0 (k % 10) 0 w by omega]
theorem dot_rcK {tn : Nat → Nat → Nat} {ow : Nat → Nat} (h : TnOK tn) {P : Nat → Nat} {d : Nat} : ∀ k, k ≤ 100 → dotT (rcK tn ow P k) (raV tn ow d) = smT (fun k => P k * raV tn ow (d + 1) k) k
  | 0, _ => smT_zero 100 (fun k _ => Nat.zero_mul _)
  | k + 1, hk => by
    show dotT (rcW tn ow P k _ 5) _ = smT _ k + _
    rw [dot_rcW (by omega), dot_rcK h k (by omega), raV_step h (by omega)]
theorem dot_rcP {tn : Nat → Nat → Nat} {ow : Nat → Nat} (h : TnOK tn) (k0 : Nat) (hk : k0 < 100) : ∀ d m, dotT (rcP tn ow k0 d) (raV tn ow m) = raV tn ow (d + m) k0
  | 0, m => by
    have e : ∀ n, smT (fun k => (if k = k0 then 1 else 0) * raV tn ow m k) n = if k0 < n then raV tn ow m k0 else 0 := by
      intro n
      induction n with
      | zero => rfl
      | succ n ih =>
        show smT _ n + (if n = k0 then 1 else 0) * raV tn ow m n = _
        rw [ih]
        by_cases q : n = k0
        · subst q; rw [if_neg (Nat.lt_irrefl n), if_pos rfl, if_pos (Nat.lt_succ_self n)]; omega
        · rw [if_neg q]
          by_cases q2 : k0 < n
          · rw [if_pos q2, if_pos (by omega)]; omega
          · rw [if_neg q2, if_neg (by omega)]; omega
    show smT (fun k => (if k = k0 then 1 else 0) * raV tn ow m k) 100 = _
    rw [e 100, if_pos hk, Nat.zero_add]
  | d + 1, m => by
    show dotT (rcK tn ow (rcP tn ow k0 d) 100) _ = _
    rw [dot_rcK h 100 (by omega)]
    show dotT (rcP tn ow k0 d) (raV tn ow (m + 1)) = _
    rw [dot_rcP h k0 hk d (m + 1), show d + (m + 1) = d + 1 + m by omega]
theorem smT_split (f : Nat → Nat) (n : Nat) : ∀ m, smT f (n + m) = smT f n + smT (fun k => f (n + k)) m
  | 0 => rfl
  | m + 1 => by show smT f (n + m) + f (n + m) = smT f n + (smT _ m + f (n + m)); rw [smT_split f n m]; omega
theorem dot_0 {tn : Nat → Nat → Nat} {ow : Nat → Nat} {P : Nat → Nat} : dotT P (raV tn ow 0) = smT (fun p => P (90 + p)) 9 := by
  unfold dotT
  rw [show (100 : Nat) = 90 + (9 + 1) from rfl, smT_split, smT_split _ 9 1]
  rw [smT_zero 90 (fun k hk => by unfold raV; simp only [raT]; rw [if_neg (show ¬ k / 10 = 9 by omega)]; simp)]
  rw [smT_congr 9 (g := fun p => P (90 + p)) (fun p hp => by unfold raV; simp only [raT]; rw [show (90 + p) / 10 = 9 by omega, if_neg (show ¬ (90 + p) % 10 = 9 by omega), if_pos rfl, Nat.mul_one])]
  have : smT (fun k => P (90 + (9 + k)) * raV tn ow 0 (90 + (9 + k))) 1 = 0 := smT_zero 1 (fun k hk => by
    obtain rfl : k = 0 := Nat.lt_one_iff.mp hk
    simp [raV, raT])
  rw [this]
  omega
