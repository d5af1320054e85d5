
theorem RC.rd {μ μ' : Mm} {a : AT} {b : Nat} (h : RC μ a) (hc : μ.2.2.1 = b) (hb : b = 49 ∨ b = 57) (hf : FrM (rdS (106 - b)) μ μ') : RC μ' a := by
  obtain ⟨a1, a2, a3, a4, ⟨b2, hb2, hcur, hdrf, hB⟩, hA, hK, ⟨τ, hD⟩, hW⟩ := h
  have eb : b2 = b := by rw [← hcur, hc]
  subst eb
  have n : ∀ k, k ≠ 3 → (k < 49 ∨ 64 < k ∨ (b2 ≤ k ∧ k ≤ b2 + 7)) → ¬ rdS (106 - b2) k := fun k h1 h2 q => by
    rcases q with z | z
    · exact h1 z
    · rcases hb with e | e <;> subst e <;> omega
  exact ⟨a1.kept hf (n 1 (by omega) (by omega)) (n 2 (by omega) (by omega)), by rw [hf.1 0 (n 0 (by omega) (by omega))]; exact a2, a3, by rw [hf.1 0 (n 0 (by omega) (by omega))]; exact a4, ⟨b2, hb2, by rw [hf.2]; exact hcur, by rw [hf.2]; exact hdrf, hB.kept hf (fun k h1 h2 => n k (by omega) (by omega))⟩, hA.kept hf (fun k hk => n k (by rcases hk with z | z <;> omega) (by rcases hk with z | z <;> omega)), hK.kept hf (fun k hk => n k (by rcases hk with z | z <;> omega) (by rcases hk with z | z <;> omega)), ⟨τ, hD.kept hf (fun k hk => n k (by rcases hk with z | z <;> omega) (by rcases hk with z | z <;> omega))⟩, hW.kept hf (n 31 (by omega) (by omega)) (n 32 (by omega) (by omega))⟩
theorem faT_le {cd : Nat → Nat} : ∀ n, faT cd n ≤ n
  | 0 => Nat.le_refl _
  | n + 1 => by
    show (if (prT cd (n + 1)).isSome then n + 1 else faT cd n) ≤ n + 1
    have := faT_le (cd := cd) n
    split <;> omega
theorem faT_lt {cd : Nat → Nat} {n : Nat} (h : prT cd n = none) : faT cd n < n := by
  cases n with
  | zero => cases h
  | succ n =>
    show (if (prT cd (n + 1)).isSome then n + 1 else faT cd n) < n + 1
    rw [h]
    have := faT_le (cd := cd) n
    show faT cd n < n + 1
    omega
theorem rdC {b : Nat} (hb : b = 49 ∨ b = 57) : ∀ k, rdS b k → k < 65 := fun k hk => by
  rcases hk with z | z
  · omega
  · rcases hb with e | e <;> subst e <;> omega
