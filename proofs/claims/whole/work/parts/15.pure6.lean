
theorem nI_sub2 {a b c : Nat} (h : b + c ≤ a) : nI a - nI b - nI c = nI (a - b - c) := by rw [pk_sub (by omega), pk_sub (by omega)]
theorem nI_m1 (d : Nat) : nI (d + 1) - 1 = nI d := by rw [← nI_1, Int32.add_sub_cancel]
theorem bit_frA : ∀ F, F < 64 → ∀ n, n < 6 → (nI F &&& (((1 : Int32) <<< (nI n &&& 31)) ^^^ (-1))) = nI (clr F n) := bit_clr
theorem mul_le_of {a b A B : Nat} (h : a ≤ A) (h2 : b ≤ B) : a * b ≤ A * B := Nat.mul_le_mul h h2
