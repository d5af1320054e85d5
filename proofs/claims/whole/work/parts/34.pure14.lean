
theorem mxF_s (f : Nat → Int64) (h : Int64) (n : Nat) : mx (mxF f h n) (f n) = mxF f h (n + 1) := rfl
theorem inN_lt {i n : Nat} (h : i < n) (hn : n < 2 ^ 31) : inN (nI i) n = true := by rw [inN_nI (by omega)]; exact decide_eq_true h
