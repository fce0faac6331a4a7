/-! The reference: what is written, cut at the limit. -/
theorem tk_app (A B : List Nat) (N : Nat) : (A.take N ++ B).take N = (A ++ B).take N := by
  by_cases h : A.length ≤ N
  · rw [List.take_of_length_le h]
  · rw [List.take_append_of_le_length (by rw [List.length_take]; omega), List.take_take, Nat.min_self, List.take_append_of_le_length (by omega)]
theorem one_no {t : Nat → UInt8} {n b : Nat} (h : n = 32768) : bl t n = (bl t n ++ [b]).take 32768 := by
  rw [List.take_append_of_le_length (by rw [bl_len]; omega), List.take_of_length_le (by rw [bl_len]; omega)]
theorem one_yes {t : Nat → UInt8} {n b : Nat} (h : n < 32768) : bl (upB t n b) (n + 1) = (bl t n ++ [b % 256]).take 32768 := by
  rw [bl_put, List.take_of_length_le (by rw [List.length_append, bl_len]; show n + 1 ≤ 32768; omega)]
theorem bl_keep {t u : Nat → UInt8} {n : Nat} : bl (va_cpy t u 0 0 n) n = bl t n := by
  have h := bl_back (t := u) (u := t) (n := 0) (k := n)
  rw [Nat.zero_add] at h
  rw [h]
  rfl
