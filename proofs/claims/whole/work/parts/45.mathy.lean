theorem i_lt {a b : Int32} : a < b ↔ a.toInt < b.toInt := Int32.lt_iff_toInt_lt
theorem m1_or {k : Int32} (h : ¬ k < (-1)) : k = -1 ∨ ¬ k < 0 := by
  rw [i_lt] at h
  by_cases hk : k < 0
  · left
    rw [i_lt] at hk
    apply Int32.toInt_inj.mp
    rw [show (-1 : Int32).toInt = -1 from by decide] at h ⊢
    rw [show (0 : Int32).toInt = 0 from by decide] at hk
    omega
  · exact Or.inr hk
theorem m1_ltN {n : Nat} (h : n < 2 ^ 31) : (-1 : Int32) < nI n := by
  rw [i_lt, nI_toInt h, show (-1 : Int32).toInt = -1 from by decide]
  omega
theorem bl_back {t u : Nat → UInt8} {n k : Nat} : bl (va_cpy u t 0 n k) (n + k) = bl t n ++ bl u k := by
  rw [bl_cpy (n := k) (by omega), List.drop_zero, List.take_of_length_le (by rw [bl_len]; exact Nat.le_refl k)]
