/-! the law: small facts -/
theorem law_le {L i : Nat} (hL : L ≤ 3072) (hi : i ≤ 3078) (h : ¬ nI L - nI 6 < nI i) : i + 6 ≤ L := by
  by_cases h6 : 6 ≤ L
  · rw [pk_sub h6] at h
    rcases Nat.lt_or_ge (L - 6) i with z | z
    · exact absurd (nI_lt z (by omega)) h
    · omega
  · exfalso
    apply h
    have h1 := pc_sub_neg (a := L) (b := 6) (by omega) (by decide)
    have h2 := nI_pos' (n := i) (by omega)
    rw [Int32.lt_iff_toInt_lt] at h1 ⊢
    rw [Int32.le_iff_toInt_le] at h2
    omega
theorem bl_cut {t u : Nat → UInt8} {n k : Nat} (h : bl t n = bl u n) (hk : k ≤ n) : bl t k = bl u k := bl_eq fun j hj => by
  rw [← bl_at (t := t) (n := n) (by omega), h, bl_at (by omega)]
theorem bl_agr {t u : Nat → UInt8} {n j : Nat} (h : bl t n = bl u n) (hj : j < n) : bN t j = bN u j := by
  rw [← bl_at (t := t) (n := n) hj, h, bl_at hj]
theorem m1_neg {k : Int32} (h : k < (-1)) : k < 0 := by
  rw [i_lt] at h ⊢
  rw [show (-1 : Int32).toInt = -1 from by decide] at h
  rw [show (0 : Int32).toInt = 0 from by decide]
  omega
theorem bl_same {t u : Nat → UInt8} {n k : Nat} (h : bl t n = bl u k) : n = k := by
  have := congrArg List.length h
  rw [bl_len, bl_len] at this
  exact this
