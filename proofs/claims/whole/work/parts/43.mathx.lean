/-! An int as a natural: its 32 bits; what a feed adds. -/
def iN (k : Int32) : Nat := k.toUInt32.toNat
theorem iN_lt32 (k : Int32) : iN k < 2 ^ 32 := k.toUInt32.toNat_lt
theorem nI_iN (k : Int32) : nI (iN k) = k := by
  apply Int32.toBitVec_inj.mp
  show BitVec.ofNat 32 k.toUInt32.toNat = k.toBitVec
  apply BitVec.eq_of_toNat_eq
  rw [BitVec.toNat_ofNat]
  exact Nat.mod_eq_of_lt k.toUInt32.toNat_lt
theorem iN_nI {n : Nat} (h : n < 2 ^ 32) : iN (nI n) = n := by
  show (BitVec.ofNat 32 n).toNat = n
  rw [BitVec.toNat_ofNat]
  exact Nat.mod_eq_of_lt h
theorem iN_lt {k : Int32} (h : ¬ k < 0) : iN k < 2 ^ 31 := by
  obtain ⟨j, hj, e⟩ := nI_of h
  rw [e, iN_nI (by omega)]
  exact hj
theorem iN_pos {k : Int32} (h : iN k < 2 ^ 31) : ¬ k < 0 := by
  have := nI_pos h
  rw [nI_iN] at this
  exact this
def fourB (x : Nat) : List Nat := [x / 2 ^ 24 % 256, x / 2 ^ 16 % 256, x / 2 ^ 8 % 256, x % 256]
def feedL (a b c d e : Nat) : List Nat := fourB a ++ fourB b ++ fourB c ++ fourB d ++ fourB e
theorem bl_four (t : Nat → UInt8) (n x : Nat) : bl (upB (upB (upB (upB t n (x / 2 ^ 24)) (n + 1) (x / 2 ^ 16)) (n + 1 + 1) (x / 2 ^ 8)) (n + 1 + 1 + 1) x) (n + 1 + 1 + 1 + 1) = bl t n ++ fourB x := by
  simp only [bl_put, fourB, List.append_assoc, List.cons_append, List.nil_append]
theorem bl_feed (t : Nat → UInt8) {n a b c d e : Nat} {t1 t2 t3 t4 t5 : Nat → UInt8} (h1 : bl t1 (n + 1 + 1 + 1 + 1) = bl t n ++ fourB a) (h2 : bl t2 (n + 1 + 1 + 1 + 1 + 1 + 1 + 1 + 1) = bl t1 (n + 1 + 1 + 1 + 1) ++ fourB b) (h3 : bl t3 (n + 1 + 1 + 1 + 1 + 1 + 1 + 1 + 1 + 1 + 1 + 1 + 1) = bl t2 (n + 1 + 1 + 1 + 1 + 1 + 1 + 1 + 1) ++ fourB c)
    (h4 : bl t4 (n + 1 + 1 + 1 + 1 + 1 + 1 + 1 + 1 + 1 + 1 + 1 + 1 + 1 + 1 + 1 + 1) = bl t3 (n + 1 + 1 + 1 + 1 + 1 + 1 + 1 + 1 + 1 + 1 + 1 + 1) ++ fourB d) (h5 : bl t5 (n + 20) = bl t4 (n + 1 + 1 + 1 + 1 + 1 + 1 + 1 + 1 + 1 + 1 + 1 + 1 + 1 + 1 + 1 + 1) ++ fourB e) : bl t5 (n + 20) = bl t n ++ feedL a b c d e := by
  rw [h5, h4, h3, h2, h1]
  simp only [feedL, List.append_assoc]
