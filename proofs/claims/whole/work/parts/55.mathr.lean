/-! unpacking, a step at a time -/
section UNS
variable {L : List Nat} {all fu p q q2 v d : Nat} {o : List Nat}
theorem un1 (h : o.length < all) (hr : readV L p = none) : unA L all fu p o = none := unA_bad h (by unfold piStep; rw [hr])
theorem un2 (h : o.length < all) (hr : readV L p = some (v, q)) (hb : all - o.length < v / 2) : unA L all fu p o = none := unA_bad h (by unfold piStep; rw [hr]; show (if _ then _ else _) = _; rw [if_pos hb])
theorem pi_pl {mo : Nat} (hr : readV L p = some (v, q)) (hb : v / 2 ≤ mo) (he : v % 2 = 0) : piStep L p o mo = plStep L q o (v / 2) := by
  unfold piStep
  rw [hr]
  show (if _ then _ else _) = _
  rw [if_neg (by omega), if_pos he]
theorem pi_po {mo : Nat} (hr : readV L p = some (v, q)) (hb : v / 2 ≤ mo) (he : v % 2 ≠ 0) : piStep L p o mo = poStep L q o (v / 2) := by
  unfold piStep
  rw [hr]
  show (if _ then _ else _) = _
  rw [if_neg (by omega), if_neg he]
theorem un3 (h : o.length < all) (hr : readV L p = some (v, q)) (hb : v / 2 ≤ all - o.length) (he : v % 2 = 0) (hx : v / 2 < 1 ∨ L.length - q < v / 2) : unA L all fu p o = none := unA_bad h (by rw [pi_pl hr hb he]; unfold plStep; rw [if_pos hx])
theorem un4 (h : o.length < all) (hr : readV L p = some (v, q)) (hb : v / 2 ≤ all - o.length) (he : v % 2 ≠ 0) (hd : readV L q = none) : unA L all fu p o = none := unA_bad h (by rw [pi_po hr hb he]; unfold poStep; rw [hd])
theorem un5 (h : o.length < all) (hr : readV L p = some (v, q)) (hb : v / 2 ≤ all - o.length) (he : v % 2 ≠ 0) (hd : readV L q = some (d, q2)) (hx : v / 2 < 4 ∨ d < 1 ∨ o.length < d) : unA L all fu p o = none := unA_bad h (by rw [pi_po hr hb he]; unfold poStep; rw [hd]; show (if _ then _ else _) = _; rw [if_pos hx])
theorem un6 (h : o.length < all) (hr : readV L p = some (v, q)) (hb : v / 2 ≤ all - o.length) (he : v % 2 = 0) (hx : ¬ (v / 2 < 1 ∨ L.length - q < v / 2)) : unA L all (fu + 1) p o = unA L all fu (q + v / 2) (o ++ (L.drop q).take (v / 2)) := unA_more h (by rw [pi_pl hr hb he]; unfold plStep; rw [if_neg hx])
theorem un7 (h : o.length < all) (hr : readV L p = some (v, q)) (hb : v / 2 ≤ all - o.length) (he : v % 2 ≠ 0) (hd : readV L q = some (d, q2)) (hx : ¬ (v / 2 < 4 ∨ d < 1 ∨ o.length < d)) : unA L all (fu + 1) p o = unA L all fu q2 (backL d (v / 2) o) := unA_more h (by rw [pi_po hr hb he]; unfold poStep; rw [hd]; show (if _ then _ else _) = _; rw [if_neg hx])
theorem unP_none (hr : readV L p = none) : unP L p = none := by unfold unP; rw [hr]
theorem unP_big (hr : readV L p = some (v, q)) (hb : 32768 < v) : unP L p = none := by unfold unP; rw [hr]; show (if _ then _ else _) = _; rw [if_pos hb]
theorem unP_go (hr : readV L p = some (v, q)) (hb : v ≤ 32768) : unA L v (v + 1) q [] = unP L p := by
  conv => rhs; unfold unP
  rw [hr]
  show _ = (if _ then _ else _)
  rw [if_neg (by omega)]
end UNS
theorem one_fit {u u2 : Nat → UInt8} {w w2 b : Nat} (hc : bl u2 w2 = (bl u w ++ [b % 256]).take 32768) (h : w < 32768) (hb : b < 256) : bl u2 w2 = bl u w ++ [b] ∧ w2 = w + 1 := by
  rw [List.take_of_length_le (by rw [List.length_append, bl_len]; show w + 1 ≤ _; omega), Nat.mod_eq_of_lt hb] at hc
  refine ⟨hc, ?_⟩
  have := congrArg List.length hc
  rw [bl_len, List.length_append, bl_len] at this
  exact this
theorem pl_put {t u1 u2 : Nat → UInt8} {u : Nat → UInt8} {n m0 m1 m2 q i : Nat} (hc : bl u1 m1 = bl u m0 ++ ((bl t n).drop q).take i) (h2 : bl u2 m2 = bl u1 m1 ++ [bN t (q + i)]) (hq : q + i < n) : bl u2 m2 = bl u m0 ++ ((bl t n).drop q).take (i + 1) := by
  rw [h2, hc, take_at (by rw [List.length_drop, bl_len]; omega), List.append_assoc]
  congr 3
  rw [← bl_at (n := n) hq]
  simp only [List.getD, List.getElem?_drop]
theorem po_put {u1 u2 : Nat → UInt8} {m1 m2 d k i : Nat} {T : List Nat} (hi : i < k) (hd : 0 < d) (hm : d ≤ m1) (hc : backL d (k - i) (bl u1 m1) = T) (h2 : bl u2 m2 = bl u1 m1 ++ [bN u1 (m1 - d)]) : backL d (k - (i + 1)) (bl u2 m2) = T := by
  rw [← hc, backL_step hi hd hm, bl_put, Nat.mod_eq_of_lt (bN_lt u1 _), h2]
/-! the checksum, a bit at a time -/
def s1 (c : Nat) : Nat := c / 2 ^^^ (c % 2) * 3988292384
def bitF (t : Nat → UInt8) : Nat → Nat
  | 0 => 4294967295
  | i + 1 => bitF t i / 2 ^^^ ((bN t (i / 8) / 2 ^ (i % 8) % 2) ^^^ (bitF t i % 2)) * 3988292384
theorem bit2 (a b : Nat) : (a ^^^ b) % 2 = (a % 2) ^^^ (b % 2) := by
  have := Nat.xor_mod_two_pow (a := a) (b := b) (n := 1)
  simpa using this
theorem half2 (a b : Nat) : (a ^^^ b) / 2 = a / 2 ^^^ b / 2 := by
  have := Nat.shiftRight_xor_distrib (a := a) (b := b) (i := 1)
  simpa [Nat.shiftRight_eq_div_pow] using this
theorem m2 (x : Nat) : x % 2 = 0 ∨ x % 2 = 1 := by omega
theorem s1_lin (a b : Nat) : s1 (a ^^^ b) = s1 a ^^^ s1 b := by
  unfold s1
  rw [half2, bit2]
  rcases m2 a with ha | ha <;> rcases m2 b with hb | hb <;> rw [ha, hb]
  · show a / 2 ^^^ b / 2 ^^^ 0 * 3988292384 = (a / 2 ^^^ 0 * 3988292384) ^^^ (b / 2 ^^^ 0 * 3988292384)
    simp
  · show a / 2 ^^^ b / 2 ^^^ 1 * 3988292384 = (a / 2 ^^^ 0 * 3988292384) ^^^ (b / 2 ^^^ 1 * 3988292384)
    simp [Nat.xor_assoc]
  · show a / 2 ^^^ b / 2 ^^^ 1 * 3988292384 = (a / 2 ^^^ 1 * 3988292384) ^^^ (b / 2 ^^^ 0 * 3988292384)
    simp only [Nat.zero_mul, Nat.one_mul, Nat.xor_zero]
    rw [Nat.xor_assoc, Nat.xor_comm (b / 2), ← Nat.xor_assoc]
  · show a / 2 ^^^ b / 2 ^^^ 0 * 3988292384 = (a / 2 ^^^ 1 * 3988292384) ^^^ (b / 2 ^^^ 1 * 3988292384)
    simp only [Nat.zero_mul, Nat.one_mul, Nat.xor_zero]
    rw [Nat.xor_assoc, Nat.xor_comm 3988292384, Nat.xor_assoc, Nat.xor_self, Nat.xor_zero]
theorem s1_2 (a : Nat) : s1 (2 * a) = a := by
  unfold s1
  rw [Nat.mul_div_cancel_left _ (by decide), Nat.mul_mod_right, Nat.zero_mul, Nat.xor_zero]
theorem s1_step (c b : Nat) (hb : b < 2) : c / 2 ^^^ (b ^^^ c % 2) * 3988292384 = s1 (c ^^^ b) := by
  unfold s1
  rw [half2, bit2, Nat.div_eq_of_lt hb, Nat.xor_zero, Nat.mod_eq_of_lt hb, Nat.xor_comm b]
theorem low2 (x : Nat) : x = 2 * (x / 2) ^^^ x % 2 := by
  apply Nat.eq_of_testBit_eq
  intro i
  rw [Nat.testBit_xor]
  cases i with
  | zero => simp [Nat.testBit_zero]
  | succ i =>
    rw [Nat.testBit_succ, Nat.testBit_succ, Nat.testBit_succ, Nat.mul_div_cancel_left _ (by decide), show x % 2 / 2 = 0 by omega, Nat.zero_testBit, Bool.xor_false]
def s8 (c : Nat) : Nat → Nat
  | 0 => c
  | i + 1 => s1 (s8 c i)
theorem s8_lin (a b : Nat) : ∀ i, s8 (a ^^^ b) i = s8 a i ^^^ s8 b i
  | 0 => rfl
  | i + 1 => by show s1 _ = s1 _ ^^^ s1 _; rw [s8_lin a b i, s1_lin]
theorem s8_add (c : Nat) (i : Nat) : ∀ j, s8 c (i + j) = s8 (s8 c i) j
  | 0 => rfl
  | j + 1 => by show s1 (s8 c (i + j)) = s1 _; rw [s8_add c i j]
theorem s8_pow (a : Nat) : ∀ i, s8 (2 ^ i * a) i = a
  | 0 => by simp [s8]
  | i + 1 => by
    rw [Nat.add_comm i 1, s8_add]
    show s8 (s1 (2 ^ (1 + i) * a)) i = a
    rw [show 2 ^ (1 + i) * a = 2 * (2 ^ i * a) by rw [Nat.pow_add, Nat.pow_one, Nat.mul_assoc], s1_2, s8_pow a i]
theorem bit_run (t : Nat → UInt8) (k : Nat) : ∀ j, j ≤ 8 → bitF t (8 * k + j) ^^^ bN t k / 2 ^ j = s8 (bitF t (8 * k) ^^^ bN t k) j
  | 0, _ => by simp [s8]
  | j + 1, h => by
    have ih := bit_run t k j (by omega)
    show bitF t (8 * k + j) / 2 ^^^ ((bN t ((8 * k + j) / 8) / 2 ^ ((8 * k + j) % 8) % 2) ^^^ (bitF t (8 * k + j) % 2)) * 3988292384 ^^^ _ = s1 (s8 _ j)
    rw [← ih, show (8 * k + j) / 8 = k by omega, show (8 * k + j) % 8 = j by omega, s1_step _ _ (by omega)]
    have e := low2 (bN t k / 2 ^ j)
    rw [Nat.div_div_eq_div_mul, ← Nat.pow_succ] at e
    conv => rhs; rw [e]
    rw [Nat.xor_comm (2 * _), ← Nat.xor_assoc, s1_lin (_ ^^^ _) (2 * _), s1_2]
theorem bit_8 (t : Nat → UInt8) (k : Nat) : bitF t (8 * (k + 1)) = s8 (bitF t (8 * k) ^^^ bN t k) 8 := by
  have h := bit_run t k 8 (by omega)
  rw [Nat.div_eq_of_lt (bN_lt t k), Nat.xor_zero] at h
  exact h
theorem half_4 : ∀ v : Fin 16, s8 v.val 4 = (pc_half.getD v.val 0).toBitVec.toNat := by decide +kernel
theorem low16 (x : Nat) : x = 2 ^ 4 * (x / 2 ^ 4) ^^^ x % 2 ^ 4 := by
  have h := Nat.two_pow_add_eq_or_of_lt (i := 4) (b := x % 2 ^ 4) (Nat.mod_lt _ (by decide)) (x / 2 ^ 4)
  have h2 : 2 ^ 4 * (x / 2 ^ 4) ^^^ x % 2 ^ 4 = 2 ^ 4 * (x / 2 ^ 4) ||| x % 2 ^ 4 := by
    apply Nat.eq_of_testBit_eq
    intro i
    rw [Nat.testBit_xor, Nat.testBit_or, Nat.testBit_two_pow_mul, Nat.testBit_mod_two_pow]
    by_cases hi : i < 4
    · simp [show ¬ 4 ≤ i by omega]
    · simp [hi]
  rw [h2, ← h]
  exact (Nat.div_add_mod x (2 ^ 4)).symm
theorem hf_nat (c : Int32) : (hfS c).toBitVec.toNat = s8 c.toBitVec.toNat 4 := by
  have e : (hfS c).toBitVec = (pc_half.getD (c.toBitVec.toNat % 2 ^ 4) 0).toBitVec ^^^ (c.toBitVec >>> 4) := by
    unfold hfS
    show _ ^^^ ((c.toUInt32 >>> ((nI 4).toUInt32 &&& Int32.toUInt32 31)).toInt32).toBitVec = _
    congr 1
  rw [e, BitVec.toNat_xor, BitVec.toNat_ushiftRight, Nat.shiftRight_eq_div_pow]
  conv => rhs; rw [low16 c.toBitVec.toNat]
  rw [s8_lin, s8_pow, half_4 ⟨c.toBitVec.toNat % 2 ^ 4, Nat.mod_lt _ (by decide)⟩, Nat.xor_comm]
theorem cF_nat (t : Nat → UInt8) : ∀ k, (cF t k).toBitVec.toNat = bitF t (8 * k)
  | 0 => by
    show (-1 : Int32).toBitVec.toNat = 4294967295
    decide
  | k + 1 => by
    show (hfS (hfS (cF t k ^^^ nI (bN t k)))).toBitVec.toNat = _
    rw [hf_nat, hf_nat, ← s8_add, bit_8, ← cF_nat t k]
    show s8 ((cF t k).toBitVec ^^^ BitVec.ofNat 32 (bN t k)).toNat 8 = _
    rw [BitVec.toNat_xor, BitVec.toNat_ofNat, Nat.mod_eq_of_lt (Nat.lt_trans (bN_lt t k) (by decide))]
theorem bitF_lt (t : Nat → UInt8) : ∀ i, bitF t i < 2 ^ 32
  | 0 => by
    show 4294967295 < 2 ^ 32
    decide
  | i + 1 => by
    have ih := bitF_lt t i
    refine Nat.xor_lt_two_pow (by omega) ?_
    have hb : (bN t (i / 8) / 2 ^ (i % 8) % 2) ^^^ (bitF t i % 2) < 2 ^ 1 := Nat.xor_lt_two_pow (by omega) (by omega)
    generalize (bN t (i / 8) / 2 ^ (i % 8) % 2) ^^^ (bitF t i % 2) = z at hb
    omega
theorem crc_end (t : Nat → UInt8) (k : Nat) : nI (4294967295 - bitF t (8 * k)) = cF t k ^^^ (-1) := by
  apply Int32.toBitVec_inj.mp
  show BitVec.ofNat 32 _ = (cF t k).toBitVec ^^^ BitVec.allOnes 32
  rw [BitVec.xor_allOnes]
  apply BitVec.eq_of_toNat_eq
  rw [BitVec.toNat_ofNat, BitVec.toNat_not, cF_nat]
  have := bitF_lt t (8 * k)
  omega
theorem cF_eq {t u : Nat → UInt8} : ∀ {k : Nat}, (∀ j, j < k → bN t j = bN u j) → cF t k = cF u k
  | 0, _ => rfl
  | k + 1, h => by
    show hfS (hfS (cF t k ^^^ nI (bN t k))) = hfS (hfS (cF u k ^^^ nI (bN u k)))
    rw [cF_eq (fun j hj => h j (by omega)), h k (by omega)]
theorem bit_at {t : Nat → UInt8} {j i : Nat} (hi : i < 8) : (bA t j >>> (nI i &&& 31)) &&& nI 1 = nI (bN t j / 2 ^ i % 2) := by
  have : ∀ b : Fin 256, ∀ i : Fin 8, (sb_b b.val >>> (nI i.val &&& 31)) &&& nI 1 = nI (b.val / 2 ^ i.val % 2) := by decide +kernel
  exact this ⟨bN t j, bN_lt t j⟩ ⟨i, hi⟩
theorem lN_xor (a b : Nat) : lN a ^^^ lN b = lN (a ^^^ b) := by
  apply Int64.toBitVec_inj.mp
  show BitVec.ofNat 64 a ^^^ BitVec.ofNat 64 b = BitVec.ofNat 64 (a ^^^ b)
  apply BitVec.eq_of_getLsbD_eq
  intro i hi
  simp [BitVec.getLsbD_xor, BitVec.getLsbD_ofNat, hi]
theorem lN_and1 {a : Nat} (h : a < 2 ^ 64) : lN a &&& lN 1 = lN (a % 2) := by
  apply Int64.toBitVec_inj.mp
  show BitVec.ofNat 64 a &&& BitVec.ofNat 64 1 = BitVec.ofNat 64 (a % 2)
  apply BitVec.eq_of_toNat_eq
  rw [BitVec.toNat_and, BitVec.toNat_ofNat, BitVec.toNat_ofNat, BitVec.toNat_ofNat, Nat.mod_eq_of_lt h, show 1 % 2 ^ 64 = 1 from rfl, Nat.and_one_is_mod, Nat.mod_eq_of_lt (a := a % 2) (b := 2 ^ 64) (by omega)]
theorem lN_half {a : Nat} (h : a < 2 ^ 62) : lN a / lN 2 = lN (a / 2) := by
  apply Int64.toInt_inj.mp
  rw [Int64.toInt_div_of_ne_right _ _ (by decide), lN_toI h, lN_toI (by decide), lN_toI (by omega)]
  rfl
