/-! bits and lists for the reference's loops -/
theorem shr_b {a k : Nat} (hk : k ≤ 24) : (nI a >>> (nI k &&& 31)).toInt8.toInt32 = sb_b (a / 2 ^ k % 256) := by
  unfold sb_b
  congr 1
  apply Int8.toBitVec_inj.mp
  apply BitVec.eq_of_getLsbD_eq
  intro i hi
  have hs : ((nI k &&& 31).toBitVec.smod 32).toNat = k := by
    have : ∀ k : Fin 32, ((nI k.val &&& 31).toBitVec.smod 32).toNat = k.val := by decide +kernel
    exact this ⟨k, by omega⟩
  show ((nI a >>> (nI k &&& 31)).toBitVec.signExtend 8).getLsbD i = ((nI (a / 2 ^ k % 256)).toBitVec.signExtend 8).getLsbD i
  rw [BitVec.getLsbD_signExtend, BitVec.getLsbD_signExtend, if_pos (by omega), if_pos (by omega)]
  show (decide (i < 8) && ((nI a).toBitVec.sshiftRight ((nI k &&& 31).toBitVec.smod 32).toNat).getLsbD i) = (decide (i < 8) && (BitVec.ofNat 32 (a / 2 ^ k % 256)).getLsbD i)
  rw [hs, BitVec.getLsbD_sshiftRight, if_pos (by omega), BitVec.getLsbD_ofNat]
  show _ = (_ && (decide (i < 32) && _))
  rw [show (nI a).toBitVec = BitVec.ofNat 32 a from rfl, BitVec.getLsbD_ofNat, show (256 : Nat) = 2 ^ 8 from rfl, Nat.testBit_mod_two_pow, Nat.testBit_div_two_pow]
  simp [hi, show k + i < 32 by omega, show i < 32 by omega, Nat.add_comm]
theorem take_at {L : List Nat} {i : Nat} (h : i < L.length) : L.take (i + 1) = L.take i ++ [L.getD i 0] := by
  rw [List.take_succ, List.getElem?_eq_getElem h]
  simp [List.getD, List.getElem?_eq_getElem h]
theorem bl_nextL {t f : Nat → UInt8} {n w i : Nat} {L : List Nat} (hc : bl f w = bl t n ++ L.take i) (hi : i < L.length) (hx : L.getD i 0 < 256) : bl (upB f w (L.getD i 0)) (w + 1) = bl t n ++ L.take (i + 1) := by
  rw [bl_put, hc, take_at hi, Nat.mod_eq_of_lt hx, List.append_assoc]
theorem twenty {i : Nat} (h : i < 20) : i = 0 ∨ i = 1 ∨ i = 2 ∨ i = 3 ∨ i = 4 ∨ i = 5 ∨ i = 6 ∨ i = 7 ∨ i = 8 ∨ i = 9 ∨ i = 10 ∨ i = 11 ∨ i = 12 ∨ i = 13 ∨ i = 14 ∨ i = 15 ∨ i = 16 ∨ i = 17 ∨ i = 18 ∨ i = 19 := by omega
theorem feed_F {a b c d e j : Nat} (hj : j < 5) : (upd (upd (upd (upd (upd (fun _ => 0) 0 (nI a)) 1 (nI b)) 2 (nI c)) 3 (nI d)) 4 (nI e)) j = nI ([a, b, c, d, e].getD j 0) := by
  rcases (show j = 0 ∨ j = 1 ∨ j = 2 ∨ j = 3 ∨ j = 4 by omega) with rfl | rfl | rfl | rfl | rfl <;> simp [upd]
theorem feed_G {a b c d e i : Nat} (hi : i < 20) : (feedL a b c d e).getD i 0 = [a, b, c, d, e].getD (i / 4) 0 / 2 ^ (24 - 8 * (i % 4)) % 256 := by
  rcases twenty hi with rfl | rfl | rfl | rfl | rfl | rfl | rfl | rfl | rfl | rfl | rfl | rfl | rfl | rfl | rfl | rfl | rfl | rfl | rfl | rfl <;> simp [feedL, fourB]
theorem feed_at {a b c d e i : Nat} (hi : i < 20) : ((upd (upd (upd (upd (upd (fun _ => 0) 0 (nI a)) 1 (nI b)) 2 (nI c)) 3 (nI d)) 4 (nI e)) (i / 4) >>> (nI (24 - 8 * (i % 4)) &&& 31)).toInt8.toInt32 = sb_b ((feedL a b c d e).getD i 0) := by
  rw [feed_F (by omega), shr_b (by omega), feed_G hi]
theorem feed_lt {a b c d e i : Nat} (hi : i < 20) : (feedL a b c d e).getD i 0 < 256 := by
  rw [feed_G hi]
  exact Nat.mod_lt _ (by decide)
theorem feed_end {a b c d e i n : Nat} {t v : Nat → UInt8} (hc : bl v (n + i) = bl t n ++ (feedL a b c d e).take i) (hi : i = 20) : bl v (n + 20) = bl t n ++ feedL a b c d e := by
  subst hi
  exact hc
theorem letter_s {t v : Nat → UInt8} {n i c : Nat} (hc : bl v (n + i) = bl t n ++ (chL c).take i) (hi : i < chW c) (h0 : i ≠ 0) : bl (upB v (n + i) (128 + c / 2 ^ (6 * (chW c - 1 - i)) % 64)) (n + i + 1) = bl t n ++ (chL c).take (i + 1) := by
  rw [bl_put, hc, chL_take hi, Nat.mod_eq_of_lt (by omega), List.append_assoc]
  unfold chB
  rw [if_neg h0]
theorem letter_0 {t v : Nat → UInt8} {n i c : Nat} (hcc : c ≤ 1114111) (hc : bl v (n + i) = bl t n ++ (chL c).take i) (hi : i < chW c) (h0 : i = 0) : bl (upB v (n + i) (chM (chW c) + c / 2 ^ (6 * (chW c - 1 - i)))) (n + i + 1) = bl t n ++ (chL c).take (i + 1) := by
  subst h0
  rw [Nat.sub_zero, bl_put, hc, chL_take hi, Nat.mod_eq_of_lt (ch_first hcc), List.append_assoc, chB_0]
theorem letter_end {t v : Nat → UInt8} {n i c : Nat} (hc : bl v (n + i) = bl t n ++ (chL c).take i) (hi : i = chW c) : bl v (n + chW c) = bl t n ++ chL c := by
  subst hi
  rw [hc, chL_all]
theorem vlast_127 {v : Nat} (hv : v < 2 ^ 31) : v / 2 ^ (7 * (vsz v - 1)) < 128 := by
  have := vsz_in v
  rcases (show vsz v = 1 ∨ vsz v = 2 ∨ vsz v = 3 ∨ vsz v = 4 ∨ vsz v = 5 by omega) with e | e | e | e | e <;> rw [e] <;> unfold vsz at e <;> (repeat' split at e) <;> simp <;> omega
theorem var_s {t f : Nat → UInt8} {n i v : Nat} (hc : bl f (n + i) = bl t n ++ (vL v).take i) (hi : i < vsz v - 1) : bl (upB f (n + i) (v / 2 ^ (7 * i) % 128 + 128)) (n + i + 1) = bl t n ++ (vL v).take (i + 1) := by
  rw [bl_put, hc, vL_step (by omega), Nat.mod_eq_of_lt (by omega), List.append_assoc]
theorem var_l {t f : Nat → UInt8} {n i v : Nat} (hv : v < 2 ^ 31) (hc : bl f (n + i) = bl t n ++ (vL v).take i) (hi : i < vsz v) (hl : vsz v - 1 ≤ i) : bl (upB f (n + i) (v / 2 ^ (7 * i) % 128 + 0)) (n + i + 1) = bl t n ++ (vL v).take (i + 1) := by
  have e : i = vsz v - 1 := by omega
  have h := vlast_127 hv
  rw [e] at hc ⊢
  have := vsz_in v
  rw [bl_put, hc, Nat.add_zero, Nat.mod_eq_of_lt h, Nat.mod_eq_of_lt (by omega), List.append_assoc, ← vL_last, show vsz v - 1 + 1 = vsz v by omega, List.take_of_length_le (by rw [vL_len]; exact Nat.le_refl _)]
theorem var_end {t f : Nat → UInt8} {n i v : Nat} (hc : bl f (n + i) = bl t n ++ (vL v).take i) (hi : i = vsz v) : bl f (n + vsz v) = bl t n ++ vL v := by
  subst hi
  rw [hc, List.take_of_length_le (by rw [vL_len]; exact Nat.le_refl _)]
theorem vs_lo {v i : Nat} (h1 : 1 ≤ i) (h : 0 < v / 2 ^ (7 * i)) : 2 ^ (7 * (i + 1 - 1)) ≤ v := by
  rw [Nat.add_sub_cancel]
  exact (Nat.div_pos_iff.mp h).2
theorem vs_hi {v i : Nat} (h : v / 2 ^ (7 * i) = 0) : v < 2 ^ (7 * i) := (div0 v _).mp h
theorem or_128 (a : Nat) : nI (a % 128) ||| nI 128 = nI (a % 128 + 128) := by
  rw [nI_or]
  have := or_add (a := a % 128) (b := 1) (k := 7) (by omega)
  rw [Nat.one_mul] at this
  exact congrArg nI this
theorem bI_and {P P2 P3 : Prop} [Decidable P] [Decidable P2] [Decidable P3] (h : P ∧ P2 ↔ P3) : bI P &&& bI P2 = bI P3 := by
  by_cases h1 : P <;> by_cases h2 : P2
  · rw [bI_t h1, bI_t h2, bI_t (h.mp ⟨h1, h2⟩)]; decide
  · rw [bI_t h1, bI_f h2, bI_f (fun z => h2 (h.mpr z).2)]; decide
  · rw [bI_f h1, bI_t h2, bI_f (fun z => h1 (h.mpr z).1)]; decide
  · rw [bI_f h1, bI_f h2, bI_f (fun z => h1 (h.mpr z).1)]; decide
theorem bI_c {P P2 : Prop} [Decidable P] [Decidable P2] (h : P ↔ P2) : bI P = bI P2 := by
  by_cases h1 : P
  · rw [bI_t h1, bI_t (h.mp h1)]
  · rw [bI_f h1, bI_f (fun z => h1 (h.mpr z))]
theorem wr_len {t u : Nat → UInt8} {n w : Nat} {L : List Nat} (hc : bl u w = (bl t n ++ L).take 32768) : w = min 32768 (n + L.length) := by
  have := congrArg List.length hc
  rw [bl_len, List.length_take, List.length_append, bl_len] at this
  exact this
theorem wr_step {t u u2 : Nat → UInt8} {n w w2 b : Nat} {L L2 : List Nat} (hc : bl u w = (bl t n ++ L).take 32768) (hc2 : bl u2 w2 = (bl u w ++ [b % 256]).take 32768) (hb : b < 256) (hL : L2 = L ++ [b]) : bl u2 w2 = (bl t n ++ L2).take 32768 := by
  rw [hc2, hc, tk_app, Nat.mod_eq_of_lt hb, List.append_assoc, hL]
theorem vs_more {v i : Nat} (hv : v < 2 ^ 31) (hi : i < vsz v) (h : 127 < v / 2 ^ (7 * i)) : i + 1 < vsz v := by
  have h5 := vsz_in v
  rcases (show i = 0 ∨ i = 1 ∨ i = 2 ∨ i = 3 ∨ i = 4 by omega) with rfl | rfl | rfl | rfl | rfl <;> simp at h <;> unfold vsz at hi ⊢ <;> (repeat' split) <;> omega
theorem vs_last {v i : Nat} (hi : i < vsz v) (h : v / 2 ^ (7 * i) ≤ 127) : i = vsz v - 1 := by
  have h5 := vsz_in v
  rcases (show i = 0 ∨ i = 1 ∨ i = 2 ∨ i = 3 ∨ i = 4 by omega) with rfl | rfl | rfl | rfl | rfl <;> simp at h <;> unfold vsz at hi ⊢ <;> (repeat' split at hi) <;> (repeat' split) <;> omega
theorem vL_tk_len {v i : Nat} (hi : i ≤ vsz v) : ((vL v).take i).length = i := by rw [List.length_take, vL_len]; omega
theorem wr_end {t u u2 : Nat → UInt8} {n w w2 i v : Nat} (hv : v < 2 ^ 31) (hi : i = vsz v - 1) (hc : bl u w = (bl t n ++ (vL v).take i).take 32768) (hc2 : bl u2 w2 = (bl u w ++ [v / 2 ^ (7 * i) % 256]).take 32768) : bl u2 w2 = (bl t n ++ vL v).take 32768 := by
  refine wr_step hc hc2 ?_ ?_
  · rw [hi]; exact vlast_lt hv
  · rw [hi]; exact vL_last v
theorem sb_bA (t : Nat → UInt8) (j : Nat) : (bA t j).toInt8.toInt32 = sb_b (bN t j) := by
  show ((nI (t j).toNat).toInt8.toInt32).toInt8.toInt32 = (nI (t j).toNat).toInt8.toInt32
  rw [Int8.toInt8_toInt32]
theorem pl_step {t : Nat → UInt8} {n a i : Nat} (ha : a ≤ i) (hi : i < n) : ((bl t n).drop a).take (i + 1 - a) = ((bl t n).drop a).take (i - a) ++ [bN t i] := by
  rw [show i + 1 - a = (i - a) + 1 by omega, take_at (by rw [List.length_drop, bl_len]; omega)]
  congr 2
  rw [← bl_at (n := n) hi]
  simp only [List.getD, List.getElem?_drop]
  rw [show a + (i - a) = i by omega]
theorem plL_len {L : List Nat} {a b : Nat} (h : a < b) (hb : b ≤ L.length) : (plL L a b).length = vsz (2 * (b - a)) + (b - a) := by
  unfold plL
  rw [if_neg (by omega), List.length_append, vL_len, List.length_take, List.length_drop]
  omega
theorem plL_eq {L : List Nat} {a b : Nat} (h : a < b) : plL L a b = vL (2 * (b - a)) ++ (L.drop a).take (b - a) := by
  unfold plL
  rw [if_neg (by omega)]
theorem plL_0 {L : List Nat} {a b : Nat} (h : b ≤ a) : plL L a b = [] := by
  unfold plL
  rw [if_pos h]
