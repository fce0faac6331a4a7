theorem ta_0 : tx_all R_Pk 48 "java/lang/IllegalStateException" tx_up = true := by decide +kernel
theorem ta_1 : tx_all R_Pk 59 "java/lang/IllegalArgumentException" tx_up = true := by decide +kernel
theorem ta_2 : tx_all R_Pk 85 "java/util/NoSuchElementException" tx_up = true := by decide +kernel
abbrev rm_Pk_feed : Room := { frames := 6, cells := 1, slots := 6, locals := 81 }
set_option maxHeartbeats 1000000 in
set_option maxRecDepth 100000 in
/-- feed -/
theorem c_Pk_feed (l : Launch) (htr : l.stackTraces = false) (g : pc_G) (x : Nat) (qt : Nat) (kp : Nat) (qo : Nat) (qs : Nat) (qc : Nat) (qn : Nat) (qi : Nat) (r : Nat) (n : Nat) (t : Nat → UInt8) (a : Nat) (b : Nat) (c2 : Nat) (d : Nat) (e2 : Nat) (hn : n ≤ 32768) (ha32 : a < 2 ^ 32) (hb32 : b < 2 ^ 32) (hc232 : c2 < 2 ^ 32) (hd32 : d < 2 ^ 32) (he232 : e2 < 2 ^ 32) : pc_X (S := Nat × (Nat → UInt8)) l y_Pk_feed (.code y_Pk_feed prog_1_method_2_code 6 none) none rm_Pk_feed g [(x, .inr (0, [.ref qt, .ref kp, .ref qo, .ref qs, .ref qc, .ref qn, .ref qi])), (qt, .inr (1, [.ref r, .int (nI n)])), (r, .inl (g.2.1, 32768, .inl (bA t)))] [.ref x, .int (nI a), .int (nI b), .int (nI c2), .int (nI d), .int (nI e2)] (fun rv u => (rv = .inl 0 ∧ n + 20 ≤ 32768 ∧ u.1 = n + 20 ∧ bl u.2 u.1 = bl t n ++ feedL a b c2 d e2) ∨ (rv = .inr "java/lang/IllegalStateException" ∧ 32768 < n + 20 ∧ u.1 = n ∧ u.2 = t)) (fun u => [(x, .inr (0, [.ref qt, .ref kp, .ref qo, .ref qs, .ref qc, .ref qn, .ref qi])), (qt, .inr (1, [.ref r, .int (nI u.1)])), (r, .inl (g.2.1, 32768, .inl (bA u.2)))]) := by
  refine pc_X.of (cc := prog_1_method_2_code) (nL := 6) (rt := none) (hh := []) (by decide) tx_wd.plain (by exact Nat.le_of_ble_eq_true rfl) htr ?_
  intro p e s m below meth c A Q hx hb hml hown hE hA htab hR hT hO hP hD ls hl
  have hS : va_S A s.heap s.heap [] := va_S.rf
  have hl : lv_has ls 6 [(0, .ref x), (1, .int (nI a)), (2, .int (nI b)), (3, .int (nI c2)), (4, .int (nI d)), (5, .int (nI e2))] := hl
  refine lv_aload_n hx hb d_Pk_feed_0 rfl (lv_at hl 0 rfl) ?_
  refine va_get (ci := 0) (C := R_Pk) (T := F_Pk) (N := 7) hx hb hE.hts in_Pk hown hE.2.1 hP 0 rfl rfl 0 (by decide) (hE.w m_84) (fun _ h9 => h9) rfl d_Pk_feed_1 ?_
  refine lv_bipush (v := nI 20) hx hb d_Pk_feed_4 (by decide) ?_
  refine pc_i (wc := [(qt, .inr (1, [.ref r, .int (nI n)])), (r, .inl (g.2.1, 32768, .inl (bA t)))]) (wr := [(x, .inr (0, [.ref qt, .ref kp, .ref qo, .ref qs, .ref qc, .ref qn, .ref qi]))]) (cells' := 0) (slots' := 0) hP hD hS hA [1, 2] [0] rfl rfl (by decide) (by decide) rfl rfl (va_runVN (n := 1) (As := [.int (nI 20)]) (rest := []) (C := R_Bytes) ⟨hx, hb, hml, hown, hE.hts⟩ (c_Bytes_hasRoomFor l g qt r n t 20 (by omega) (by omega) _) ⟨pc_cn hE m_117 m_2 m_114 (by decide +kernel) ⟨by exact Nat.le_of_ble_eq_true rfl, by exact Nat.le_of_ble_eq_true rfl⟩, hE.w m_116, hE.w ms_0⟩ (pc_preV (ci := 1) (q0 := 1) hP hD hE hS hA [1, 2] (by decide) rfl [.int (nI 20)] rfl rfl) rfl rfl hl.1 rfl (lv_room (by exact Nat.le_of_ble_eq_true rfl)) d_Pk_feed_6 ⟨by exact Nat.le_of_ble_eq_true rfl, by exact Nat.le_of_ble_eq_true rfl⟩) (fun r_2 u_1 H locs hw hP hD hS => ?_)
  obtain rfl := hw
  have hP : va_P g.1 pc_cl [(x, .inr (0, [.ref qt, .ref kp, .ref qo, .ref qs, .ref qc, .ref qn, .ref qi])), (qt, .inr (1, [.ref r, .int (nI n)])), (r, .inl (g.2.1, 32768, .inl (bA t)))] H := hP
  have hD : va_D A [(x, .inr (0, [.ref qt, .ref kp, .ref qo, .ref qs, .ref qc, .ref qn, .ref qi])), (qt, .inr (1, [.ref r, .int (nI n)])), (r, .inl (g.2.1, 32768, .inl (bA t)))] := hD
  refine pc_bne (tgt := 20) hx hb d_Pk_feed_9 (by decide) (fun h_3 => ?_) (fun h_3 => ?_)
  · skip
    refine lv_aload_n hx hb d_Pk_feed_20 rfl (lv_at hl 0 rfl) ?_
    refine va_get (ci := 0) (C := R_Pk) (T := F_Pk) (N := 7) hx hb hE.hts in_Pk hown hE.2.1 hP 0 rfl rfl 0 (by decide) (hE.w m_84) (fun _ h9 => h9) rfl d_Pk_feed_21 ?_
    refine lv_iload_n hx hb d_Pk_feed_24 rfl (lv_at hl 1 rfl) ?_
    refine pc_v (wc := [(qt, .inr (1, [.ref r, .int (nI n)])), (r, .inl (g.2.1, 32768, .inl (bA t)))]) (wr := [(x, .inr (0, [.ref qt, .ref kp, .ref qo, .ref qs, .ref qc, .ref qn, .ref qi]))]) (cells' := 0) (slots' := 0) hP hD hS hA [1, 2] [0] rfl rfl (by decide) (by decide) rfl rfl (va_runVN (n := 1) (As := [.int (nI a)]) (rest := []) (C := R_Bytes) ⟨hx, hb, hml, hown, hE.hts⟩ (c_Bytes_addFour l g qt r n t a (by omega) (by omega) _) ⟨pc_cn hE m_184 m_2 m_181 (by decide +kernel) ⟨by exact Nat.le_of_ble_eq_true rfl, by exact Nat.le_of_ble_eq_true rfl⟩, hE.w m_183, hE.w ms_2⟩ (pc_preV (ci := 1) (q0 := 1) hP hD hE hS hA [1, 2] (by decide) rfl [.int (nI a)] rfl rfl) rfl rfl hl.1 rfl (lv_room (by exact Nat.le_of_ble_eq_true rfl)) d_Pk_feed_25 ⟨by exact Nat.le_of_ble_eq_true rfl, by exact Nat.le_of_ble_eq_true rfl⟩) (fun u_4 H locs hw hP hD hS => ?_)
    have hP : va_P g.1 pc_cl [(x, .inr (0, [.ref qt, .ref kp, .ref qo, .ref qs, .ref qc, .ref qn, .ref qi])), (qt, .inr (1, [.ref r, .int (nI (n + 1 + 1 + 1 + 1))])), (r, .inl (g.2.1, 32768, .inl (bA (upB (upB (upB (upB t n (a / 2 ^ 24)) (n + 1) (a / 2 ^ 16)) (n + 1 + 1) (a / 2 ^ 8)) (n + 1 + 1 + 1) a))))] H := hP
    have hD : va_D A [(x, .inr (0, [.ref qt, .ref kp, .ref qo, .ref qs, .ref qc, .ref qn, .ref qi])), (qt, .inr (1, [.ref r, .int (nI (n + 1 + 1 + 1 + 1))])), (r, .inl (g.2.1, 32768, .inl (bA (upB (upB (upB (upB t n (a / 2 ^ 24)) (n + 1) (a / 2 ^ 16)) (n + 1 + 1) (a / 2 ^ 8)) (n + 1 + 1 + 1) a))))] := hD
    refine lv_aload_n hx hb d_Pk_feed_28 rfl (lv_at hl 0 rfl) ?_
    refine va_get (ci := 0) (C := R_Pk) (T := F_Pk) (N := 7) hx hb hE.hts in_Pk hown hE.2.1 hP 0 rfl rfl 0 (by decide) (hE.w m_84) (fun _ h9 => h9) rfl d_Pk_feed_29 ?_
    refine lv_iload_n hx hb d_Pk_feed_32 rfl (lv_at hl 2 rfl) ?_
    refine pc_v (wc := [(qt, .inr (1, [.ref r, .int (nI (n + 1 + 1 + 1 + 1))])), (r, .inl (g.2.1, 32768, .inl (bA (upB (upB (upB (upB t n (a / 2 ^ 24)) (n + 1) (a / 2 ^ 16)) (n + 1 + 1) (a / 2 ^ 8)) (n + 1 + 1 + 1) a))))]) (wr := [(x, .inr (0, [.ref qt, .ref kp, .ref qo, .ref qs, .ref qc, .ref qn, .ref qi]))]) (cells' := 0) (slots' := 0) hP hD hS hA [1, 2] [0] rfl rfl (by decide) (by decide) rfl rfl (va_runVN (n := 1) (As := [.int (nI b)]) (rest := []) (C := R_Bytes) ⟨hx, hb, hml, hown, hE.hts⟩ (c_Bytes_addFour l g qt r (n + 1 + 1 + 1 + 1) (upB (upB (upB (upB t n (a / 2 ^ 24)) (n + 1) (a / 2 ^ 16)) (n + 1 + 1) (a / 2 ^ 8)) (n + 1 + 1 + 1) a) b (by omega) (by omega) _) ⟨pc_cn hE m_184 m_2 m_181 (by decide +kernel) ⟨by exact Nat.le_of_ble_eq_true rfl, by exact Nat.le_of_ble_eq_true rfl⟩, hE.w m_183, hE.w ms_2⟩ (pc_preV (ci := 1) (q0 := 1) hP hD hE hS hA [1, 2] (by decide) rfl [.int (nI b)] rfl rfl) rfl rfl hl.1 rfl (lv_room (by exact Nat.le_of_ble_eq_true rfl)) d_Pk_feed_33 ⟨by exact Nat.le_of_ble_eq_true rfl, by exact Nat.le_of_ble_eq_true rfl⟩) (fun u_6 H locs hw hP hD hS => ?_)
    have hP : va_P g.1 pc_cl [(x, .inr (0, [.ref qt, .ref kp, .ref qo, .ref qs, .ref qc, .ref qn, .ref qi])), (qt, .inr (1, [.ref r, .int (nI (n + 1 + 1 + 1 + 1 + 1 + 1 + 1 + 1))])), (r, .inl (g.2.1, 32768, .inl (bA (upB (upB (upB (upB (upB (upB (upB (upB t n (a / 2 ^ 24)) (n + 1) (a / 2 ^ 16)) (n + 1 + 1) (a / 2 ^ 8)) (n + 1 + 1 + 1) a) (n + 1 + 1 + 1 + 1) (b / 2 ^ 24)) (n + 1 + 1 + 1 + 1 + 1) (b / 2 ^ 16)) (n + 1 + 1 + 1 + 1 + 1 + 1) (b / 2 ^ 8)) (n + 1 + 1 + 1 + 1 + 1 + 1 + 1) b))))] H := hP
    have hD : va_D A [(x, .inr (0, [.ref qt, .ref kp, .ref qo, .ref qs, .ref qc, .ref qn, .ref qi])), (qt, .inr (1, [.ref r, .int (nI (n + 1 + 1 + 1 + 1 + 1 + 1 + 1 + 1))])), (r, .inl (g.2.1, 32768, .inl (bA (upB (upB (upB (upB (upB (upB (upB (upB t n (a / 2 ^ 24)) (n + 1) (a / 2 ^ 16)) (n + 1 + 1) (a / 2 ^ 8)) (n + 1 + 1 + 1) a) (n + 1 + 1 + 1 + 1) (b / 2 ^ 24)) (n + 1 + 1 + 1 + 1 + 1) (b / 2 ^ 16)) (n + 1 + 1 + 1 + 1 + 1 + 1) (b / 2 ^ 8)) (n + 1 + 1 + 1 + 1 + 1 + 1 + 1) b))))] := hD
    refine lv_aload_n hx hb d_Pk_feed_36 rfl (lv_at hl 0 rfl) ?_
    refine va_get (ci := 0) (C := R_Pk) (T := F_Pk) (N := 7) hx hb hE.hts in_Pk hown hE.2.1 hP 0 rfl rfl 0 (by decide) (hE.w m_84) (fun _ h9 => h9) rfl d_Pk_feed_37 ?_
    refine lv_iload_n hx hb d_Pk_feed_40 rfl (lv_at hl 3 rfl) ?_
    refine pc_v (wc := [(qt, .inr (1, [.ref r, .int (nI (n + 1 + 1 + 1 + 1 + 1 + 1 + 1 + 1))])), (r, .inl (g.2.1, 32768, .inl (bA (upB (upB (upB (upB (upB (upB (upB (upB t n (a / 2 ^ 24)) (n + 1) (a / 2 ^ 16)) (n + 1 + 1) (a / 2 ^ 8)) (n + 1 + 1 + 1) a) (n + 1 + 1 + 1 + 1) (b / 2 ^ 24)) (n + 1 + 1 + 1 + 1 + 1) (b / 2 ^ 16)) (n + 1 + 1 + 1 + 1 + 1 + 1) (b / 2 ^ 8)) (n + 1 + 1 + 1 + 1 + 1 + 1 + 1) b))))]) (wr := [(x, .inr (0, [.ref qt, .ref kp, .ref qo, .ref qs, .ref qc, .ref qn, .ref qi]))]) (cells' := 0) (slots' := 0) hP hD hS hA [1, 2] [0] rfl rfl (by decide) (by decide) rfl rfl (va_runVN (n := 1) (As := [.int (nI c2)]) (rest := []) (C := R_Bytes) ⟨hx, hb, hml, hown, hE.hts⟩ (c_Bytes_addFour l g qt r (n + 1 + 1 + 1 + 1 + 1 + 1 + 1 + 1) (upB (upB (upB (upB (upB (upB (upB (upB t n (a / 2 ^ 24)) (n + 1) (a / 2 ^ 16)) (n + 1 + 1) (a / 2 ^ 8)) (n + 1 + 1 + 1) a) (n + 1 + 1 + 1 + 1) (b / 2 ^ 24)) (n + 1 + 1 + 1 + 1 + 1) (b / 2 ^ 16)) (n + 1 + 1 + 1 + 1 + 1 + 1) (b / 2 ^ 8)) (n + 1 + 1 + 1 + 1 + 1 + 1 + 1) b) c2 (by omega) (by omega) _) ⟨pc_cn hE m_184 m_2 m_181 (by decide +kernel) ⟨by exact Nat.le_of_ble_eq_true rfl, by exact Nat.le_of_ble_eq_true rfl⟩, hE.w m_183, hE.w ms_2⟩ (pc_preV (ci := 1) (q0 := 1) hP hD hE hS hA [1, 2] (by decide) rfl [.int (nI c2)] rfl rfl) rfl rfl hl.1 rfl (lv_room (by exact Nat.le_of_ble_eq_true rfl)) d_Pk_feed_41 ⟨by exact Nat.le_of_ble_eq_true rfl, by exact Nat.le_of_ble_eq_true rfl⟩) (fun u_8 H locs hw hP hD hS => ?_)
    have hP : va_P g.1 pc_cl [(x, .inr (0, [.ref qt, .ref kp, .ref qo, .ref qs, .ref qc, .ref qn, .ref qi])), (qt, .inr (1, [.ref r, .int (nI (n + 1 + 1 + 1 + 1 + 1 + 1 + 1 + 1 + 1 + 1 + 1 + 1))])), (r, .inl (g.2.1, 32768, .inl (bA (upB (upB (upB (upB (upB (upB (upB (upB (upB (upB (upB (upB t n (a / 2 ^ 24)) (n + 1) (a / 2 ^ 16)) (n + 1 + 1) (a / 2 ^ 8)) (n + 1 + 1 + 1) a) (n + 1 + 1 + 1 + 1) (b / 2 ^ 24)) (n + 1 + 1 + 1 + 1 + 1) (b / 2 ^ 16)) (n + 1 + 1 + 1 + 1 + 1 + 1) (b / 2 ^ 8)) (n + 1 + 1 + 1 + 1 + 1 + 1 + 1) b) (n + 1 + 1 + 1 + 1 + 1 + 1 + 1 + 1) (c2 / 2 ^ 24)) (n + 1 + 1 + 1 + 1 + 1 + 1 + 1 + 1 + 1) (c2 / 2 ^ 16)) (n + 1 + 1 + 1 + 1 + 1 + 1 + 1 + 1 + 1 + 1) (c2 / 2 ^ 8)) (n + 1 + 1 + 1 + 1 + 1 + 1 + 1 + 1 + 1 + 1 + 1) c2))))] H := hP
    have hD : va_D A [(x, .inr (0, [.ref qt, .ref kp, .ref qo, .ref qs, .ref qc, .ref qn, .ref qi])), (qt, .inr (1, [.ref r, .int (nI (n + 1 + 1 + 1 + 1 + 1 + 1 + 1 + 1 + 1 + 1 + 1 + 1))])), (r, .inl (g.2.1, 32768, .inl (bA (upB (upB (upB (upB (upB (upB (upB (upB (upB (upB (upB (upB t n (a / 2 ^ 24)) (n + 1) (a / 2 ^ 16)) (n + 1 + 1) (a / 2 ^ 8)) (n + 1 + 1 + 1) a) (n + 1 + 1 + 1 + 1) (b / 2 ^ 24)) (n + 1 + 1 + 1 + 1 + 1) (b / 2 ^ 16)) (n + 1 + 1 + 1 + 1 + 1 + 1) (b / 2 ^ 8)) (n + 1 + 1 + 1 + 1 + 1 + 1 + 1) b) (n + 1 + 1 + 1 + 1 + 1 + 1 + 1 + 1) (c2 / 2 ^ 24)) (n + 1 + 1 + 1 + 1 + 1 + 1 + 1 + 1 + 1) (c2 / 2 ^ 16)) (n + 1 + 1 + 1 + 1 + 1 + 1 + 1 + 1 + 1 + 1) (c2 / 2 ^ 8)) (n + 1 + 1 + 1 + 1 + 1 + 1 + 1 + 1 + 1 + 1 + 1) c2))))] := hD
    refine lv_aload_n hx hb d_Pk_feed_44 rfl (lv_at hl 0 rfl) ?_
    refine va_get (ci := 0) (C := R_Pk) (T := F_Pk) (N := 7) hx hb hE.hts in_Pk hown hE.2.1 hP 0 rfl rfl 0 (by decide) (hE.w m_84) (fun _ h9 => h9) rfl d_Pk_feed_45 ?_
    refine lv_iload hx hb d_Pk_feed_48 (lv_at hl 4 rfl) ?_
    refine pc_v (wc := [(qt, .inr (1, [.ref r, .int (nI (n + 1 + 1 + 1 + 1 + 1 + 1 + 1 + 1 + 1 + 1 + 1 + 1))])), (r, .inl (g.2.1, 32768, .inl (bA (upB (upB (upB (upB (upB (upB (upB (upB (upB (upB (upB (upB t n (a / 2 ^ 24)) (n + 1) (a / 2 ^ 16)) (n + 1 + 1) (a / 2 ^ 8)) (n + 1 + 1 + 1) a) (n + 1 + 1 + 1 + 1) (b / 2 ^ 24)) (n + 1 + 1 + 1 + 1 + 1) (b / 2 ^ 16)) (n + 1 + 1 + 1 + 1 + 1 + 1) (b / 2 ^ 8)) (n + 1 + 1 + 1 + 1 + 1 + 1 + 1) b) (n + 1 + 1 + 1 + 1 + 1 + 1 + 1 + 1) (c2 / 2 ^ 24)) (n + 1 + 1 + 1 + 1 + 1 + 1 + 1 + 1 + 1) (c2 / 2 ^ 16)) (n + 1 + 1 + 1 + 1 + 1 + 1 + 1 + 1 + 1 + 1) (c2 / 2 ^ 8)) (n + 1 + 1 + 1 + 1 + 1 + 1 + 1 + 1 + 1 + 1 + 1) c2))))]) (wr := [(x, .inr (0, [.ref qt, .ref kp, .ref qo, .ref qs, .ref qc, .ref qn, .ref qi]))]) (cells' := 0) (slots' := 0) hP hD hS hA [1, 2] [0] rfl rfl (by decide) (by decide) rfl rfl (va_runVN (n := 1) (As := [.int (nI d)]) (rest := []) (C := R_Bytes) ⟨hx, hb, hml, hown, hE.hts⟩ (c_Bytes_addFour l g qt r (n + 1 + 1 + 1 + 1 + 1 + 1 + 1 + 1 + 1 + 1 + 1 + 1) (upB (upB (upB (upB (upB (upB (upB (upB (upB (upB (upB (upB t n (a / 2 ^ 24)) (n + 1) (a / 2 ^ 16)) (n + 1 + 1) (a / 2 ^ 8)) (n + 1 + 1 + 1) a) (n + 1 + 1 + 1 + 1) (b / 2 ^ 24)) (n + 1 + 1 + 1 + 1 + 1) (b / 2 ^ 16)) (n + 1 + 1 + 1 + 1 + 1 + 1) (b / 2 ^ 8)) (n + 1 + 1 + 1 + 1 + 1 + 1 + 1) b) (n + 1 + 1 + 1 + 1 + 1 + 1 + 1 + 1) (c2 / 2 ^ 24)) (n + 1 + 1 + 1 + 1 + 1 + 1 + 1 + 1 + 1) (c2 / 2 ^ 16)) (n + 1 + 1 + 1 + 1 + 1 + 1 + 1 + 1 + 1 + 1) (c2 / 2 ^ 8)) (n + 1 + 1 + 1 + 1 + 1 + 1 + 1 + 1 + 1 + 1 + 1) c2) d (by omega) (by omega) _) ⟨pc_cn hE m_184 m_2 m_181 (by decide +kernel) ⟨by exact Nat.le_of_ble_eq_true rfl, by exact Nat.le_of_ble_eq_true rfl⟩, hE.w m_183, hE.w ms_2⟩ (pc_preV (ci := 1) (q0 := 1) hP hD hE hS hA [1, 2] (by decide) rfl [.int (nI d)] rfl rfl) rfl rfl hl.1 rfl (lv_room (by exact Nat.le_of_ble_eq_true rfl)) d_Pk_feed_50 ⟨by exact Nat.le_of_ble_eq_true rfl, by exact Nat.le_of_ble_eq_true rfl⟩) (fun u_10 H locs hw hP hD hS => ?_)
    have hP : va_P g.1 pc_cl [(x, .inr (0, [.ref qt, .ref kp, .ref qo, .ref qs, .ref qc, .ref qn, .ref qi])), (qt, .inr (1, [.ref r, .int (nI (n + 1 + 1 + 1 + 1 + 1 + 1 + 1 + 1 + 1 + 1 + 1 + 1 + 1 + 1 + 1 + 1))])), (r, .inl (g.2.1, 32768, .inl (bA (upB (upB (upB (upB (upB (upB (upB (upB (upB (upB (upB (upB (upB (upB (upB (upB t n (a / 2 ^ 24)) (n + 1) (a / 2 ^ 16)) (n + 1 + 1) (a / 2 ^ 8)) (n + 1 + 1 + 1) a) (n + 1 + 1 + 1 + 1) (b / 2 ^ 24)) (n + 1 + 1 + 1 + 1 + 1) (b / 2 ^ 16)) (n + 1 + 1 + 1 + 1 + 1 + 1) (b / 2 ^ 8)) (n + 1 + 1 + 1 + 1 + 1 + 1 + 1) b) (n + 1 + 1 + 1 + 1 + 1 + 1 + 1 + 1) (c2 / 2 ^ 24)) (n + 1 + 1 + 1 + 1 + 1 + 1 + 1 + 1 + 1) (c2 / 2 ^ 16)) (n + 1 + 1 + 1 + 1 + 1 + 1 + 1 + 1 + 1 + 1) (c2 / 2 ^ 8)) (n + 1 + 1 + 1 + 1 + 1 + 1 + 1 + 1 + 1 + 1 + 1) c2) (n + 1 + 1 + 1 + 1 + 1 + 1 + 1 + 1 + 1 + 1 + 1 + 1) (d / 2 ^ 24)) (n + 1 + 1 + 1 + 1 + 1 + 1 + 1 + 1 + 1 + 1 + 1 + 1 + 1) (d / 2 ^ 16)) (n + 1 + 1 + 1 + 1 + 1 + 1 + 1 + 1 + 1 + 1 + 1 + 1 + 1 + 1) (d / 2 ^ 8)) (n + 1 + 1 + 1 + 1 + 1 + 1 + 1 + 1 + 1 + 1 + 1 + 1 + 1 + 1 + 1) d))))] H := hP
    have hD : va_D A [(x, .inr (0, [.ref qt, .ref kp, .ref qo, .ref qs, .ref qc, .ref qn, .ref qi])), (qt, .inr (1, [.ref r, .int (nI (n + 1 + 1 + 1 + 1 + 1 + 1 + 1 + 1 + 1 + 1 + 1 + 1 + 1 + 1 + 1 + 1))])), (r, .inl (g.2.1, 32768, .inl (bA (upB (upB (upB (upB (upB (upB (upB (upB (upB (upB (upB (upB (upB (upB (upB (upB t n (a / 2 ^ 24)) (n + 1) (a / 2 ^ 16)) (n + 1 + 1) (a / 2 ^ 8)) (n + 1 + 1 + 1) a) (n + 1 + 1 + 1 + 1) (b / 2 ^ 24)) (n + 1 + 1 + 1 + 1 + 1) (b / 2 ^ 16)) (n + 1 + 1 + 1 + 1 + 1 + 1) (b / 2 ^ 8)) (n + 1 + 1 + 1 + 1 + 1 + 1 + 1) b) (n + 1 + 1 + 1 + 1 + 1 + 1 + 1 + 1) (c2 / 2 ^ 24)) (n + 1 + 1 + 1 + 1 + 1 + 1 + 1 + 1 + 1) (c2 / 2 ^ 16)) (n + 1 + 1 + 1 + 1 + 1 + 1 + 1 + 1 + 1 + 1) (c2 / 2 ^ 8)) (n + 1 + 1 + 1 + 1 + 1 + 1 + 1 + 1 + 1 + 1 + 1) c2) (n + 1 + 1 + 1 + 1 + 1 + 1 + 1 + 1 + 1 + 1 + 1 + 1) (d / 2 ^ 24)) (n + 1 + 1 + 1 + 1 + 1 + 1 + 1 + 1 + 1 + 1 + 1 + 1 + 1) (d / 2 ^ 16)) (n + 1 + 1 + 1 + 1 + 1 + 1 + 1 + 1 + 1 + 1 + 1 + 1 + 1 + 1) (d / 2 ^ 8)) (n + 1 + 1 + 1 + 1 + 1 + 1 + 1 + 1 + 1 + 1 + 1 + 1 + 1 + 1 + 1) d))))] := hD
    refine lv_aload_n hx hb d_Pk_feed_53 rfl (lv_at hl 0 rfl) ?_
    refine va_get (ci := 0) (C := R_Pk) (T := F_Pk) (N := 7) hx hb hE.hts in_Pk hown hE.2.1 hP 0 rfl rfl 0 (by decide) (hE.w m_84) (fun _ h9 => h9) rfl d_Pk_feed_54 ?_
    refine lv_iload hx hb d_Pk_feed_57 (lv_at hl 5 rfl) ?_
    refine pc_v (wc := [(qt, .inr (1, [.ref r, .int (nI (n + 1 + 1 + 1 + 1 + 1 + 1 + 1 + 1 + 1 + 1 + 1 + 1 + 1 + 1 + 1 + 1))])), (r, .inl (g.2.1, 32768, .inl (bA (upB (upB (upB (upB (upB (upB (upB (upB (upB (upB (upB (upB (upB (upB (upB (upB t n (a / 2 ^ 24)) (n + 1) (a / 2 ^ 16)) (n + 1 + 1) (a / 2 ^ 8)) (n + 1 + 1 + 1) a) (n + 1 + 1 + 1 + 1) (b / 2 ^ 24)) (n + 1 + 1 + 1 + 1 + 1) (b / 2 ^ 16)) (n + 1 + 1 + 1 + 1 + 1 + 1) (b / 2 ^ 8)) (n + 1 + 1 + 1 + 1 + 1 + 1 + 1) b) (n + 1 + 1 + 1 + 1 + 1 + 1 + 1 + 1) (c2 / 2 ^ 24)) (n + 1 + 1 + 1 + 1 + 1 + 1 + 1 + 1 + 1) (c2 / 2 ^ 16)) (n + 1 + 1 + 1 + 1 + 1 + 1 + 1 + 1 + 1 + 1) (c2 / 2 ^ 8)) (n + 1 + 1 + 1 + 1 + 1 + 1 + 1 + 1 + 1 + 1 + 1) c2) (n + 1 + 1 + 1 + 1 + 1 + 1 + 1 + 1 + 1 + 1 + 1 + 1) (d / 2 ^ 24)) (n + 1 + 1 + 1 + 1 + 1 + 1 + 1 + 1 + 1 + 1 + 1 + 1 + 1) (d / 2 ^ 16)) (n + 1 + 1 + 1 + 1 + 1 + 1 + 1 + 1 + 1 + 1 + 1 + 1 + 1 + 1) (d / 2 ^ 8)) (n + 1 + 1 + 1 + 1 + 1 + 1 + 1 + 1 + 1 + 1 + 1 + 1 + 1 + 1 + 1) d))))]) (wr := [(x, .inr (0, [.ref qt, .ref kp, .ref qo, .ref qs, .ref qc, .ref qn, .ref qi]))]) (cells' := 0) (slots' := 0) hP hD hS hA [1, 2] [0] rfl rfl (by decide) (by decide) rfl rfl (va_runVN (n := 1) (As := [.int (nI e2)]) (rest := []) (C := R_Bytes) ⟨hx, hb, hml, hown, hE.hts⟩ (c_Bytes_addFour l g qt r (n + 1 + 1 + 1 + 1 + 1 + 1 + 1 + 1 + 1 + 1 + 1 + 1 + 1 + 1 + 1 + 1) (upB (upB (upB (upB (upB (upB (upB (upB (upB (upB (upB (upB (upB (upB (upB (upB t n (a / 2 ^ 24)) (n + 1) (a / 2 ^ 16)) (n + 1 + 1) (a / 2 ^ 8)) (n + 1 + 1 + 1) a) (n + 1 + 1 + 1 + 1) (b / 2 ^ 24)) (n + 1 + 1 + 1 + 1 + 1) (b / 2 ^ 16)) (n + 1 + 1 + 1 + 1 + 1 + 1) (b / 2 ^ 8)) (n + 1 + 1 + 1 + 1 + 1 + 1 + 1) b) (n + 1 + 1 + 1 + 1 + 1 + 1 + 1 + 1) (c2 / 2 ^ 24)) (n + 1 + 1 + 1 + 1 + 1 + 1 + 1 + 1 + 1) (c2 / 2 ^ 16)) (n + 1 + 1 + 1 + 1 + 1 + 1 + 1 + 1 + 1 + 1) (c2 / 2 ^ 8)) (n + 1 + 1 + 1 + 1 + 1 + 1 + 1 + 1 + 1 + 1 + 1) c2) (n + 1 + 1 + 1 + 1 + 1 + 1 + 1 + 1 + 1 + 1 + 1 + 1) (d / 2 ^ 24)) (n + 1 + 1 + 1 + 1 + 1 + 1 + 1 + 1 + 1 + 1 + 1 + 1 + 1) (d / 2 ^ 16)) (n + 1 + 1 + 1 + 1 + 1 + 1 + 1 + 1 + 1 + 1 + 1 + 1 + 1 + 1) (d / 2 ^ 8)) (n + 1 + 1 + 1 + 1 + 1 + 1 + 1 + 1 + 1 + 1 + 1 + 1 + 1 + 1 + 1) d) e2 (by omega) (by omega) _) ⟨pc_cn hE m_184 m_2 m_181 (by decide +kernel) ⟨by exact Nat.le_of_ble_eq_true rfl, by exact Nat.le_of_ble_eq_true rfl⟩, hE.w m_183, hE.w ms_2⟩ (pc_preV (ci := 1) (q0 := 1) hP hD hE hS hA [1, 2] (by decide) rfl [.int (nI e2)] rfl rfl) rfl rfl hl.1 rfl (lv_room (by exact Nat.le_of_ble_eq_true rfl)) d_Pk_feed_59 ⟨by exact Nat.le_of_ble_eq_true rfl, by exact Nat.le_of_ble_eq_true rfl⟩) (fun u_12 H locs hw hP hD hS => ?_)
    have hP : va_P g.1 pc_cl [(x, .inr (0, [.ref qt, .ref kp, .ref qo, .ref qs, .ref qc, .ref qn, .ref qi])), (qt, .inr (1, [.ref r, .int (nI (n + 1 + 1 + 1 + 1 + 1 + 1 + 1 + 1 + 1 + 1 + 1 + 1 + 1 + 1 + 1 + 1 + 1 + 1 + 1 + 1))])), (r, .inl (g.2.1, 32768, .inl (bA (upB (upB (upB (upB (upB (upB (upB (upB (upB (upB (upB (upB (upB (upB (upB (upB (upB (upB (upB (upB t n (a / 2 ^ 24)) (n + 1) (a / 2 ^ 16)) (n + 1 + 1) (a / 2 ^ 8)) (n + 1 + 1 + 1) a) (n + 1 + 1 + 1 + 1) (b / 2 ^ 24)) (n + 1 + 1 + 1 + 1 + 1) (b / 2 ^ 16)) (n + 1 + 1 + 1 + 1 + 1 + 1) (b / 2 ^ 8)) (n + 1 + 1 + 1 + 1 + 1 + 1 + 1) b) (n + 1 + 1 + 1 + 1 + 1 + 1 + 1 + 1) (c2 / 2 ^ 24)) (n + 1 + 1 + 1 + 1 + 1 + 1 + 1 + 1 + 1) (c2 / 2 ^ 16)) (n + 1 + 1 + 1 + 1 + 1 + 1 + 1 + 1 + 1 + 1) (c2 / 2 ^ 8)) (n + 1 + 1 + 1 + 1 + 1 + 1 + 1 + 1 + 1 + 1 + 1) c2) (n + 1 + 1 + 1 + 1 + 1 + 1 + 1 + 1 + 1 + 1 + 1 + 1) (d / 2 ^ 24)) (n + 1 + 1 + 1 + 1 + 1 + 1 + 1 + 1 + 1 + 1 + 1 + 1 + 1) (d / 2 ^ 16)) (n + 1 + 1 + 1 + 1 + 1 + 1 + 1 + 1 + 1 + 1 + 1 + 1 + 1 + 1) (d / 2 ^ 8)) (n + 1 + 1 + 1 + 1 + 1 + 1 + 1 + 1 + 1 + 1 + 1 + 1 + 1 + 1 + 1) d) (n + 1 + 1 + 1 + 1 + 1 + 1 + 1 + 1 + 1 + 1 + 1 + 1 + 1 + 1 + 1 + 1) (e2 / 2 ^ 24)) (n + 1 + 1 + 1 + 1 + 1 + 1 + 1 + 1 + 1 + 1 + 1 + 1 + 1 + 1 + 1 + 1 + 1) (e2 / 2 ^ 16)) (n + 1 + 1 + 1 + 1 + 1 + 1 + 1 + 1 + 1 + 1 + 1 + 1 + 1 + 1 + 1 + 1 + 1 + 1) (e2 / 2 ^ 8)) (n + 1 + 1 + 1 + 1 + 1 + 1 + 1 + 1 + 1 + 1 + 1 + 1 + 1 + 1 + 1 + 1 + 1 + 1 + 1) e2))))] H := hP
    have hD : va_D A [(x, .inr (0, [.ref qt, .ref kp, .ref qo, .ref qs, .ref qc, .ref qn, .ref qi])), (qt, .inr (1, [.ref r, .int (nI (n + 1 + 1 + 1 + 1 + 1 + 1 + 1 + 1 + 1 + 1 + 1 + 1 + 1 + 1 + 1 + 1 + 1 + 1 + 1 + 1))])), (r, .inl (g.2.1, 32768, .inl (bA (upB (upB (upB (upB (upB (upB (upB (upB (upB (upB (upB (upB (upB (upB (upB (upB (upB (upB (upB (upB t n (a / 2 ^ 24)) (n + 1) (a / 2 ^ 16)) (n + 1 + 1) (a / 2 ^ 8)) (n + 1 + 1 + 1) a) (n + 1 + 1 + 1 + 1) (b / 2 ^ 24)) (n + 1 + 1 + 1 + 1 + 1) (b / 2 ^ 16)) (n + 1 + 1 + 1 + 1 + 1 + 1) (b / 2 ^ 8)) (n + 1 + 1 + 1 + 1 + 1 + 1 + 1) b) (n + 1 + 1 + 1 + 1 + 1 + 1 + 1 + 1) (c2 / 2 ^ 24)) (n + 1 + 1 + 1 + 1 + 1 + 1 + 1 + 1 + 1) (c2 / 2 ^ 16)) (n + 1 + 1 + 1 + 1 + 1 + 1 + 1 + 1 + 1 + 1) (c2 / 2 ^ 8)) (n + 1 + 1 + 1 + 1 + 1 + 1 + 1 + 1 + 1 + 1 + 1) c2) (n + 1 + 1 + 1 + 1 + 1 + 1 + 1 + 1 + 1 + 1 + 1 + 1) (d / 2 ^ 24)) (n + 1 + 1 + 1 + 1 + 1 + 1 + 1 + 1 + 1 + 1 + 1 + 1 + 1) (d / 2 ^ 16)) (n + 1 + 1 + 1 + 1 + 1 + 1 + 1 + 1 + 1 + 1 + 1 + 1 + 1 + 1) (d / 2 ^ 8)) (n + 1 + 1 + 1 + 1 + 1 + 1 + 1 + 1 + 1 + 1 + 1 + 1 + 1 + 1 + 1) d) (n + 1 + 1 + 1 + 1 + 1 + 1 + 1 + 1 + 1 + 1 + 1 + 1 + 1 + 1 + 1 + 1) (e2 / 2 ^ 24)) (n + 1 + 1 + 1 + 1 + 1 + 1 + 1 + 1 + 1 + 1 + 1 + 1 + 1 + 1 + 1 + 1 + 1) (e2 / 2 ^ 16)) (n + 1 + 1 + 1 + 1 + 1 + 1 + 1 + 1 + 1 + 1 + 1 + 1 + 1 + 1 + 1 + 1 + 1 + 1) (e2 / 2 ^ 8)) (n + 1 + 1 + 1 + 1 + 1 + 1 + 1 + 1 + 1 + 1 + 1 + 1 + 1 + 1 + 1 + 1 + 1 + 1 + 1) e2))))] := hD
    have hP : va_P g.1 pc_cl [(x, .inr (0, [.ref qt, .ref kp, .ref qo, .ref qs, .ref qc, .ref qn, .ref qi])), (qt, .inr (1, [.ref r, .int (nI (n + 20))])), (r, .inl (g.2.1, 32768, .inl (bA (upB (upB (upB (upB (upB (upB (upB (upB (upB (upB (upB (upB (upB (upB (upB (upB (upB (upB (upB (upB t n (a / 2 ^ 24)) (n + 1) (a / 2 ^ 16)) (n + 1 + 1) (a / 2 ^ 8)) (n + 1 + 1 + 1) a) (n + 1 + 1 + 1 + 1) (b / 2 ^ 24)) (n + 1 + 1 + 1 + 1 + 1) (b / 2 ^ 16)) (n + 1 + 1 + 1 + 1 + 1 + 1) (b / 2 ^ 8)) (n + 1 + 1 + 1 + 1 + 1 + 1 + 1) b) (n + 1 + 1 + 1 + 1 + 1 + 1 + 1 + 1) (c2 / 2 ^ 24)) (n + 1 + 1 + 1 + 1 + 1 + 1 + 1 + 1 + 1) (c2 / 2 ^ 16)) (n + 1 + 1 + 1 + 1 + 1 + 1 + 1 + 1 + 1 + 1) (c2 / 2 ^ 8)) (n + 1 + 1 + 1 + 1 + 1 + 1 + 1 + 1 + 1 + 1 + 1) c2) (n + 1 + 1 + 1 + 1 + 1 + 1 + 1 + 1 + 1 + 1 + 1 + 1) (d / 2 ^ 24)) (n + 1 + 1 + 1 + 1 + 1 + 1 + 1 + 1 + 1 + 1 + 1 + 1 + 1) (d / 2 ^ 16)) (n + 1 + 1 + 1 + 1 + 1 + 1 + 1 + 1 + 1 + 1 + 1 + 1 + 1 + 1) (d / 2 ^ 8)) (n + 1 + 1 + 1 + 1 + 1 + 1 + 1 + 1 + 1 + 1 + 1 + 1 + 1 + 1 + 1) d) (n + 1 + 1 + 1 + 1 + 1 + 1 + 1 + 1 + 1 + 1 + 1 + 1 + 1 + 1 + 1 + 1) (e2 / 2 ^ 24)) (n + 1 + 1 + 1 + 1 + 1 + 1 + 1 + 1 + 1 + 1 + 1 + 1 + 1 + 1 + 1 + 1 + 1) (e2 / 2 ^ 16)) (n + 1 + 1 + 1 + 1 + 1 + 1 + 1 + 1 + 1 + 1 + 1 + 1 + 1 + 1 + 1 + 1 + 1 + 1) (e2 / 2 ^ 8)) (n + 1 + 1 + 1 + 1 + 1 + 1 + 1 + 1 + 1 + 1 + 1 + 1 + 1 + 1 + 1 + 1 + 1 + 1 + 1) e2))))] H := hP
    have hD : va_D A [(x, .inr (0, [.ref qt, .ref kp, .ref qo, .ref qs, .ref qc, .ref qn, .ref qi])), (qt, .inr (1, [.ref r, .int (nI (n + 20))])), (r, .inl (g.2.1, 32768, .inl (bA (upB (upB (upB (upB (upB (upB (upB (upB (upB (upB (upB (upB (upB (upB (upB (upB (upB (upB (upB (upB t n (a / 2 ^ 24)) (n + 1) (a / 2 ^ 16)) (n + 1 + 1) (a / 2 ^ 8)) (n + 1 + 1 + 1) a) (n + 1 + 1 + 1 + 1) (b / 2 ^ 24)) (n + 1 + 1 + 1 + 1 + 1) (b / 2 ^ 16)) (n + 1 + 1 + 1 + 1 + 1 + 1) (b / 2 ^ 8)) (n + 1 + 1 + 1 + 1 + 1 + 1 + 1) b) (n + 1 + 1 + 1 + 1 + 1 + 1 + 1 + 1) (c2 / 2 ^ 24)) (n + 1 + 1 + 1 + 1 + 1 + 1 + 1 + 1 + 1) (c2 / 2 ^ 16)) (n + 1 + 1 + 1 + 1 + 1 + 1 + 1 + 1 + 1 + 1) (c2 / 2 ^ 8)) (n + 1 + 1 + 1 + 1 + 1 + 1 + 1 + 1 + 1 + 1 + 1) c2) (n + 1 + 1 + 1 + 1 + 1 + 1 + 1 + 1 + 1 + 1 + 1 + 1) (d / 2 ^ 24)) (n + 1 + 1 + 1 + 1 + 1 + 1 + 1 + 1 + 1 + 1 + 1 + 1 + 1) (d / 2 ^ 16)) (n + 1 + 1 + 1 + 1 + 1 + 1 + 1 + 1 + 1 + 1 + 1 + 1 + 1 + 1) (d / 2 ^ 8)) (n + 1 + 1 + 1 + 1 + 1 + 1 + 1 + 1 + 1 + 1 + 1 + 1 + 1 + 1 + 1) d) (n + 1 + 1 + 1 + 1 + 1 + 1 + 1 + 1 + 1 + 1 + 1 + 1 + 1 + 1 + 1 + 1) (e2 / 2 ^ 24)) (n + 1 + 1 + 1 + 1 + 1 + 1 + 1 + 1 + 1 + 1 + 1 + 1 + 1 + 1 + 1 + 1 + 1) (e2 / 2 ^ 16)) (n + 1 + 1 + 1 + 1 + 1 + 1 + 1 + 1 + 1 + 1 + 1 + 1 + 1 + 1 + 1 + 1 + 1 + 1) (e2 / 2 ^ 8)) (n + 1 + 1 + 1 + 1 + 1 + 1 + 1 + 1 + 1 + 1 + 1 + 1 + 1 + 1 + 1 + 1 + 1 + 1 + 1) e2))))] := hD
    refine W.widen (k := rm_Pk_feed.cells) (n := rm_Pk_feed.slots) (by exact Nat.le_of_ble_eq_true rfl) (by exact Nat.le_of_ble_eq_true rfl) ?_
    exact hR _ _ 62 _ (n + 20, upB (upB (upB (upB (upB (upB (upB (upB (upB (upB (upB (upB (upB (upB (upB (upB (upB (upB (upB (upB t n (a / 2 ^ 24)) (n + 1) (a / 2 ^ 16)) (n + 1 + 1) (a / 2 ^ 8)) (n + 1 + 1 + 1) a) (n + 1 + 1 + 1 + 1) (b / 2 ^ 24)) (n + 1 + 1 + 1 + 1 + 1) (b / 2 ^ 16)) (n + 1 + 1 + 1 + 1 + 1 + 1) (b / 2 ^ 8)) (n + 1 + 1 + 1 + 1 + 1 + 1 + 1) b) (n + 1 + 1 + 1 + 1 + 1 + 1 + 1 + 1) (c2 / 2 ^ 24)) (n + 1 + 1 + 1 + 1 + 1 + 1 + 1 + 1 + 1) (c2 / 2 ^ 16)) (n + 1 + 1 + 1 + 1 + 1 + 1 + 1 + 1 + 1 + 1) (c2 / 2 ^ 8)) (n + 1 + 1 + 1 + 1 + 1 + 1 + 1 + 1 + 1 + 1 + 1) c2) (n + 1 + 1 + 1 + 1 + 1 + 1 + 1 + 1 + 1 + 1 + 1 + 1) (d / 2 ^ 24)) (n + 1 + 1 + 1 + 1 + 1 + 1 + 1 + 1 + 1 + 1 + 1 + 1 + 1) (d / 2 ^ 16)) (n + 1 + 1 + 1 + 1 + 1 + 1 + 1 + 1 + 1 + 1 + 1 + 1 + 1 + 1) (d / 2 ^ 8)) (n + 1 + 1 + 1 + 1 + 1 + 1 + 1 + 1 + 1 + 1 + 1 + 1 + 1 + 1 + 1) d) (n + 1 + 1 + 1 + 1 + 1 + 1 + 1 + 1 + 1 + 1 + 1 + 1 + 1 + 1 + 1 + 1) (e2 / 2 ^ 24)) (n + 1 + 1 + 1 + 1 + 1 + 1 + 1 + 1 + 1 + 1 + 1 + 1 + 1 + 1 + 1 + 1 + 1) (e2 / 2 ^ 16)) (n + 1 + 1 + 1 + 1 + 1 + 1 + 1 + 1 + 1 + 1 + 1 + 1 + 1 + 1 + 1 + 1 + 1 + 1) (e2 / 2 ^ 8)) (n + 1 + 1 + 1 + 1 + 1 + 1 + 1 + 1 + 1 + 1 + 1 + 1 + 1 + 1 + 1 + 1 + 1 + 1 + 1) e2) d_Pk_feed_62 (Or.inl (⟨rfl, by omega, rfl, bl_feed t (bl_four _ _ _) (bl_four _ _ _) (bl_four _ _ _) (bl_four _ _ _) (bl_four _ _ _)⟩)) (hP.sub [0, 1, 2] rfl) (hD.sub [0, 1, 2] (by decide) rfl) hS
  · skip
    exact hT "java/lang/IllegalStateException" 46 48 _ _ 0 0 12 _ (n, t) (by decide) m_118 m_9 ta_0 (hl.1.trans hml.symm) d_Pk_feed_12 d_Pk_feed_15 d_Pk_feed_16 d_Pk_feed_19 (by decide) ⟨by exact Nat.le_of_ble_eq_true rfl, by exact Nat.le_of_ble_eq_true rfl, by exact Nat.le_of_ble_eq_true rfl, by exact Nat.le_of_ble_eq_true rfl⟩ (Or.inr (⟨rfl, by omega, rfl, rfl⟩)) (hP.sub [0, 1, 2] rfl) (hD.sub [0, 1, 2] (by decide) rfl) hS
abbrev rm_Pk_end : Room := { frames := 6, cells := 1, slots := 6, locals := 81 }
set_option maxHeartbeats 1000000 in
set_option maxRecDepth 100000 in
/-- end -/
theorem c_Pk_end (l : Launch) (htr : l.stackTraces = false) (g : pc_G) (x : Nat) (qt : Nat) (kp : Nat) (qo : Nat) (qs : Nat) (qc : Nat) (qn : Nat) (qi : Nat) (r : Nat) (n : Nat) (t : Nat → UInt8) (k : Int32) (hn : n ≤ 32768) : pc_X (S := Nat) l y_Pk_end (.code y_Pk_end prog_1_method_3_code 3 (some .int)) (some .int) rm_Pk_end g [(x, .inr (0, [.ref qt, .ref kp, .ref qo, .ref qs, .ref qc, .ref qn, .ref qi])), (qt, .inr (1, [.ref r, .int (nI n)])), (r, .inl (g.2.1, 32768, .inl (bA t)))] [.ref x, .int k] (fun rv u => (rv = .inl (nI (n - iN k)) ∧ ¬ k < 0 ∧ iN k ≤ n ∧ u = iN k) ∨ (rv = .inr "java/lang/IllegalArgumentException" ∧ (k < 0 ∨ n < iN k) ∧ u = n)) (fun u => [(x, .inr (0, [.ref qt, .ref kp, .ref qo, .ref qs, .ref qc, .ref qn, .ref qi])), (qt, .inr (1, [.ref r, .int (nI u)])), (r, .inl (g.2.1, 32768, .inl (bA t)))]) := by
  refine pc_X.of (cc := prog_1_method_3_code) (nL := 3) (rt := (some .int)) (hh := []) (by decide) tx_wd.plain (by exact Nat.le_of_ble_eq_true rfl) htr ?_
  intro p e s m below meth c A Q hx hb hml hown hE hA htab hR hT hO hP hD ls hl
  have hS : va_S A s.heap s.heap [] := va_S.rf
  have hl : lv_has ls 3 [(0, .ref x), (1, .int k)] := hl
  refine lv_iload_n hx hb d_Pk_end_0 rfl (lv_at hl 1 rfl) ?_
  refine lv_if_lt (tgt := 15) hx hb d_Pk_end_1 (by decide) (fun h_1 => ?_) (fun h_1 => ?_)
  · skip
    exact hT "java/lang/IllegalArgumentException" 57 59 _ _ 0 0 15 _ n (by decide) m_197 m_10 ta_1 (hl.1.trans hml.symm) d_Pk_end_15 d_Pk_end_18 d_Pk_end_19 d_Pk_end_22 (by decide) ⟨by exact Nat.le_of_ble_eq_true rfl, by exact Nat.le_of_ble_eq_true rfl, by exact Nat.le_of_ble_eq_true rfl, by exact Nat.le_of_ble_eq_true rfl⟩ (Or.inr (⟨rfl, by first | exact Or.inl (by assumption) | exact Or.inr (by omega), rfl⟩)) (hP.sub [0, 1, 2] rfl) (hD.sub [0, 1, 2] (by decide) rfl) hS
  · skip
    have hk31 := iN_lt h_1
    have hl : lv_has ls 3 [(0, .ref x), (1, .int (nI (iN k)))] := by rw [← show k = nI (iN k) from (nI_iN k).symm]; exact hl
    refine lv_iload_n hx hb d_Pk_end_4 rfl (lv_at hl 1 rfl) ?_
    refine lv_aload_n hx hb d_Pk_end_5 rfl (lv_at hl 0 rfl) ?_
    refine va_get (ci := 0) (C := R_Pk) (T := F_Pk) (N := 7) hx hb hE.hts in_Pk hown hE.2.1 hP 0 rfl rfl 0 (by decide) (hE.w m_84) (fun _ h9 => h9) rfl d_Pk_end_6 ?_
    refine va_getN (ci := 1) (C := R_Bytes) (T := F_Bytes) (N := 2) hx hb hE.hts in_Bytes hown hE.2.1 hP 1 rfl rfl 1 (by decide) (hE.w m_40) (fun _ h9 => h9) rfl d_Pk_end_9 ?_
    refine pc_jle (tgt := 23) hx hb d_Pk_end_12 (by decide) (by omega) (by omega) (fun h_2 => ?_) (fun h_2 => ?_)
    · skip
      refine lv_aload_n hx hb d_Pk_end_23 rfl (lv_at hl 0 rfl) ?_
      refine va_get (ci := 0) (C := R_Pk) (T := F_Pk) (N := 7) hx hb hE.hts in_Pk hown hE.2.1 hP 0 rfl rfl 0 (by decide) (hE.w m_84) (fun _ h9 => h9) rfl d_Pk_end_24 ?_
      refine va_getN (ci := 1) (C := R_Bytes) (T := F_Bytes) (N := 2) hx hb hE.hts in_Bytes hown hE.2.1 hP 1 rfl rfl 1 (by decide) (hE.w m_40) (fun _ h9 => h9) rfl d_Pk_end_27 ?_
      refine lv_iload_n hx hb d_Pk_end_30 rfl (lv_at hl 1 rfl) ?_
      refine lv_isub hx hb d_Pk_end_31 ?_
      refine pc_ti (y := nI (n - (iN k))) (pk_sub (by omega)) ?_
      refine lv_istore_n (lv' := [(2, .int (nI (n - (iN k)))), (0, .ref x), (1, .int (nI (iN k)))]) hx hb d_Pk_end_32 rfl hl (by decide) rfl (fun ls hl => ?_)
      refine lv_aload_n hx hb d_Pk_end_33 rfl (lv_at hl 1 rfl) ?_
      refine va_get (ci := 0) (C := R_Pk) (T := F_Pk) (N := 7) hx hb hE.hts in_Pk hown hE.2.1 hP 0 rfl rfl 0 (by decide) (hE.w m_84) (fun _ h9 => h9) rfl d_Pk_end_34 ?_
      refine lv_iload_n hx hb d_Pk_end_37 rfl (lv_at hl 2 rfl) ?_
      refine va_putN (ci := 1) (ty := .int) (C := R_Bytes) (T := F_Bytes) (N := 2) hx hb hE.hts in_Bytes t_Bytes tk_Bytes nn_Bytes hown hE.2.1 hP hD hS 1 rfl rfl 1 (by decide) (hE.w m_40) (fun _ h9 => h9) rfl (by decide +kernel) (by rfl) (by rfl) (by exact Nat.le_of_ble_eq_true rfl) d_Pk_end_38 (fun H locs hP hD hS => ?_)
      have hP : va_P g.1 pc_cl [(x, .inr (0, [.ref qt, .ref kp, .ref qo, .ref qs, .ref qc, .ref qn, .ref qi])), (qt, .inr (1, [.ref r, .int (nI (iN k))])), (r, .inl (g.2.1, 32768, .inl (bA t)))] H := hP
      have hD : va_D A [(x, .inr (0, [.ref qt, .ref kp, .ref qo, .ref qs, .ref qc, .ref qn, .ref qi])), (qt, .inr (1, [.ref r, .int (nI (iN k))])), (r, .inl (g.2.1, 32768, .inl (bA t)))] := hD
      refine lv_iload_n hx hb d_Pk_end_41 rfl (lv_at hl 0 rfl) ?_
      refine W.widen (k := rm_Pk_end.cells) (n := rm_Pk_end.slots) (by exact Nat.le_of_ble_eq_true rfl) (by exact Nat.le_of_ble_eq_true rfl) ?_
      exact hR _ _ 42 _ (nI (n - (iN k))) (iN k) d_Pk_end_42 rfl (Or.inl (⟨rfl, iN_pos hk31, by omega, rfl⟩)) (hP.sub [0, 1, 2] rfl) (hD.sub [0, 1, 2] (by decide) rfl) hS
    · skip
      exact hT "java/lang/IllegalArgumentException" 57 59 _ _ 0 0 15 _ n (by decide) m_197 m_10 ta_1 (hl.1.trans hml.symm) d_Pk_end_15 d_Pk_end_18 d_Pk_end_19 d_Pk_end_22 (by decide) ⟨by exact Nat.le_of_ble_eq_true rfl, by exact Nat.le_of_ble_eq_true rfl, by exact Nat.le_of_ble_eq_true rfl, by exact Nat.le_of_ble_eq_true rfl⟩ (Or.inr (⟨rfl, by first | exact Or.inl (by assumption) | exact Or.inr (by omega), rfl⟩)) (hP.sub [0, 1, 2] rfl) (hD.sub [0, 1, 2] (by decide) rfl) hS
abbrev rm_Pk_takeSpareAsOut : Room := { frames := 0, cells := 0, slots := 0, locals := 0 }
set_option maxHeartbeats 1000000 in
set_option maxRecDepth 100000 in
/-- what was spare is out -/
theorem c_Pk_takeSpareAsOut (l : Launch) (g : pc_G) (x : Nat) (qt : Nat) (kp : Nat) (qo : Nat) (qs : Nat) (qc : Nat) (qn : Nat) (qi : Nat) (rs : Nat) (ns : Nat) (ts : Nat → UInt8) : pc_Ci (S := Unit) l y_Pk_takeSpareAsOut prog_1_method_17_code 2 .int rm_Pk_takeSpareAsOut g [(x, .inr (0, [.ref qt, .ref kp, .ref qo, .ref qs, .ref qc, .ref qn, .ref qi])), (qs, .inr (1, [.ref rs, .int (nI ns)])), (rs, .inl (g.2.1, 32768, .inl (bA ts)))] [.ref x] (fun rv _ => rv = nI ns) (fun _ => [(x, .inr (0, [.ref qt, .ref kp, .ref qs, .ref qo, .ref qc, .ref qn, .ref qi])), (qs, .inr (1, [.ref rs, .int (nI ns)])), (rs, .inl (g.2.1, 32768, .inl (bA ts)))]) := by
  refine pc_Ci.of (by decide) (by exact Nat.le_of_ble_eq_true rfl) ?_
  intro p e s m below meth c A Q hx hb hml hown hE hA hQ hP hD ls hl
  have hS : va_S A s.heap s.heap [] := va_S.rf
  have hl : lv_has ls 2 [(0, .ref x)] := hl
  refine lv_aload_n hx hb d_Pk_takeSpareAsOut_0 rfl (lv_at hl 0 rfl) ?_
  refine va_get (ci := 0) (C := R_Pk) (T := F_Pk) (N := 7) hx hb hE.hts in_Pk hown hE.2.1 hP 0 rfl rfl 2 (by decide) (hE.w m_86) (fun _ h9 => h9) rfl d_Pk_takeSpareAsOut_1 ?_
  refine lv_astore_n (lv' := [(1, .ref qo), (0, .ref x)]) hx hb d_Pk_takeSpareAsOut_4 rfl hl (by decide) rfl (fun ls hl => ?_)
  refine lv_aload_n hx hb d_Pk_takeSpareAsOut_5 rfl (lv_at hl 1 rfl) ?_
  refine lv_aload_n hx hb d_Pk_takeSpareAsOut_6 rfl (lv_at hl 1 rfl) ?_
  refine va_get (ci := 0) (C := R_Pk) (T := F_Pk) (N := 7) hx hb hE.hts in_Pk hown hE.2.1 hP 0 rfl rfl 3 (by decide) (hE.w m_87) (fun _ h9 => h9) rfl d_Pk_takeSpareAsOut_7 ?_
  refine va_put (ci := 0) (ty := .object "PackColumns$Bytes") (C := R_Pk) (T := F_Pk) (N := 7) hx hb hE.hts in_Pk t_Pk tk_Pk nn_Pk hown hE.2.1 hP hD hS 0 rfl rfl 2 (by decide) (hE.w m_86) (fun _ h9 => h9) rfl (by decide +kernel) (by rfl) (by rfl) (by exact Nat.le_of_ble_eq_true rfl) d_Pk_takeSpareAsOut_10 (fun H locs hP hD hS => ?_)
  have hP : va_P g.1 pc_cl [(x, .inr (0, [.ref qt, .ref kp, .ref qs, .ref qs, .ref qc, .ref qn, .ref qi])), (qs, .inr (1, [.ref rs, .int (nI ns)])), (rs, .inl (g.2.1, 32768, .inl (bA ts)))] H := hP
  have hD : va_D A [(x, .inr (0, [.ref qt, .ref kp, .ref qs, .ref qs, .ref qc, .ref qn, .ref qi])), (qs, .inr (1, [.ref rs, .int (nI ns)])), (rs, .inl (g.2.1, 32768, .inl (bA ts)))] := hD
  refine lv_aload_n hx hb d_Pk_takeSpareAsOut_13 rfl (lv_at hl 1 rfl) ?_
  refine lv_aload_n hx hb d_Pk_takeSpareAsOut_14 rfl (lv_at hl 0 rfl) ?_
  refine va_put (ci := 0) (ty := .object "PackColumns$Bytes") (C := R_Pk) (T := F_Pk) (N := 7) hx hb hE.hts in_Pk t_Pk tk_Pk nn_Pk hown hE.2.1 hP hD hS 0 rfl rfl 3 (by decide) (hE.w m_87) (fun _ h9 => h9) rfl (by decide +kernel) (by rfl) (by rfl) (by exact Nat.le_of_ble_eq_true rfl) d_Pk_takeSpareAsOut_15 (fun H locs hP hD hS => ?_)
  have hP : va_P g.1 pc_cl [(x, .inr (0, [.ref qt, .ref kp, .ref qs, .ref qo, .ref qc, .ref qn, .ref qi])), (qs, .inr (1, [.ref rs, .int (nI ns)])), (rs, .inl (g.2.1, 32768, .inl (bA ts)))] H := hP
  have hD : va_D A [(x, .inr (0, [.ref qt, .ref kp, .ref qs, .ref qo, .ref qc, .ref qn, .ref qi])), (qs, .inr (1, [.ref rs, .int (nI ns)])), (rs, .inl (g.2.1, 32768, .inl (bA ts)))] := hD
  refine lv_aload_n hx hb d_Pk_takeSpareAsOut_18 rfl (lv_at hl 1 rfl) ?_
  refine va_get (ci := 0) (C := R_Pk) (T := F_Pk) (N := 7) hx hb hE.hts in_Pk hown hE.2.1 hP 0 rfl rfl 2 (by decide) (hE.w m_86) (fun _ h9 => h9) rfl d_Pk_takeSpareAsOut_19 ?_
  refine va_getN (ci := 1) (C := R_Bytes) (T := F_Bytes) (N := 2) hx hb hE.hts in_Bytes hown hE.2.1 hP 1 rfl rfl 1 (by decide) (hE.w m_40) (fun _ h9 => h9) rfl d_Pk_takeSpareAsOut_22 ?_
  exact hQ _ _ 25 _ (nI ns) () d_Pk_takeSpareAsOut_25 rfl rfl (hP.sub [0, 1, 2] rfl) (hD.sub [0, 1, 2] (by decide) rfl) hS
abbrev rm_Pk_pack : Room := { frames := 6, cells := 1, slots := 6, locals := 112 }
set_option maxHeartbeats 1000000 in
set_option maxRecDepth 100000 in
/-- pack -/
theorem c_Pk_pack (l : Launch) (htr : l.stackTraces = false) (g : pc_G) (x : Nat) (qt : Nat) (kp : Nat) (qo : Nat) (qs : Nat) (qc : Nat) (qn : Nat) (qi : Nat) (ra : Nat) (rb : Nat) (bc : Int32) (bd : Int32) (fa : Nat → Int32) (fb : Nat → Int32) (r : Nat) (n : Nat) (t : Nat → UInt8) (rs : Nat) (ns : Int32) (ts : Nat → UInt8) (hn : n ≤ 32768) : pc_X (S := Int32 × Int32 × (Nat → Int32) × (Nat → Int32) × Nat × Nat × (Nat → UInt8) × Nat × Nat) l y_Pk_pack (.code y_Pk_pack prog_1_method_4_code 1 (some .int)) (some .int) rm_Pk_pack g [(x, .inr (0, [.ref qt, .ref kp, .ref qo, .ref qs, .ref qc, .ref qn, .ref qi])), (kp, .inr (3, [.ref ra, .ref rb, .int bc, .int bd])), (ra, .inl (g.2.2.1, 4096, .inl fa)), (rb, .inl (g.2.2.1, 4096, .inl fb)), (qt, .inr (1, [.ref r, .int (nI n)])), (r, .inl (g.2.1, 32768, .inl (bA t))), (qs, .inr (1, [.ref rs, .int ns])), (rs, .inl (g.2.1, 32768, .inl (bA ts)))] [.ref x] (fun rv u => (rv = .inl (nI u.2.2.2.2.2.1) ∧ bl u.2.2.2.2.2.2.1 u.2.2.2.2.2.1 = packL (bl t n) ∧ u.2.2.2.2.2.1 ≤ 32768 ∧ u.2.2.2.2.1 = 0 ∧ u.2.2.2.2.2.2.2.1 = qs ∧ u.2.2.2.2.2.2.2.2 = qo) ∨ (rv = .inr "java/lang/IllegalStateException" ∧ 32768 < (packL (bl t n)).length ∧ u.2.2.2.2.1 = n ∧ u.2.2.2.2.2.2.2.1 = qo ∧ u.2.2.2.2.2.2.2.2 = qs)) (fun u => [(x, .inr (0, [.ref qt, .ref kp, .ref u.2.2.2.2.2.2.2.1, .ref u.2.2.2.2.2.2.2.2, .ref qc, .ref qn, .ref qi])), (kp, .inr (3, [.ref ra, .ref rb, .int u.1, .int u.2.1])), (ra, .inl (g.2.2.1, 4096, .inl u.2.2.1)), (rb, .inl (g.2.2.1, 4096, .inl u.2.2.2.1)), (qt, .inr (1, [.ref r, .int (nI u.2.2.2.2.1)])), (r, .inl (g.2.1, 32768, .inl (bA t))), (qs, .inr (1, [.ref rs, .int (nI u.2.2.2.2.2.1)])), (rs, .inl (g.2.1, 32768, .inl (bA u.2.2.2.2.2.2.1)))]) := by
  refine pc_X.of (cc := prog_1_method_4_code) (nL := 1) (rt := (some .int)) (hh := []) (by decide) tx_wd.plain (by exact Nat.le_of_ble_eq_true rfl) htr ?_
  intro p e s m below meth c A Q hx hb hml hown hE hA htab hR hT hO hP hD ls hl
  have hS : va_S A s.heap s.heap [] := va_S.rf
  have hl : lv_has ls 1 [(0, .ref x)] := hl
  refine lv_aload_n hx hb d_Pk_pack_0 rfl (lv_at hl 0 rfl) ?_
  refine va_get (ci := 0) (C := R_Pk) (T := F_Pk) (N := 7) hx hb hE.hts in_Pk hown hE.2.1 hP 0 rfl rfl 1 (by decide) (hE.w m_85) (fun _ h9 => h9) rfl d_Pk_pack_1 ?_
  refine lv_aload_n hx hb d_Pk_pack_4 rfl (lv_at hl 0 rfl) ?_
  refine va_get (ci := 0) (C := R_Pk) (T := F_Pk) (N := 7) hx hb hE.hts in_Pk hown hE.2.1 hP 0 rfl rfl 0 (by decide) (hE.w m_84) (fun _ h9 => h9) rfl d_Pk_pack_5 ?_
  refine lv_aload_n hx hb d_Pk_pack_8 rfl (lv_at hl 0 rfl) ?_
  refine va_get (ci := 0) (C := R_Pk) (T := F_Pk) (N := 7) hx hb hE.hts in_Pk hown hE.2.1 hP 0 rfl rfl 3 (by decide) (hE.w m_87) (fun _ h9 => h9) rfl d_Pk_pack_9 ?_
  refine pc_i (wc := [(kp, .inr (3, [.ref ra, .ref rb, .int bc, .int bd])), (ra, .inl (g.2.2.1, 4096, .inl fa)), (rb, .inl (g.2.2.1, 4096, .inl fb)), (qt, .inr (1, [.ref r, .int (nI n)])), (r, .inl (g.2.1, 32768, .inl (bA t))), (qs, .inr (1, [.ref rs, .int ns])), (rs, .inl (g.2.1, 32768, .inl (bA ts)))]) (wr := [(x, .inr (0, [.ref qt, .ref kp, .ref qo, .ref qs, .ref qc, .ref qn, .ref qi]))]) (cells' := 0) (slots' := 0) hP hD hS hA [1, 2, 3, 4, 5, 6, 7] [0] rfl rfl (by decide) (by decide) rfl rfl (va_runVN (n := 2) (As := [.ref qt, .ref qs]) (rest := []) (C := R_Packer) ⟨hx, hb, hml, hown, hE.hts⟩ (c_Packer_write l g kp ra rb bc bd fa fb qt r n t qs rs ns ts (by omega) _) ⟨pc_cn hE m_222 m_3 m_219 (by decide +kernel) ⟨by exact Nat.le_of_ble_eq_true rfl, by exact Nat.le_of_ble_eq_true rfl⟩, hE.w m_221, hE.w ms_4⟩ (pc_preV (ci := 3) (q0 := 1) hP hD hE hS hA [1, 2, 3, 4, 5, 6, 7] (by decide) rfl [.ref qt, .ref qs] rfl rfl) rfl rfl hl.1 rfl (lv_room (by exact Nat.le_of_ble_eq_true rfl)) d_Pk_pack_12 ⟨by exact Nat.le_of_ble_eq_true rfl, by exact Nat.le_of_ble_eq_true rfl⟩) (fun r_2 u_1 H locs hw hP hD hS => ?_)
  obtain ⟨b1_3, b2_4, fa2_5, fb2_6, n3_7, t3_8⟩ := u_1
  have hw_9 := hw
  have hw_9 : (r_2 = 1 ∧ bl t3_8 n3_7 = packL (bl t n) ∧ n3_7 ≤ 32768) ∨ (r_2 = 0 ∧ 32768 < (packL (bl t n)).length) := hw_9
  have hP : va_P g.1 pc_cl [(x, .inr (0, [.ref qt, .ref kp, .ref qo, .ref qs, .ref qc, .ref qn, .ref qi])), (kp, .inr (3, [.ref ra, .ref rb, .int b1_3, .int b2_4])), (ra, .inl (g.2.2.1, 4096, .inl fa2_5)), (rb, .inl (g.2.2.1, 4096, .inl fb2_6)), (qt, .inr (1, [.ref r, .int (nI n)])), (r, .inl (g.2.1, 32768, .inl (bA t))), (qs, .inr (1, [.ref rs, .int (nI n3_7)])), (rs, .inl (g.2.1, 32768, .inl (bA t3_8)))] H := hP
  have hD : va_D A [(x, .inr (0, [.ref qt, .ref kp, .ref qo, .ref qs, .ref qc, .ref qn, .ref qi])), (kp, .inr (3, [.ref ra, .ref rb, .int b1_3, .int b2_4])), (ra, .inl (g.2.2.1, 4096, .inl fa2_5)), (rb, .inl (g.2.2.1, 4096, .inl fb2_6)), (qt, .inr (1, [.ref r, .int (nI n)])), (r, .inl (g.2.1, 32768, .inl (bA t))), (qs, .inr (1, [.ref rs, .int (nI n3_7)])), (rs, .inl (g.2.1, 32768, .inl (bA t3_8)))] := hD
  rcases hw_9 with ⟨rfl, hg1⟩ | ⟨rfl, hg1⟩
  · skip
    refine pc_ti (y := nI 1) rfl ?_
    refine pc_zne (tgt := 26) hx hb d_Pk_pack_15 (by decide) (by omega) (fun h_d => ?_) (fun h_d => absurd h_d (by decide))
    refine lv_aload_n hx hb d_Pk_pack_26 rfl (lv_at hl 0 rfl) ?_
    refine va_get (ci := 0) (C := R_Pk) (T := F_Pk) (N := 7) hx hb hE.hts in_Pk hown hE.2.1 hP 0 rfl rfl 0 (by decide) (hE.w m_84) (fun _ h9 => h9) rfl d_Pk_pack_27 ?_
    refine lv_iconst (v := nI 0) hx hb d_Pk_pack_30 (by decide) ?_
    refine va_putN (ci := 1) (ty := .int) (C := R_Bytes) (T := F_Bytes) (N := 2) hx hb hE.hts in_Bytes t_Bytes tk_Bytes nn_Bytes hown hE.2.1 hP hD hS 4 rfl rfl 1 (by decide) (hE.w m_40) (fun _ h9 => h9) rfl (by decide +kernel) (by rfl) (by rfl) (by exact Nat.le_of_ble_eq_true rfl) d_Pk_pack_31 (fun H locs hP hD hS => ?_)
    have hP : va_P g.1 pc_cl [(x, .inr (0, [.ref qt, .ref kp, .ref qo, .ref qs, .ref qc, .ref qn, .ref qi])), (kp, .inr (3, [.ref ra, .ref rb, .int b1_3, .int b2_4])), (ra, .inl (g.2.2.1, 4096, .inl fa2_5)), (rb, .inl (g.2.2.1, 4096, .inl fb2_6)), (qt, .inr (1, [.ref r, .int (nI 0)])), (r, .inl (g.2.1, 32768, .inl (bA t))), (qs, .inr (1, [.ref rs, .int (nI n3_7)])), (rs, .inl (g.2.1, 32768, .inl (bA t3_8)))] H := hP
    have hD : va_D A [(x, .inr (0, [.ref qt, .ref kp, .ref qo, .ref qs, .ref qc, .ref qn, .ref qi])), (kp, .inr (3, [.ref ra, .ref rb, .int b1_3, .int b2_4])), (ra, .inl (g.2.2.1, 4096, .inl fa2_5)), (rb, .inl (g.2.2.1, 4096, .inl fb2_6)), (qt, .inr (1, [.ref r, .int (nI 0)])), (r, .inl (g.2.1, 32768, .inl (bA t))), (qs, .inr (1, [.ref rs, .int (nI n3_7)])), (rs, .inl (g.2.1, 32768, .inl (bA t3_8)))] := hD
    refine lv_aload_n hx hb d_Pk_pack_34 rfl (lv_at hl 0 rfl) ?_
    refine pc_i (wc := [(x, .inr (0, [.ref qt, .ref kp, .ref qo, .ref qs, .ref qc, .ref qn, .ref qi])), (qs, .inr (1, [.ref rs, .int (nI n3_7)])), (rs, .inl (g.2.1, 32768, .inl (bA t3_8)))]) (wr := [(kp, .inr (3, [.ref ra, .ref rb, .int b1_3, .int b2_4])), (ra, .inl (g.2.2.1, 4096, .inl fa2_5)), (rb, .inl (g.2.2.1, 4096, .inl fb2_6)), (qt, .inr (1, [.ref r, .int (nI 0)])), (r, .inl (g.2.1, 32768, .inl (bA t)))]) (cells' := 0) (slots' := 0) hP hD hS hA [0, 6, 7] [1, 2, 3, 4, 5] rfl rfl (by decide) (by decide) rfl rfl (va_runV (n := 0) (As := []) (rest := []) (C := R_Pk) ⟨hx, hb, hml, hown, hE.hts⟩ (c_Pk_takeSpareAsOut l g x qt kp qo qs qc qn qi rs n3_7 t3_8 _) ⟨pc_cb hE m_278 m_1 m_275 (by decide +kernel) ⟨by exact Nat.le_of_ble_eq_true rfl, by exact Nat.le_of_ble_eq_true rfl⟩, hE.w m_277, hE.w ms_11⟩ (pc_preV (ci := 0) (q0 := 0) hP hD hE hS hA [0, 6, 7] (by decide) rfl [] rfl rfl) rfl rfl hl.1 rfl (lv_room (by exact Nat.le_of_ble_eq_true rfl)) d_Pk_pack_35 ⟨by exact Nat.le_of_ble_eq_true rfl, by exact Nat.le_of_ble_eq_true rfl⟩) (fun r_11 u_10 H locs hw hP hD hS => ?_)
    obtain rfl := hw
    have hP : va_P g.1 pc_cl [(kp, .inr (3, [.ref ra, .ref rb, .int b1_3, .int b2_4])), (ra, .inl (g.2.2.1, 4096, .inl fa2_5)), (rb, .inl (g.2.2.1, 4096, .inl fb2_6)), (qt, .inr (1, [.ref r, .int (nI 0)])), (r, .inl (g.2.1, 32768, .inl (bA t))), (x, .inr (0, [.ref qt, .ref kp, .ref qs, .ref qo, .ref qc, .ref qn, .ref qi])), (qs, .inr (1, [.ref rs, .int (nI n3_7)])), (rs, .inl (g.2.1, 32768, .inl (bA t3_8)))] H := hP
    have hD : va_D A [(kp, .inr (3, [.ref ra, .ref rb, .int b1_3, .int b2_4])), (ra, .inl (g.2.2.1, 4096, .inl fa2_5)), (rb, .inl (g.2.2.1, 4096, .inl fb2_6)), (qt, .inr (1, [.ref r, .int (nI 0)])), (r, .inl (g.2.1, 32768, .inl (bA t))), (x, .inr (0, [.ref qt, .ref kp, .ref qs, .ref qo, .ref qc, .ref qn, .ref qi])), (qs, .inr (1, [.ref rs, .int (nI n3_7)])), (rs, .inl (g.2.1, 32768, .inl (bA t3_8)))] := hD
    refine W.widen (k := rm_Pk_pack.cells) (n := rm_Pk_pack.slots) (by exact Nat.le_of_ble_eq_true rfl) (by exact Nat.le_of_ble_eq_true rfl) ?_
    exact hR _ _ 38 _ (nI n3_7) (b1_3, b2_4, fa2_5, fb2_6, 0, n3_7, t3_8, qs, qo) d_Pk_pack_38 rfl (Or.inl (⟨rfl, hg1.1, hg1.2, rfl, rfl, rfl⟩)) (hP.sub [5, 0, 1, 2, 3, 4, 6, 7] rfl) (hD.sub [5, 0, 1, 2, 3, 4, 6, 7] (by decide) rfl) hS
  · skip
    refine pc_ti (y := nI 0) rfl ?_
    refine pc_zne (tgt := 26) hx hb d_Pk_pack_15 (by decide) (by omega) (fun h_d => absurd h_d (fun k9 => k9 rfl)) (fun h_d => ?_)
    exact hT "java/lang/IllegalStateException" 46 48 _ _ 0 0 18 _ (b1_3, b2_4, fa2_5, fb2_6, n, n3_7, t3_8, qo, qs) (by decide) m_118 m_9 ta_0 (hl.1.trans hml.symm) d_Pk_pack_18 d_Pk_pack_21 d_Pk_pack_22 d_Pk_pack_25 (by decide) ⟨by exact Nat.le_of_ble_eq_true rfl, by exact Nat.le_of_ble_eq_true rfl, by exact Nat.le_of_ble_eq_true rfl, by exact Nat.le_of_ble_eq_true rfl⟩ (Or.inr (⟨rfl, hg1, rfl, rfl, rfl⟩)) (hP.sub [0, 1, 2, 3, 4, 5, 6, 7] rfl) (hD.sub [0, 1, 2, 3, 4, 5, 6, 7] (by decide) rfl) hS
abbrev rm_Pk_unpack : Room := { frames := 6, cells := 2, slots := 8, locals := 153 }
set_option maxHeartbeats 1000000 in
set_option maxRecDepth 100000 in
/-- unpack -/
theorem c_Pk_unpack (l : Launch) (htr : l.stackTraces = false) (g : pc_G) (x : Nat) (qt : Nat) (kp : Nat) (qo : Nat) (qs : Nat) (qc : Nat) (qn : Nat) (qi : Nat) (r : Nat) (n : Nat) (t : Nat → UInt8) (rs : Nat) (ns : Int32) (ts : Nat → UInt8) (hn : n ≤ 32768) : pc_X (S := Nat × (Nat → UInt8) × Nat × Nat) l y_Pk_unpack (.code y_Pk_unpack prog_1_method_5_code 2 (some .int)) (some .int) rm_Pk_unpack g [(x, .inr (0, [.ref qt, .ref kp, .ref qo, .ref qs, .ref qc, .ref qn, .ref qi])), (qt, .inr (1, [.ref r, .int (nI n)])), (r, .inl (g.2.1, 32768, .inl (bA t))), (qs, .inr (1, [.ref rs, .int ns])), (rs, .inl (g.2.1, 32768, .inl (bA ts)))] [.ref x] (fun rv u => (rv = .inl (nI u.1) ∧ unP (bl t n) 0 = some (bl u.2.1 u.1) ∧ u.1 ≤ 32768 ∧ u.2.2.1 = qs ∧ u.2.2.2 = qo) ∨ (rv = .inr "java/lang/IllegalArgumentException" ∧ unP (bl t n) 0 = none ∧ u.2.2.1 = qo ∧ u.2.2.2 = qs)) (fun u => [(x, .inr (0, [.ref qt, .ref kp, .ref u.2.2.1, .ref u.2.2.2, .ref qc, .ref qn, .ref qi])), (qt, .inr (1, [.ref r, .int (nI 0)])), (r, .inl (g.2.1, 32768, .inl (bA t))), (qs, .inr (1, [.ref rs, .int (nI u.1)])), (rs, .inl (g.2.1, 32768, .inl (bA u.2.1)))]) := by
  refine pc_X.of (cc := prog_1_method_5_code) (nL := 2) (rt := (some .int)) (hh := []) (by decide) tx_wd.plain (by exact Nat.le_of_ble_eq_true rfl) htr ?_
  intro p e s m below meth c A Q hx hb hml hown hE hA htab hR hT hO hP hD ls hl
  have hS : va_S A s.heap s.heap [] := va_S.rf
  have hl : lv_has ls 2 [(0, .ref x)] := hl
  refine va_new (ci := 4) (fs := [.null, .int 0]) (C := R_Reader) (T := F_Reader) (N := 2) hx hb hE.hts in_Reader t_Reader tk_Reader hown (hE.w m_286) (hE.w m_287) (hE.w m_15) hE.2.1 hP hD hS hA rfl (fun j hj => by rcases (show j = 0 ∨ j = 1 by omega) with rfl | rfl <;> rfl) (by exact Nat.le_of_ble_eq_true rfl) (by exact Nat.le_of_ble_eq_true rfl) d_Pk_unpack_0 (fun q_1 H hP hD hS => ?_)
  have hP : va_P g.1 pc_cl [(x, .inr (0, [.ref qt, .ref kp, .ref qo, .ref qs, .ref qc, .ref qn, .ref qi])), (qt, .inr (1, [.ref r, .int (nI n)])), (r, .inl (g.2.1, 32768, .inl (bA t))), (qs, .inr (1, [.ref rs, .int ns])), (rs, .inl (g.2.1, 32768, .inl (bA ts))), (q_1, .inr (4, [.null, .int 0]))] H := hP
  have hD : va_D A [(x, .inr (0, [.ref qt, .ref kp, .ref qo, .ref qs, .ref qc, .ref qn, .ref qi])), (qt, .inr (1, [.ref r, .int (nI n)])), (r, .inl (g.2.1, 32768, .inl (bA t))), (qs, .inr (1, [.ref rs, .int ns])), (rs, .inl (g.2.1, 32768, .inl (bA ts))), (q_1, .inr (4, [.null, .int 0]))] := hD
  refine W.cs (cells' := 1) (slots' := 2) rfl rfl ?_
  refine lv_dup hx hb d_Pk_unpack_3 rfl ?_
  refine lv_aload_n hx hb d_Pk_unpack_4 rfl (lv_at hl 0 rfl) ?_
  refine va_get (ci := 0) (C := R_Pk) (T := F_Pk) (N := 7) hx hb hE.hts in_Pk hown hE.2.1 hP 0 rfl rfl 0 (by decide) (hE.w m_84) (fun _ h9 => h9) rfl d_Pk_unpack_5 ?_
  refine pc_v (wc := [(q_1, .inr (4, [.null, .int 0]))]) (wr := [(x, .inr (0, [.ref qt, .ref kp, .ref qo, .ref qs, .ref qc, .ref qn, .ref qi])), (qt, .inr (1, [.ref r, .int (nI n)])), (r, .inl (g.2.1, 32768, .inl (bA t))), (qs, .inr (1, [.ref rs, .int ns])), (rs, .inl (g.2.1, 32768, .inl (bA ts)))]) (cells' := 1) (slots' := 2) hP hD hS hA [5] [0, 1, 2, 3, 4] rfl rfl (by decide) (by decide) rfl rfl (va_runIN (n := 1) (As := [.ref qt]) (rest := [.ref q_1]) ⟨hx, hb, hml, hown, hE.hts⟩ (c_Reader_init l g q_1 qt 0 _) ⟨pc_cn hE m_290 m_15 m_288 (by decide +kernel) ⟨by exact Nat.le_of_ble_eq_true rfl, by exact Nat.le_of_ble_eq_true rfl⟩, rfl, hE.w m_289⟩ (pc_pre hP hD hE hS hA [5] (by decide) rfl [.ref q_1, .ref qt]) rfl rfl hl.1 rfl (lv_room (by exact Nat.le_of_ble_eq_true rfl)) d_Pk_unpack_8 ⟨by exact Nat.le_of_ble_eq_true rfl, by exact Nat.le_of_ble_eq_true rfl⟩) (fun u_2 H locs hw hP hD hS => ?_)
  have hP : va_P g.1 pc_cl [(x, .inr (0, [.ref qt, .ref kp, .ref qo, .ref qs, .ref qc, .ref qn, .ref qi])), (qt, .inr (1, [.ref r, .int (nI n)])), (r, .inl (g.2.1, 32768, .inl (bA t))), (qs, .inr (1, [.ref rs, .int ns])), (rs, .inl (g.2.1, 32768, .inl (bA ts))), (q_1, .inr (4, [.ref qt, .int (nI 0)]))] H := hP
  have hD : va_D A [(x, .inr (0, [.ref qt, .ref kp, .ref qo, .ref qs, .ref qc, .ref qn, .ref qi])), (qt, .inr (1, [.ref r, .int (nI n)])), (r, .inl (g.2.1, 32768, .inl (bA t))), (qs, .inr (1, [.ref rs, .int ns])), (rs, .inl (g.2.1, 32768, .inl (bA ts))), (q_1, .inr (4, [.ref qt, .int (nI 0)]))] := hD
  refine lv_aload_n hx hb d_Pk_unpack_11 rfl (lv_at hl 0 rfl) ?_
  refine va_get (ci := 0) (C := R_Pk) (T := F_Pk) (N := 7) hx hb hE.hts in_Pk hown hE.2.1 hP 0 rfl rfl 3 (by decide) (hE.w m_87) (fun _ h9 => h9) rfl d_Pk_unpack_12 ?_
  refine pc_i (wc := [(q_1, .inr (4, [.ref qt, .int (nI 0)])), (qt, .inr (1, [.ref r, .int (nI n)])), (r, .inl (g.2.1, 32768, .inl (bA t))), (qs, .inr (1, [.ref rs, .int ns])), (rs, .inl (g.2.1, 32768, .inl (bA ts)))]) (wr := [(x, .inr (0, [.ref qt, .ref kp, .ref qo, .ref qs, .ref qc, .ref qn, .ref qi]))]) (cells' := 1) (slots' := 2) hP hD hS hA [5, 1, 2, 3, 4] [0] rfl rfl (by decide) (by decide) rfl rfl (va_runSN (n := 2) (As := [.ref q_1, .ref qs]) (rest := []) ⟨hx, hb, hml, hown, hE.hts⟩ (c_Unpacker_write l g q_1 0 qt r n t qs rs ns ts (by omega) (by omega) _) ⟨pc_cn hE m_301 m_16 m_299 (by decide +kernel) ⟨by exact Nat.le_of_ble_eq_true rfl, by exact Nat.le_of_ble_eq_true rfl⟩, hE.w m_300, trivial⟩ (pc_pre hP hD hE hS hA [5, 1, 2, 3, 4] (by decide) rfl [.ref q_1, .ref qs]) rfl rfl hl.1 rfl (lv_room (by exact Nat.le_of_ble_eq_true rfl)) d_Pk_unpack_15 ⟨by exact Nat.le_of_ble_eq_true rfl, by exact Nat.le_of_ble_eq_true rfl⟩) (fun r_5 u_4 H locs hw hP hD hS => ?_)
  obtain ⟨p2_6, n3_7, t3_8⟩ := u_4
  have hw_9 := hw
  have hw_9 : (r_5 = 1 ∧ unP (bl t n) 0 = some (bl t3_8 n3_7) ∧ n3_7 ≤ 32768) ∨ (r_5 = 0 ∧ unP (bl t n) 0 = none) := hw_9
  have hP : va_P g.1 pc_cl [(x, .inr (0, [.ref qt, .ref kp, .ref qo, .ref qs, .ref qc, .ref qn, .ref qi])), (q_1, .inr (4, [.ref qt, .int (nI p2_6)])), (qt, .inr (1, [.ref r, .int (nI n)])), (r, .inl (g.2.1, 32768, .inl (bA t))), (qs, .inr (1, [.ref rs, .int (nI n3_7)])), (rs, .inl (g.2.1, 32768, .inl (bA t3_8)))] H := hP
  have hD : va_D A [(x, .inr (0, [.ref qt, .ref kp, .ref qo, .ref qs, .ref qc, .ref qn, .ref qi])), (q_1, .inr (4, [.ref qt, .int (nI p2_6)])), (qt, .inr (1, [.ref r, .int (nI n)])), (r, .inl (g.2.1, 32768, .inl (bA t))), (qs, .inr (1, [.ref rs, .int (nI n3_7)])), (rs, .inl (g.2.1, 32768, .inl (bA t3_8)))] := hD
  rcases hw_9 with ⟨rfl, hg1⟩ | ⟨rfl, hg1⟩
  · skip
    refine pc_ti (y := nI 1) rfl ?_
    refine lv_istore_n (lv' := [(1, .int (nI 1)), (0, .ref x)]) hx hb d_Pk_unpack_18 rfl hl (by decide) rfl (fun ls hl => ?_)
    refine lv_aload_n hx hb d_Pk_unpack_19 rfl (lv_at hl 1 rfl) ?_
    refine va_get (ci := 0) (C := R_Pk) (T := F_Pk) (N := 7) hx hb hE.hts in_Pk hown hE.2.1 hP 0 rfl rfl 0 (by decide) (hE.w m_84) (fun _ h9 => h9) rfl d_Pk_unpack_20 ?_
    refine lv_iconst (v := nI 0) hx hb d_Pk_unpack_23 (by decide) ?_
    refine va_putN (ci := 1) (ty := .int) (C := R_Bytes) (T := F_Bytes) (N := 2) hx hb hE.hts in_Bytes t_Bytes tk_Bytes nn_Bytes hown hE.2.1 hP hD hS 2 rfl rfl 1 (by decide) (hE.w m_40) (fun _ h9 => h9) rfl (by decide +kernel) (by rfl) (by rfl) (by exact Nat.le_of_ble_eq_true rfl) d_Pk_unpack_24 (fun H locs hP hD hS => ?_)
    have hP : va_P g.1 pc_cl [(x, .inr (0, [.ref qt, .ref kp, .ref qo, .ref qs, .ref qc, .ref qn, .ref qi])), (q_1, .inr (4, [.ref qt, .int (nI p2_6)])), (qt, .inr (1, [.ref r, .int (nI 0)])), (r, .inl (g.2.1, 32768, .inl (bA t))), (qs, .inr (1, [.ref rs, .int (nI n3_7)])), (rs, .inl (g.2.1, 32768, .inl (bA t3_8)))] H := hP
    have hD : va_D A [(x, .inr (0, [.ref qt, .ref kp, .ref qo, .ref qs, .ref qc, .ref qn, .ref qi])), (q_1, .inr (4, [.ref qt, .int (nI p2_6)])), (qt, .inr (1, [.ref r, .int (nI 0)])), (r, .inl (g.2.1, 32768, .inl (bA t))), (qs, .inr (1, [.ref rs, .int (nI n3_7)])), (rs, .inl (g.2.1, 32768, .inl (bA t3_8)))] := hD
    refine lv_iload_n hx hb d_Pk_unpack_27 rfl (lv_at hl 0 rfl) ?_
    refine pc_zne (tgt := 39) hx hb d_Pk_unpack_28 (by decide) (by omega) (fun h_d => ?_) (fun h_d => absurd h_d (by decide))
    refine lv_aload_n hx hb d_Pk_unpack_39 rfl (lv_at hl 1 rfl) ?_
    refine pc_i (wc := [(x, .inr (0, [.ref qt, .ref kp, .ref qo, .ref qs, .ref qc, .ref qn, .ref qi])), (qs, .inr (1, [.ref rs, .int (nI n3_7)])), (rs, .inl (g.2.1, 32768, .inl (bA t3_8)))]) (wr := [(q_1, .inr (4, [.ref qt, .int (nI p2_6)])), (qt, .inr (1, [.ref r, .int (nI 0)])), (r, .inl (g.2.1, 32768, .inl (bA t)))]) (cells' := 1) (slots' := 2) hP hD hS hA [0, 4, 5] [1, 2, 3] rfl rfl (by decide) (by decide) rfl rfl (va_runV (n := 0) (As := []) (rest := []) (C := R_Pk) ⟨hx, hb, hml, hown, hE.hts⟩ (c_Pk_takeSpareAsOut l g x qt kp qo qs qc qn qi rs n3_7 t3_8 _) ⟨pc_cb hE m_278 m_1 m_275 (by decide +kernel) ⟨by exact Nat.le_of_ble_eq_true rfl, by exact Nat.le_of_ble_eq_true rfl⟩, hE.w m_277, hE.w ms_11⟩ (pc_preV (ci := 0) (q0 := 0) hP hD hE hS hA [0, 4, 5] (by decide) rfl [] rfl rfl) rfl rfl hl.1 rfl (lv_room (by exact Nat.le_of_ble_eq_true rfl)) d_Pk_unpack_40 ⟨by exact Nat.le_of_ble_eq_true rfl, by exact Nat.le_of_ble_eq_true rfl⟩) (fun r_11 u_10 H locs hw hP hD hS => ?_)
    obtain rfl := hw
    have hP : va_P g.1 pc_cl [(q_1, .inr (4, [.ref qt, .int (nI p2_6)])), (qt, .inr (1, [.ref r, .int (nI 0)])), (r, .inl (g.2.1, 32768, .inl (bA t))), (x, .inr (0, [.ref qt, .ref kp, .ref qs, .ref qo, .ref qc, .ref qn, .ref qi])), (qs, .inr (1, [.ref rs, .int (nI n3_7)])), (rs, .inl (g.2.1, 32768, .inl (bA t3_8)))] H := hP
    have hD : va_D A [(q_1, .inr (4, [.ref qt, .int (nI p2_6)])), (qt, .inr (1, [.ref r, .int (nI 0)])), (r, .inl (g.2.1, 32768, .inl (bA t))), (x, .inr (0, [.ref qt, .ref kp, .ref qs, .ref qo, .ref qc, .ref qn, .ref qi])), (qs, .inr (1, [.ref rs, .int (nI n3_7)])), (rs, .inl (g.2.1, 32768, .inl (bA t3_8)))] := hD
    refine W.widen (k := rm_Pk_unpack.cells) (n := rm_Pk_unpack.slots) (by exact Nat.le_of_ble_eq_true rfl) (by exact Nat.le_of_ble_eq_true rfl) ?_
    exact hR _ _ 43 _ (nI n3_7) (n3_7, t3_8, qs, qo) d_Pk_unpack_43 rfl (Or.inl (⟨rfl, hg1.1, hg1.2, rfl, rfl⟩)) (hP.sub [3, 1, 2, 4, 5] rfl) (hD.sub [3, 1, 2, 4, 5] (by decide) rfl) hS
  · skip
    refine pc_ti (y := nI 0) rfl ?_
    refine lv_istore_n (lv' := [(1, .int (nI 0)), (0, .ref x)]) hx hb d_Pk_unpack_18 rfl hl (by decide) rfl (fun ls hl => ?_)
    refine lv_aload_n hx hb d_Pk_unpack_19 rfl (lv_at hl 1 rfl) ?_
    refine va_get (ci := 0) (C := R_Pk) (T := F_Pk) (N := 7) hx hb hE.hts in_Pk hown hE.2.1 hP 0 rfl rfl 0 (by decide) (hE.w m_84) (fun _ h9 => h9) rfl d_Pk_unpack_20 ?_
    refine lv_iconst (v := nI 0) hx hb d_Pk_unpack_23 (by decide) ?_
    refine va_putN (ci := 1) (ty := .int) (C := R_Bytes) (T := F_Bytes) (N := 2) hx hb hE.hts in_Bytes t_Bytes tk_Bytes nn_Bytes hown hE.2.1 hP hD hS 2 rfl rfl 1 (by decide) (hE.w m_40) (fun _ h9 => h9) rfl (by decide +kernel) (by rfl) (by rfl) (by exact Nat.le_of_ble_eq_true rfl) d_Pk_unpack_24 (fun H locs hP hD hS => ?_)
    have hP : va_P g.1 pc_cl [(x, .inr (0, [.ref qt, .ref kp, .ref qo, .ref qs, .ref qc, .ref qn, .ref qi])), (q_1, .inr (4, [.ref qt, .int (nI p2_6)])), (qt, .inr (1, [.ref r, .int (nI 0)])), (r, .inl (g.2.1, 32768, .inl (bA t))), (qs, .inr (1, [.ref rs, .int (nI n3_7)])), (rs, .inl (g.2.1, 32768, .inl (bA t3_8)))] H := hP
    have hD : va_D A [(x, .inr (0, [.ref qt, .ref kp, .ref qo, .ref qs, .ref qc, .ref qn, .ref qi])), (q_1, .inr (4, [.ref qt, .int (nI p2_6)])), (qt, .inr (1, [.ref r, .int (nI 0)])), (r, .inl (g.2.1, 32768, .inl (bA t))), (qs, .inr (1, [.ref rs, .int (nI n3_7)])), (rs, .inl (g.2.1, 32768, .inl (bA t3_8)))] := hD
    refine lv_iload_n hx hb d_Pk_unpack_27 rfl (lv_at hl 0 rfl) ?_
    refine pc_zne (tgt := 39) hx hb d_Pk_unpack_28 (by decide) (by omega) (fun h_d => absurd h_d (fun k9 => k9 rfl)) (fun h_d => ?_)
    exact hT "java/lang/IllegalArgumentException" 57 59 _ _ 1 2 31 _ (n3_7, t3_8, qo, qs) (by decide) m_197 m_10 ta_1 (hl.1.trans hml.symm) d_Pk_unpack_31 d_Pk_unpack_34 d_Pk_unpack_35 d_Pk_unpack_38 (by decide) ⟨by exact Nat.le_of_ble_eq_true rfl, by exact Nat.le_of_ble_eq_true rfl, by exact Nat.le_of_ble_eq_true rfl, by exact Nat.le_of_ble_eq_true rfl⟩ (Or.inr (⟨rfl, hg1, rfl, rfl⟩)) (hP.sub [0, 2, 3, 4, 5] rfl) (hD.sub [0, 2, 3, 4, 5] (by decide) rfl) hS
abbrev rm_Pk_text : Room := { frames := 6, cells := 2, slots := 8, locals := 90 }
set_option maxHeartbeats 1000000 in
set_option maxRecDepth 100000 in
/-- text -/
theorem c_Pk_text (l : Launch) (htr : l.stackTraces = false) (g : pc_G) (x : Nat) (qt : Nat) (kp : Nat) (qo : Nat) (qs : Nat) (qc : Nat) (qn : Nat) (qi : Nat) (r : Nat) (n : Nat) (t : Nat → UInt8) (ri : Nat) (ni : Int32) (fi : Nat → Int32) (hn : n ≤ 32768) : pc_X (S := Nat × (Nat → Int32) × Nat × Nat) l y_Pk_text (.code y_Pk_text prog_1_method_6_code 3 (some .int)) (some .int) rm_Pk_text g [(x, .inr (0, [.ref qt, .ref kp, .ref qo, .ref qs, .ref qc, .ref qn, .ref qi])), (qt, .inr (1, [.ref r, .int (nI n)])), (r, .inl (g.2.1, 32768, .inl (bA t))), (qi, .inr (2, [.ref ri, .int ni])), (ri, .inl (g.2.2.1, 32768, .inl fi))] [.ref x] (fun rv u => (rv = .inl (nI u.1) ∧ (∃ ns : List Nat, chsA (bl t n) (n + 1) 0 [] = some ns ∧ u.1 = ns.length ∧ u.1 ≤ 32768 ∧ ∀ j, j < u.1 → u.2.1 j = nI (ns.getD j 0)) ∧ u.2.2.1 = qi ∧ u.2.2.2 = qc) ∨ (rv = .inr "java/lang/IllegalArgumentException" ∧ chsA (bl t n) (n + 1) 0 [] = none ∧ u.2.2.1 = qc ∧ u.2.2.2 = qi)) (fun u => [(x, .inr (0, [.ref qt, .ref kp, .ref qo, .ref qs, .ref u.2.2.1, .ref qn, .ref u.2.2.2])), (qt, .inr (1, [.ref r, .int (nI 0)])), (r, .inl (g.2.1, 32768, .inl (bA t))), (qi, .inr (2, [.ref ri, .int (nI u.1)])), (ri, .inl (g.2.2.1, 32768, .inl u.2.1))]) := by
  refine pc_X.of (cc := prog_1_method_6_code) (nL := 3) (rt := (some .int)) (hh := []) (by decide) tx_wd.plain (by exact Nat.le_of_ble_eq_true rfl) htr ?_
  intro p e s m below meth c A Q hx hb hml hown hE hA htab hR hT hO hP hD ls hl
  have hS : va_S A s.heap s.heap [] := va_S.rf
  have hl : lv_has ls 3 [(0, .ref x)] := hl
  refine va_new (ci := 4) (fs := [.null, .int 0]) (C := R_Reader) (T := F_Reader) (N := 2) hx hb hE.hts in_Reader t_Reader tk_Reader hown (hE.w m_286) (hE.w m_287) (hE.w m_15) hE.2.1 hP hD hS hA rfl (fun j hj => by rcases (show j = 0 ∨ j = 1 by omega) with rfl | rfl <;> rfl) (by exact Nat.le_of_ble_eq_true rfl) (by exact Nat.le_of_ble_eq_true rfl) d_Pk_text_0 (fun q_1 H hP hD hS => ?_)
  have hP : va_P g.1 pc_cl [(x, .inr (0, [.ref qt, .ref kp, .ref qo, .ref qs, .ref qc, .ref qn, .ref qi])), (qt, .inr (1, [.ref r, .int (nI n)])), (r, .inl (g.2.1, 32768, .inl (bA t))), (qi, .inr (2, [.ref ri, .int ni])), (ri, .inl (g.2.2.1, 32768, .inl fi)), (q_1, .inr (4, [.null, .int 0]))] H := hP
  have hD : va_D A [(x, .inr (0, [.ref qt, .ref kp, .ref qo, .ref qs, .ref qc, .ref qn, .ref qi])), (qt, .inr (1, [.ref r, .int (nI n)])), (r, .inl (g.2.1, 32768, .inl (bA t))), (qi, .inr (2, [.ref ri, .int ni])), (ri, .inl (g.2.2.1, 32768, .inl fi)), (q_1, .inr (4, [.null, .int 0]))] := hD
  refine W.cs (cells' := 1) (slots' := 2) rfl rfl ?_
  refine lv_dup hx hb d_Pk_text_3 rfl ?_
  refine lv_aload_n hx hb d_Pk_text_4 rfl (lv_at hl 0 rfl) ?_
  refine va_get (ci := 0) (C := R_Pk) (T := F_Pk) (N := 7) hx hb hE.hts in_Pk hown hE.2.1 hP 0 rfl rfl 0 (by decide) (hE.w m_84) (fun _ h9 => h9) rfl d_Pk_text_5 ?_
  refine pc_v (wc := [(q_1, .inr (4, [.null, .int 0]))]) (wr := [(x, .inr (0, [.ref qt, .ref kp, .ref qo, .ref qs, .ref qc, .ref qn, .ref qi])), (qt, .inr (1, [.ref r, .int (nI n)])), (r, .inl (g.2.1, 32768, .inl (bA t))), (qi, .inr (2, [.ref ri, .int ni])), (ri, .inl (g.2.2.1, 32768, .inl fi))]) (cells' := 1) (slots' := 2) hP hD hS hA [5] [0, 1, 2, 3, 4] rfl rfl (by decide) (by decide) rfl rfl (va_runIN (n := 1) (As := [.ref qt]) (rest := [.ref q_1]) ⟨hx, hb, hml, hown, hE.hts⟩ (c_Reader_init l g q_1 qt 0 _) ⟨pc_cn hE m_290 m_15 m_288 (by decide +kernel) ⟨by exact Nat.le_of_ble_eq_true rfl, by exact Nat.le_of_ble_eq_true rfl⟩, rfl, hE.w m_289⟩ (pc_pre hP hD hE hS hA [5] (by decide) rfl [.ref q_1, .ref qt]) rfl rfl hl.1 rfl (lv_room (by exact Nat.le_of_ble_eq_true rfl)) d_Pk_text_8 ⟨by exact Nat.le_of_ble_eq_true rfl, by exact Nat.le_of_ble_eq_true rfl⟩) (fun u_2 H locs hw hP hD hS => ?_)
  have hP : va_P g.1 pc_cl [(x, .inr (0, [.ref qt, .ref kp, .ref qo, .ref qs, .ref qc, .ref qn, .ref qi])), (qt, .inr (1, [.ref r, .int (nI n)])), (r, .inl (g.2.1, 32768, .inl (bA t))), (qi, .inr (2, [.ref ri, .int ni])), (ri, .inl (g.2.2.1, 32768, .inl fi)), (q_1, .inr (4, [.ref qt, .int (nI 0)]))] H := hP
  have hD : va_D A [(x, .inr (0, [.ref qt, .ref kp, .ref qo, .ref qs, .ref qc, .ref qn, .ref qi])), (qt, .inr (1, [.ref r, .int (nI n)])), (r, .inl (g.2.1, 32768, .inl (bA t))), (qi, .inr (2, [.ref ri, .int ni])), (ri, .inl (g.2.2.1, 32768, .inl fi)), (q_1, .inr (4, [.ref qt, .int (nI 0)]))] := hD
  refine lv_aload_n hx hb d_Pk_text_11 rfl (lv_at hl 0 rfl) ?_
  refine va_get (ci := 0) (C := R_Pk) (T := F_Pk) (N := 7) hx hb hE.hts in_Pk hown hE.2.1 hP 0 rfl rfl 6 (by decide) (hE.w m_90) (fun _ h9 => h9) rfl d_Pk_text_12 ?_
  refine pc_i (wc := [(q_1, .inr (4, [.ref qt, .int (nI 0)])), (qt, .inr (1, [.ref r, .int (nI n)])), (r, .inl (g.2.1, 32768, .inl (bA t))), (qi, .inr (2, [.ref ri, .int ni])), (ri, .inl (g.2.2.1, 32768, .inl fi))]) (wr := [(x, .inr (0, [.ref qt, .ref kp, .ref qo, .ref qs, .ref qc, .ref qn, .ref qi]))]) (cells' := 1) (slots' := 2) hP hD hS hA [5, 1, 2, 3, 4] [0] rfl rfl (by decide) (by decide) rfl rfl (va_runVN (n := 1) (As := [.ref qi]) (rest := []) (C := R_Reader) ⟨hx, hb, hml, hown, hE.hts⟩ (c_Reader_takeAllCharacters l g q_1 0 qt r n t qi ri ni fi (by omega) (by omega) _) ⟨pc_cn hE m_346 m_15 m_343 (by decide +kernel) ⟨by exact Nat.le_of_ble_eq_true rfl, by exact Nat.le_of_ble_eq_true rfl⟩, hE.w m_345, hE.w ms_17⟩ (pc_preV (ci := 4) (q0 := 5) hP hD hE hS hA [5, 1, 2, 3, 4] (by decide) rfl [.ref qi] rfl rfl) rfl rfl hl.1 rfl (lv_room (by exact Nat.le_of_ble_eq_true rfl)) d_Pk_text_15 ⟨by exact Nat.le_of_ble_eq_true rfl, by exact Nat.le_of_ble_eq_true rfl⟩) (fun r_5 u_4 H locs hw hP hD hS => ?_)
  obtain ⟨p2_6, n2_7, f2_8⟩ := u_4
  have hw_9 := hw
  have hw_9 : allRes (chsA (bl t n) (n + 1) 0 []) r_5 n2_7 f2_8 := hw_9
  have hP : va_P g.1 pc_cl [(x, .inr (0, [.ref qt, .ref kp, .ref qo, .ref qs, .ref qc, .ref qn, .ref qi])), (q_1, .inr (4, [.ref qt, .int (nI p2_6)])), (qt, .inr (1, [.ref r, .int (nI n)])), (r, .inl (g.2.1, 32768, .inl (bA t))), (qi, .inr (2, [.ref ri, .int (nI n2_7)])), (ri, .inl (g.2.2.1, 32768, .inl f2_8))] H := hP
  have hD : va_D A [(x, .inr (0, [.ref qt, .ref kp, .ref qo, .ref qs, .ref qc, .ref qn, .ref qi])), (q_1, .inr (4, [.ref qt, .int (nI p2_6)])), (qt, .inr (1, [.ref r, .int (nI n)])), (r, .inl (g.2.1, 32768, .inl (bA t))), (qi, .inr (2, [.ref ri, .int (nI n2_7)])), (ri, .inl (g.2.2.1, 32768, .inl f2_8))] := hD
  rcases hw_9 with ⟨rfl, hg1⟩ | ⟨rfl, hg1⟩
  · skip
    refine pc_ti (y := nI 1) rfl ?_
    refine lv_istore_n (lv' := [(1, .int (nI 1)), (0, .ref x)]) hx hb d_Pk_text_18 rfl hl (by decide) rfl (fun ls hl => ?_)
    refine lv_aload_n hx hb d_Pk_text_19 rfl (lv_at hl 1 rfl) ?_
    refine va_get (ci := 0) (C := R_Pk) (T := F_Pk) (N := 7) hx hb hE.hts in_Pk hown hE.2.1 hP 0 rfl rfl 0 (by decide) (hE.w m_84) (fun _ h9 => h9) rfl d_Pk_text_20 ?_
    refine lv_iconst (v := nI 0) hx hb d_Pk_text_23 (by decide) ?_
    refine va_putN (ci := 1) (ty := .int) (C := R_Bytes) (T := F_Bytes) (N := 2) hx hb hE.hts in_Bytes t_Bytes tk_Bytes nn_Bytes hown hE.2.1 hP hD hS 2 rfl rfl 1 (by decide) (hE.w m_40) (fun _ h9 => h9) rfl (by decide +kernel) (by rfl) (by rfl) (by exact Nat.le_of_ble_eq_true rfl) d_Pk_text_24 (fun H locs hP hD hS => ?_)
    have hP : va_P g.1 pc_cl [(x, .inr (0, [.ref qt, .ref kp, .ref qo, .ref qs, .ref qc, .ref qn, .ref qi])), (q_1, .inr (4, [.ref qt, .int (nI p2_6)])), (qt, .inr (1, [.ref r, .int (nI 0)])), (r, .inl (g.2.1, 32768, .inl (bA t))), (qi, .inr (2, [.ref ri, .int (nI n2_7)])), (ri, .inl (g.2.2.1, 32768, .inl f2_8))] H := hP
    have hD : va_D A [(x, .inr (0, [.ref qt, .ref kp, .ref qo, .ref qs, .ref qc, .ref qn, .ref qi])), (q_1, .inr (4, [.ref qt, .int (nI p2_6)])), (qt, .inr (1, [.ref r, .int (nI 0)])), (r, .inl (g.2.1, 32768, .inl (bA t))), (qi, .inr (2, [.ref ri, .int (nI n2_7)])), (ri, .inl (g.2.2.1, 32768, .inl f2_8))] := hD
    refine lv_iload_n hx hb d_Pk_text_27 rfl (lv_at hl 0 rfl) ?_
    refine pc_zne (tgt := 39) hx hb d_Pk_text_28 (by decide) (by omega) (fun h_d => ?_) (fun h_d => absurd h_d (by decide))
    refine lv_aload_n hx hb d_Pk_text_39 rfl (lv_at hl 1 rfl) ?_
    refine va_get (ci := 0) (C := R_Pk) (T := F_Pk) (N := 7) hx hb hE.hts in_Pk hown hE.2.1 hP 0 rfl rfl 4 (by decide) (hE.w m_88) (fun _ h9 => h9) rfl d_Pk_text_40 ?_
    refine lv_astore_n (lv' := [(2, .ref qc), (1, .int (nI 1)), (0, .ref x)]) hx hb d_Pk_text_43 rfl hl (by decide) rfl (fun ls hl => ?_)
    refine lv_aload_n hx hb d_Pk_text_44 rfl (lv_at hl 2 rfl) ?_
    refine lv_aload_n hx hb d_Pk_text_45 rfl (lv_at hl 2 rfl) ?_
    refine va_get (ci := 0) (C := R_Pk) (T := F_Pk) (N := 7) hx hb hE.hts in_Pk hown hE.2.1 hP 0 rfl rfl 6 (by decide) (hE.w m_90) (fun _ h9 => h9) rfl d_Pk_text_46 ?_
    refine va_put (ci := 0) (ty := .object "PackColumns$Ints") (C := R_Pk) (T := F_Pk) (N := 7) hx hb hE.hts in_Pk t_Pk tk_Pk nn_Pk hown hE.2.1 hP hD hS 0 rfl rfl 4 (by decide) (hE.w m_88) (fun _ h9 => h9) rfl (by decide +kernel) (by rfl) (by rfl) (by exact Nat.le_of_ble_eq_true rfl) d_Pk_text_49 (fun H locs hP hD hS => ?_)
    have hP : va_P g.1 pc_cl [(x, .inr (0, [.ref qt, .ref kp, .ref qo, .ref qs, .ref qi, .ref qn, .ref qi])), (q_1, .inr (4, [.ref qt, .int (nI p2_6)])), (qt, .inr (1, [.ref r, .int (nI 0)])), (r, .inl (g.2.1, 32768, .inl (bA t))), (qi, .inr (2, [.ref ri, .int (nI n2_7)])), (ri, .inl (g.2.2.1, 32768, .inl f2_8))] H := hP
    have hD : va_D A [(x, .inr (0, [.ref qt, .ref kp, .ref qo, .ref qs, .ref qi, .ref qn, .ref qi])), (q_1, .inr (4, [.ref qt, .int (nI p2_6)])), (qt, .inr (1, [.ref r, .int (nI 0)])), (r, .inl (g.2.1, 32768, .inl (bA t))), (qi, .inr (2, [.ref ri, .int (nI n2_7)])), (ri, .inl (g.2.2.1, 32768, .inl f2_8))] := hD
    refine lv_aload_n hx hb d_Pk_text_52 rfl (lv_at hl 2 rfl) ?_
    refine lv_aload_n hx hb d_Pk_text_53 rfl (lv_at hl 0 rfl) ?_
    refine va_put (ci := 0) (ty := .object "PackColumns$Ints") (C := R_Pk) (T := F_Pk) (N := 7) hx hb hE.hts in_Pk t_Pk tk_Pk nn_Pk hown hE.2.1 hP hD hS 0 rfl rfl 6 (by decide) (hE.w m_90) (fun _ h9 => h9) rfl (by decide +kernel) (by rfl) (by rfl) (by exact Nat.le_of_ble_eq_true rfl) d_Pk_text_54 (fun H locs hP hD hS => ?_)
    have hP : va_P g.1 pc_cl [(x, .inr (0, [.ref qt, .ref kp, .ref qo, .ref qs, .ref qi, .ref qn, .ref qc])), (q_1, .inr (4, [.ref qt, .int (nI p2_6)])), (qt, .inr (1, [.ref r, .int (nI 0)])), (r, .inl (g.2.1, 32768, .inl (bA t))), (qi, .inr (2, [.ref ri, .int (nI n2_7)])), (ri, .inl (g.2.2.1, 32768, .inl f2_8))] H := hP
    have hD : va_D A [(x, .inr (0, [.ref qt, .ref kp, .ref qo, .ref qs, .ref qi, .ref qn, .ref qc])), (q_1, .inr (4, [.ref qt, .int (nI p2_6)])), (qt, .inr (1, [.ref r, .int (nI 0)])), (r, .inl (g.2.1, 32768, .inl (bA t))), (qi, .inr (2, [.ref ri, .int (nI n2_7)])), (ri, .inl (g.2.2.1, 32768, .inl f2_8))] := hD
    refine lv_aload_n hx hb d_Pk_text_57 rfl (lv_at hl 2 rfl) ?_
    refine va_get (ci := 0) (C := R_Pk) (T := F_Pk) (N := 7) hx hb hE.hts in_Pk hown hE.2.1 hP 0 rfl rfl 4 (by decide) (hE.w m_88) (fun _ h9 => h9) rfl d_Pk_text_58 ?_
    refine va_getN (ci := 2) (C := R_Ints) (T := F_Ints) (N := 2) hx hb hE.hts in_Ints hown hE.2.1 hP 4 rfl rfl 1 (by decide) (hE.w m_77) (fun _ h9 => h9) rfl d_Pk_text_61 ?_
    refine W.widen (k := rm_Pk_text.cells) (n := rm_Pk_text.slots) (by exact Nat.le_of_ble_eq_true rfl) (by exact Nat.le_of_ble_eq_true rfl) ?_
    exact hR _ _ 64 _ (nI n2_7) (n2_7, f2_8, qi, qc) d_Pk_text_64 rfl (Or.inl (⟨rfl, hg1, rfl, rfl⟩)) (hP.sub [0, 2, 3, 4, 5] rfl) (hD.sub [0, 2, 3, 4, 5] (by decide) rfl) hS
  · skip
    refine pc_ti (y := nI 0) rfl ?_
    refine lv_istore_n (lv' := [(1, .int (nI 0)), (0, .ref x)]) hx hb d_Pk_text_18 rfl hl (by decide) rfl (fun ls hl => ?_)
    refine lv_aload_n hx hb d_Pk_text_19 rfl (lv_at hl 1 rfl) ?_
    refine va_get (ci := 0) (C := R_Pk) (T := F_Pk) (N := 7) hx hb hE.hts in_Pk hown hE.2.1 hP 0 rfl rfl 0 (by decide) (hE.w m_84) (fun _ h9 => h9) rfl d_Pk_text_20 ?_
    refine lv_iconst (v := nI 0) hx hb d_Pk_text_23 (by decide) ?_
    refine va_putN (ci := 1) (ty := .int) (C := R_Bytes) (T := F_Bytes) (N := 2) hx hb hE.hts in_Bytes t_Bytes tk_Bytes nn_Bytes hown hE.2.1 hP hD hS 2 rfl rfl 1 (by decide) (hE.w m_40) (fun _ h9 => h9) rfl (by decide +kernel) (by rfl) (by rfl) (by exact Nat.le_of_ble_eq_true rfl) d_Pk_text_24 (fun H locs hP hD hS => ?_)
    have hP : va_P g.1 pc_cl [(x, .inr (0, [.ref qt, .ref kp, .ref qo, .ref qs, .ref qc, .ref qn, .ref qi])), (q_1, .inr (4, [.ref qt, .int (nI p2_6)])), (qt, .inr (1, [.ref r, .int (nI 0)])), (r, .inl (g.2.1, 32768, .inl (bA t))), (qi, .inr (2, [.ref ri, .int (nI n2_7)])), (ri, .inl (g.2.2.1, 32768, .inl f2_8))] H := hP
    have hD : va_D A [(x, .inr (0, [.ref qt, .ref kp, .ref qo, .ref qs, .ref qc, .ref qn, .ref qi])), (q_1, .inr (4, [.ref qt, .int (nI p2_6)])), (qt, .inr (1, [.ref r, .int (nI 0)])), (r, .inl (g.2.1, 32768, .inl (bA t))), (qi, .inr (2, [.ref ri, .int (nI n2_7)])), (ri, .inl (g.2.2.1, 32768, .inl f2_8))] := hD
    refine lv_iload_n hx hb d_Pk_text_27 rfl (lv_at hl 0 rfl) ?_
    refine pc_zne (tgt := 39) hx hb d_Pk_text_28 (by decide) (by omega) (fun h_d => absurd h_d (fun k9 => k9 rfl)) (fun h_d => ?_)
    exact hT "java/lang/IllegalArgumentException" 57 59 _ _ 1 2 31 _ (n2_7, f2_8, qc, qi) (by decide) m_197 m_10 ta_1 (hl.1.trans hml.symm) d_Pk_text_31 d_Pk_text_34 d_Pk_text_35 d_Pk_text_38 (by decide) ⟨by exact Nat.le_of_ble_eq_true rfl, by exact Nat.le_of_ble_eq_true rfl, by exact Nat.le_of_ble_eq_true rfl, by exact Nat.le_of_ble_eq_true rfl⟩ (Or.inr (⟨rfl, hg1, rfl, rfl⟩)) (hP.sub [0, 2, 3, 4, 5] rfl) (hD.sub [0, 2, 3, 4, 5] (by decide) rfl) hS
abbrev rm_Pk_numbers : Room := { frames := 6, cells := 2, slots := 8, locals := 88 }
set_option maxHeartbeats 1000000 in
set_option maxRecDepth 100000 in
/-- numbers -/
theorem c_Pk_numbers (l : Launch) (htr : l.stackTraces = false) (g : pc_G) (x : Nat) (qt : Nat) (kp : Nat) (qo : Nat) (qs : Nat) (qc : Nat) (qn : Nat) (qi : Nat) (r : Nat) (n : Nat) (t : Nat → UInt8) (ri : Nat) (ni : Int32) (fi : Nat → Int32) (hn : n ≤ 32768) : pc_X (S := Nat × (Nat → Int32) × Nat × Nat) l y_Pk_numbers (.code y_Pk_numbers prog_1_method_12_code 3 (some .int)) (some .int) rm_Pk_numbers g [(x, .inr (0, [.ref qt, .ref kp, .ref qo, .ref qs, .ref qc, .ref qn, .ref qi])), (qt, .inr (1, [.ref r, .int (nI n)])), (r, .inl (g.2.1, 32768, .inl (bA t))), (qi, .inr (2, [.ref ri, .int ni])), (ri, .inl (g.2.2.1, 32768, .inl fi))] [.ref x] (fun rv u => (rv = .inl (nI u.1) ∧ (∃ ns : List Nat, numsA (bl t n) (n + 1) 0 [] = some ns ∧ u.1 = ns.length ∧ u.1 ≤ 32768 ∧ ∀ j, j < u.1 → u.2.1 j = nI (ns.getD j 0)) ∧ u.2.2.1 = qi ∧ u.2.2.2 = qn) ∨ (rv = .inr "java/lang/IllegalArgumentException" ∧ numsA (bl t n) (n + 1) 0 [] = none ∧ u.2.2.1 = qn ∧ u.2.2.2 = qi)) (fun u => [(x, .inr (0, [.ref qt, .ref kp, .ref qo, .ref qs, .ref qc, .ref u.2.2.1, .ref u.2.2.2])), (qt, .inr (1, [.ref r, .int (nI 0)])), (r, .inl (g.2.1, 32768, .inl (bA t))), (qi, .inr (2, [.ref ri, .int (nI u.1)])), (ri, .inl (g.2.2.1, 32768, .inl u.2.1))]) := by
  refine pc_X.of (cc := prog_1_method_12_code) (nL := 3) (rt := (some .int)) (hh := []) (by decide) tx_wd.plain (by exact Nat.le_of_ble_eq_true rfl) htr ?_
  intro p e s m below meth c A Q hx hb hml hown hE hA htab hR hT hO hP hD ls hl
  have hS : va_S A s.heap s.heap [] := va_S.rf
  have hl : lv_has ls 3 [(0, .ref x)] := hl
  refine va_new (ci := 4) (fs := [.null, .int 0]) (C := R_Reader) (T := F_Reader) (N := 2) hx hb hE.hts in_Reader t_Reader tk_Reader hown (hE.w m_286) (hE.w m_287) (hE.w m_15) hE.2.1 hP hD hS hA rfl (fun j hj => by rcases (show j = 0 ∨ j = 1 by omega) with rfl | rfl <;> rfl) (by exact Nat.le_of_ble_eq_true rfl) (by exact Nat.le_of_ble_eq_true rfl) d_Pk_numbers_0 (fun q_1 H hP hD hS => ?_)
  have hP : va_P g.1 pc_cl [(x, .inr (0, [.ref qt, .ref kp, .ref qo, .ref qs, .ref qc, .ref qn, .ref qi])), (qt, .inr (1, [.ref r, .int (nI n)])), (r, .inl (g.2.1, 32768, .inl (bA t))), (qi, .inr (2, [.ref ri, .int ni])), (ri, .inl (g.2.2.1, 32768, .inl fi)), (q_1, .inr (4, [.null, .int 0]))] H := hP
  have hD : va_D A [(x, .inr (0, [.ref qt, .ref kp, .ref qo, .ref qs, .ref qc, .ref qn, .ref qi])), (qt, .inr (1, [.ref r, .int (nI n)])), (r, .inl (g.2.1, 32768, .inl (bA t))), (qi, .inr (2, [.ref ri, .int ni])), (ri, .inl (g.2.2.1, 32768, .inl fi)), (q_1, .inr (4, [.null, .int 0]))] := hD
  refine W.cs (cells' := 1) (slots' := 2) rfl rfl ?_
  refine lv_dup hx hb d_Pk_numbers_3 rfl ?_
  refine lv_aload_n hx hb d_Pk_numbers_4 rfl (lv_at hl 0 rfl) ?_
  refine va_get (ci := 0) (C := R_Pk) (T := F_Pk) (N := 7) hx hb hE.hts in_Pk hown hE.2.1 hP 0 rfl rfl 0 (by decide) (hE.w m_84) (fun _ h9 => h9) rfl d_Pk_numbers_5 ?_
  refine pc_v (wc := [(q_1, .inr (4, [.null, .int 0]))]) (wr := [(x, .inr (0, [.ref qt, .ref kp, .ref qo, .ref qs, .ref qc, .ref qn, .ref qi])), (qt, .inr (1, [.ref r, .int (nI n)])), (r, .inl (g.2.1, 32768, .inl (bA t))), (qi, .inr (2, [.ref ri, .int ni])), (ri, .inl (g.2.2.1, 32768, .inl fi))]) (cells' := 1) (slots' := 2) hP hD hS hA [5] [0, 1, 2, 3, 4] rfl rfl (by decide) (by decide) rfl rfl (va_runIN (n := 1) (As := [.ref qt]) (rest := [.ref q_1]) ⟨hx, hb, hml, hown, hE.hts⟩ (c_Reader_init l g q_1 qt 0 _) ⟨pc_cn hE m_290 m_15 m_288 (by decide +kernel) ⟨by exact Nat.le_of_ble_eq_true rfl, by exact Nat.le_of_ble_eq_true rfl⟩, rfl, hE.w m_289⟩ (pc_pre hP hD hE hS hA [5] (by decide) rfl [.ref q_1, .ref qt]) rfl rfl hl.1 rfl (lv_room (by exact Nat.le_of_ble_eq_true rfl)) d_Pk_numbers_8 ⟨by exact Nat.le_of_ble_eq_true rfl, by exact Nat.le_of_ble_eq_true rfl⟩) (fun u_2 H locs hw hP hD hS => ?_)
  have hP : va_P g.1 pc_cl [(x, .inr (0, [.ref qt, .ref kp, .ref qo, .ref qs, .ref qc, .ref qn, .ref qi])), (qt, .inr (1, [.ref r, .int (nI n)])), (r, .inl (g.2.1, 32768, .inl (bA t))), (qi, .inr (2, [.ref ri, .int ni])), (ri, .inl (g.2.2.1, 32768, .inl fi)), (q_1, .inr (4, [.ref qt, .int (nI 0)]))] H := hP
  have hD : va_D A [(x, .inr (0, [.ref qt, .ref kp, .ref qo, .ref qs, .ref qc, .ref qn, .ref qi])), (qt, .inr (1, [.ref r, .int (nI n)])), (r, .inl (g.2.1, 32768, .inl (bA t))), (qi, .inr (2, [.ref ri, .int ni])), (ri, .inl (g.2.2.1, 32768, .inl fi)), (q_1, .inr (4, [.ref qt, .int (nI 0)]))] := hD
  refine lv_aload_n hx hb d_Pk_numbers_11 rfl (lv_at hl 0 rfl) ?_
  refine va_get (ci := 0) (C := R_Pk) (T := F_Pk) (N := 7) hx hb hE.hts in_Pk hown hE.2.1 hP 0 rfl rfl 6 (by decide) (hE.w m_90) (fun _ h9 => h9) rfl d_Pk_numbers_12 ?_
  refine pc_i (wc := [(q_1, .inr (4, [.ref qt, .int (nI 0)])), (qt, .inr (1, [.ref r, .int (nI n)])), (r, .inl (g.2.1, 32768, .inl (bA t))), (qi, .inr (2, [.ref ri, .int ni])), (ri, .inl (g.2.2.1, 32768, .inl fi))]) (wr := [(x, .inr (0, [.ref qt, .ref kp, .ref qo, .ref qs, .ref qc, .ref qn, .ref qi]))]) (cells' := 1) (slots' := 2) hP hD hS hA [5, 1, 2, 3, 4] [0] rfl rfl (by decide) (by decide) rfl rfl (va_runVN (n := 1) (As := [.ref qi]) (rest := []) (C := R_Reader) ⟨hx, hb, hml, hown, hE.hts⟩ (c_Reader_takeAllVarints l g q_1 0 qt r n t qi ri ni fi (by omega) (by omega) _) ⟨pc_cn hE m_445 m_15 m_442 (by decide +kernel) ⟨by exact Nat.le_of_ble_eq_true rfl, by exact Nat.le_of_ble_eq_true rfl⟩, hE.w m_444, hE.w ms_20⟩ (pc_preV (ci := 4) (q0 := 5) hP hD hE hS hA [5, 1, 2, 3, 4] (by decide) rfl [.ref qi] rfl rfl) rfl rfl hl.1 rfl (lv_room (by exact Nat.le_of_ble_eq_true rfl)) d_Pk_numbers_15 ⟨by exact Nat.le_of_ble_eq_true rfl, by exact Nat.le_of_ble_eq_true rfl⟩) (fun r_5 u_4 H locs hw hP hD hS => ?_)
  obtain ⟨p2_6, n2_7, f2_8⟩ := u_4
  have hw_9 := hw
  have hw_9 : allRes (numsA (bl t n) (n + 1) 0 []) r_5 n2_7 f2_8 := hw_9
  have hP : va_P g.1 pc_cl [(x, .inr (0, [.ref qt, .ref kp, .ref qo, .ref qs, .ref qc, .ref qn, .ref qi])), (q_1, .inr (4, [.ref qt, .int (nI p2_6)])), (qt, .inr (1, [.ref r, .int (nI n)])), (r, .inl (g.2.1, 32768, .inl (bA t))), (qi, .inr (2, [.ref ri, .int (nI n2_7)])), (ri, .inl (g.2.2.1, 32768, .inl f2_8))] H := hP
  have hD : va_D A [(x, .inr (0, [.ref qt, .ref kp, .ref qo, .ref qs, .ref qc, .ref qn, .ref qi])), (q_1, .inr (4, [.ref qt, .int (nI p2_6)])), (qt, .inr (1, [.ref r, .int (nI n)])), (r, .inl (g.2.1, 32768, .inl (bA t))), (qi, .inr (2, [.ref ri, .int (nI n2_7)])), (ri, .inl (g.2.2.1, 32768, .inl f2_8))] := hD
  rcases hw_9 with ⟨rfl, hg1⟩ | ⟨rfl, hg1⟩
  · skip
    refine pc_ti (y := nI 1) rfl ?_
    refine lv_istore_n (lv' := [(1, .int (nI 1)), (0, .ref x)]) hx hb d_Pk_numbers_18 rfl hl (by decide) rfl (fun ls hl => ?_)
    refine lv_aload_n hx hb d_Pk_numbers_19 rfl (lv_at hl 1 rfl) ?_
    refine va_get (ci := 0) (C := R_Pk) (T := F_Pk) (N := 7) hx hb hE.hts in_Pk hown hE.2.1 hP 0 rfl rfl 0 (by decide) (hE.w m_84) (fun _ h9 => h9) rfl d_Pk_numbers_20 ?_
    refine lv_iconst (v := nI 0) hx hb d_Pk_numbers_23 (by decide) ?_
    refine va_putN (ci := 1) (ty := .int) (C := R_Bytes) (T := F_Bytes) (N := 2) hx hb hE.hts in_Bytes t_Bytes tk_Bytes nn_Bytes hown hE.2.1 hP hD hS 2 rfl rfl 1 (by decide) (hE.w m_40) (fun _ h9 => h9) rfl (by decide +kernel) (by rfl) (by rfl) (by exact Nat.le_of_ble_eq_true rfl) d_Pk_numbers_24 (fun H locs hP hD hS => ?_)
    have hP : va_P g.1 pc_cl [(x, .inr (0, [.ref qt, .ref kp, .ref qo, .ref qs, .ref qc, .ref qn, .ref qi])), (q_1, .inr (4, [.ref qt, .int (nI p2_6)])), (qt, .inr (1, [.ref r, .int (nI 0)])), (r, .inl (g.2.1, 32768, .inl (bA t))), (qi, .inr (2, [.ref ri, .int (nI n2_7)])), (ri, .inl (g.2.2.1, 32768, .inl f2_8))] H := hP
    have hD : va_D A [(x, .inr (0, [.ref qt, .ref kp, .ref qo, .ref qs, .ref qc, .ref qn, .ref qi])), (q_1, .inr (4, [.ref qt, .int (nI p2_6)])), (qt, .inr (1, [.ref r, .int (nI 0)])), (r, .inl (g.2.1, 32768, .inl (bA t))), (qi, .inr (2, [.ref ri, .int (nI n2_7)])), (ri, .inl (g.2.2.1, 32768, .inl f2_8))] := hD
    refine lv_iload_n hx hb d_Pk_numbers_27 rfl (lv_at hl 0 rfl) ?_
    refine pc_zne (tgt := 39) hx hb d_Pk_numbers_28 (by decide) (by omega) (fun h_d => ?_) (fun h_d => absurd h_d (by decide))
    refine lv_aload_n hx hb d_Pk_numbers_39 rfl (lv_at hl 1 rfl) ?_
    refine va_get (ci := 0) (C := R_Pk) (T := F_Pk) (N := 7) hx hb hE.hts in_Pk hown hE.2.1 hP 0 rfl rfl 5 (by decide) (hE.w m_89) (fun _ h9 => h9) rfl d_Pk_numbers_40 ?_
    refine lv_astore_n (lv' := [(2, .ref qn), (1, .int (nI 1)), (0, .ref x)]) hx hb d_Pk_numbers_43 rfl hl (by decide) rfl (fun ls hl => ?_)
    refine lv_aload_n hx hb d_Pk_numbers_44 rfl (lv_at hl 2 rfl) ?_
    refine lv_aload_n hx hb d_Pk_numbers_45 rfl (lv_at hl 2 rfl) ?_
    refine va_get (ci := 0) (C := R_Pk) (T := F_Pk) (N := 7) hx hb hE.hts in_Pk hown hE.2.1 hP 0 rfl rfl 6 (by decide) (hE.w m_90) (fun _ h9 => h9) rfl d_Pk_numbers_46 ?_
    refine va_put (ci := 0) (ty := .object "PackColumns$Ints") (C := R_Pk) (T := F_Pk) (N := 7) hx hb hE.hts in_Pk t_Pk tk_Pk nn_Pk hown hE.2.1 hP hD hS 0 rfl rfl 5 (by decide) (hE.w m_89) (fun _ h9 => h9) rfl (by decide +kernel) (by rfl) (by rfl) (by exact Nat.le_of_ble_eq_true rfl) d_Pk_numbers_49 (fun H locs hP hD hS => ?_)
    have hP : va_P g.1 pc_cl [(x, .inr (0, [.ref qt, .ref kp, .ref qo, .ref qs, .ref qc, .ref qi, .ref qi])), (q_1, .inr (4, [.ref qt, .int (nI p2_6)])), (qt, .inr (1, [.ref r, .int (nI 0)])), (r, .inl (g.2.1, 32768, .inl (bA t))), (qi, .inr (2, [.ref ri, .int (nI n2_7)])), (ri, .inl (g.2.2.1, 32768, .inl f2_8))] H := hP
    have hD : va_D A [(x, .inr (0, [.ref qt, .ref kp, .ref qo, .ref qs, .ref qc, .ref qi, .ref qi])), (q_1, .inr (4, [.ref qt, .int (nI p2_6)])), (qt, .inr (1, [.ref r, .int (nI 0)])), (r, .inl (g.2.1, 32768, .inl (bA t))), (qi, .inr (2, [.ref ri, .int (nI n2_7)])), (ri, .inl (g.2.2.1, 32768, .inl f2_8))] := hD
    refine lv_aload_n hx hb d_Pk_numbers_52 rfl (lv_at hl 2 rfl) ?_
    refine lv_aload_n hx hb d_Pk_numbers_53 rfl (lv_at hl 0 rfl) ?_
    refine va_put (ci := 0) (ty := .object "PackColumns$Ints") (C := R_Pk) (T := F_Pk) (N := 7) hx hb hE.hts in_Pk t_Pk tk_Pk nn_Pk hown hE.2.1 hP hD hS 0 rfl rfl 6 (by decide) (hE.w m_90) (fun _ h9 => h9) rfl (by decide +kernel) (by rfl) (by rfl) (by exact Nat.le_of_ble_eq_true rfl) d_Pk_numbers_54 (fun H locs hP hD hS => ?_)
    have hP : va_P g.1 pc_cl [(x, .inr (0, [.ref qt, .ref kp, .ref qo, .ref qs, .ref qc, .ref qi, .ref qn])), (q_1, .inr (4, [.ref qt, .int (nI p2_6)])), (qt, .inr (1, [.ref r, .int (nI 0)])), (r, .inl (g.2.1, 32768, .inl (bA t))), (qi, .inr (2, [.ref ri, .int (nI n2_7)])), (ri, .inl (g.2.2.1, 32768, .inl f2_8))] H := hP
    have hD : va_D A [(x, .inr (0, [.ref qt, .ref kp, .ref qo, .ref qs, .ref qc, .ref qi, .ref qn])), (q_1, .inr (4, [.ref qt, .int (nI p2_6)])), (qt, .inr (1, [.ref r, .int (nI 0)])), (r, .inl (g.2.1, 32768, .inl (bA t))), (qi, .inr (2, [.ref ri, .int (nI n2_7)])), (ri, .inl (g.2.2.1, 32768, .inl f2_8))] := hD
    refine lv_aload_n hx hb d_Pk_numbers_57 rfl (lv_at hl 2 rfl) ?_
    refine va_get (ci := 0) (C := R_Pk) (T := F_Pk) (N := 7) hx hb hE.hts in_Pk hown hE.2.1 hP 0 rfl rfl 5 (by decide) (hE.w m_89) (fun _ h9 => h9) rfl d_Pk_numbers_58 ?_
    refine va_getN (ci := 2) (C := R_Ints) (T := F_Ints) (N := 2) hx hb hE.hts in_Ints hown hE.2.1 hP 4 rfl rfl 1 (by decide) (hE.w m_77) (fun _ h9 => h9) rfl d_Pk_numbers_61 ?_
    refine W.widen (k := rm_Pk_numbers.cells) (n := rm_Pk_numbers.slots) (by exact Nat.le_of_ble_eq_true rfl) (by exact Nat.le_of_ble_eq_true rfl) ?_
    exact hR _ _ 64 _ (nI n2_7) (n2_7, f2_8, qi, qn) d_Pk_numbers_64 rfl (Or.inl (⟨rfl, hg1, rfl, rfl⟩)) (hP.sub [0, 2, 3, 4, 5] rfl) (hD.sub [0, 2, 3, 4, 5] (by decide) rfl) hS
  · skip
    refine pc_ti (y := nI 0) rfl ?_
    refine lv_istore_n (lv' := [(1, .int (nI 0)), (0, .ref x)]) hx hb d_Pk_numbers_18 rfl hl (by decide) rfl (fun ls hl => ?_)
    refine lv_aload_n hx hb d_Pk_numbers_19 rfl (lv_at hl 1 rfl) ?_
    refine va_get (ci := 0) (C := R_Pk) (T := F_Pk) (N := 7) hx hb hE.hts in_Pk hown hE.2.1 hP 0 rfl rfl 0 (by decide) (hE.w m_84) (fun _ h9 => h9) rfl d_Pk_numbers_20 ?_
    refine lv_iconst (v := nI 0) hx hb d_Pk_numbers_23 (by decide) ?_
    refine va_putN (ci := 1) (ty := .int) (C := R_Bytes) (T := F_Bytes) (N := 2) hx hb hE.hts in_Bytes t_Bytes tk_Bytes nn_Bytes hown hE.2.1 hP hD hS 2 rfl rfl 1 (by decide) (hE.w m_40) (fun _ h9 => h9) rfl (by decide +kernel) (by rfl) (by rfl) (by exact Nat.le_of_ble_eq_true rfl) d_Pk_numbers_24 (fun H locs hP hD hS => ?_)
    have hP : va_P g.1 pc_cl [(x, .inr (0, [.ref qt, .ref kp, .ref qo, .ref qs, .ref qc, .ref qn, .ref qi])), (q_1, .inr (4, [.ref qt, .int (nI p2_6)])), (qt, .inr (1, [.ref r, .int (nI 0)])), (r, .inl (g.2.1, 32768, .inl (bA t))), (qi, .inr (2, [.ref ri, .int (nI n2_7)])), (ri, .inl (g.2.2.1, 32768, .inl f2_8))] H := hP
    have hD : va_D A [(x, .inr (0, [.ref qt, .ref kp, .ref qo, .ref qs, .ref qc, .ref qn, .ref qi])), (q_1, .inr (4, [.ref qt, .int (nI p2_6)])), (qt, .inr (1, [.ref r, .int (nI 0)])), (r, .inl (g.2.1, 32768, .inl (bA t))), (qi, .inr (2, [.ref ri, .int (nI n2_7)])), (ri, .inl (g.2.2.1, 32768, .inl f2_8))] := hD
    refine lv_iload_n hx hb d_Pk_numbers_27 rfl (lv_at hl 0 rfl) ?_
    refine pc_zne (tgt := 39) hx hb d_Pk_numbers_28 (by decide) (by omega) (fun h_d => absurd h_d (fun k9 => k9 rfl)) (fun h_d => ?_)
    exact hT "java/lang/IllegalArgumentException" 57 59 _ _ 1 2 31 _ (n2_7, f2_8, qn, qi) (by decide) m_197 m_10 ta_1 (hl.1.trans hml.symm) d_Pk_numbers_31 d_Pk_numbers_34 d_Pk_numbers_35 d_Pk_numbers_38 (by decide) ⟨by exact Nat.le_of_ble_eq_true rfl, by exact Nat.le_of_ble_eq_true rfl, by exact Nat.le_of_ble_eq_true rfl, by exact Nat.le_of_ble_eq_true rfl⟩ (Or.inr (⟨rfl, hg1, rfl, rfl⟩)) (hP.sub [0, 2, 3, 4, 5] rfl) (hD.sub [0, 2, 3, 4, 5] (by decide) rfl) hS
abbrev rm_Pk_code : Room := { frames := 6, cells := 1, slots := 6, locals := 81 }
set_option maxHeartbeats 1000000 in
set_option maxRecDepth 100000 in
/-- code -/
theorem c_Pk_code (l : Launch) (htr : l.stackTraces = false) (g : pc_G) (x : Nat) (qt : Nat) (kp : Nat) (qo : Nat) (qs : Nat) (qc : Nat) (qn : Nat) (qi : Nat) (rc : Nat) (n : Nat) (f : Nat → Int32) (k : Int32) (hn : n ≤ 32768) : pc_X (S := Unit) l y_Pk_code (.code y_Pk_code prog_1_method_7_code 2 (some .int)) (some .int) rm_Pk_code g [(x, .inr (0, [.ref qt, .ref kp, .ref qo, .ref qs, .ref qc, .ref qn, .ref qi])), (qc, .inr (2, [.ref rc, .int (nI n)])), (rc, .inl (g.2.2.1, 32768, .inl f))] [.ref x, .int k] (fun rv _ => (rv = .inl (f (iN k)) ∧ ¬ k < 0 ∧ iN k < n) ∨ (rv = .inr "java/util/NoSuchElementException" ∧ (k < 0 ∨ n ≤ iN k))) (fun _ => [(x, .inr (0, [.ref qt, .ref kp, .ref qo, .ref qs, .ref qc, .ref qn, .ref qi])), (qc, .inr (2, [.ref rc, .int (nI n)])), (rc, .inl (g.2.2.1, 32768, .inl f))]) := by
  refine pc_X.of (cc := prog_1_method_7_code) (nL := 2) (rt := (some .int)) (hh := []) (by decide) tx_wd.plain (by exact Nat.le_of_ble_eq_true rfl) htr ?_
  intro p e s m below meth c A Q hx hb hml hown hE hA htab hR hT hO hP hD ls hl
  have hS : va_S A s.heap s.heap [] := va_S.rf
  have hl : lv_has ls 2 [(0, .ref x), (1, .int k)] := hl
  refine lv_iload_n hx hb d_Pk_code_0 rfl (lv_at hl 1 rfl) ?_
  refine lv_if_lt (tgt := 15) hx hb d_Pk_code_1 (by decide) (fun h_1 => ?_) (fun h_1 => ?_)
  · skip
    exact hT "java/util/NoSuchElementException" 83 85 _ _ 0 0 15 _ () (by decide) m_380 m_18 ta_2 (hl.1.trans hml.symm) d_Pk_code_15 d_Pk_code_18 d_Pk_code_19 d_Pk_code_22 (by decide) ⟨by exact Nat.le_of_ble_eq_true rfl, by exact Nat.le_of_ble_eq_true rfl, by exact Nat.le_of_ble_eq_true rfl, by exact Nat.le_of_ble_eq_true rfl⟩ (Or.inr (⟨rfl, by first | exact Or.inl (by assumption) | exact Or.inr (by omega)⟩)) (hP.sub [0, 1, 2] rfl) (hD.sub [0, 1, 2] (by decide) rfl) hS
  · skip
    have hk31 := iN_lt h_1
    have hl : lv_has ls 2 [(0, .ref x), (1, .int (nI (iN k)))] := by rw [← show k = nI (iN k) from (nI_iN k).symm]; exact hl
    refine lv_iload_n hx hb d_Pk_code_4 rfl (lv_at hl 1 rfl) ?_
    refine lv_aload_n hx hb d_Pk_code_5 rfl (lv_at hl 0 rfl) ?_
    refine va_get (ci := 0) (C := R_Pk) (T := F_Pk) (N := 7) hx hb hE.hts in_Pk hown hE.2.1 hP 0 rfl rfl 4 (by decide) (hE.w m_88) (fun _ h9 => h9) rfl d_Pk_code_6 ?_
    refine va_getN (ci := 2) (C := R_Ints) (T := F_Ints) (N := 2) hx hb hE.hts in_Ints hown hE.2.1 hP 1 rfl rfl 1 (by decide) (hE.w m_77) (fun _ h9 => h9) rfl d_Pk_code_9 ?_
    refine pc_jlt (tgt := 23) hx hb d_Pk_code_12 (by decide) (by omega) (by omega) (fun h_2 => ?_) (fun h_2 => ?_)
    · skip
      refine lv_aload_n hx hb d_Pk_code_23 rfl (lv_at hl 0 rfl) ?_
      refine va_get (ci := 0) (C := R_Pk) (T := F_Pk) (N := 7) hx hb hE.hts in_Pk hown hE.2.1 hP 0 rfl rfl 4 (by decide) (hE.w m_88) (fun _ h9 => h9) rfl d_Pk_code_24 ?_
      refine va_getN (ci := 2) (C := R_Ints) (T := F_Ints) (N := 2) hx hb hE.hts in_Ints hown hE.2.1 hP 1 rfl rfl 0 (by decide) (hE.w m_75) (fun _ h9 => h9) rfl d_Pk_code_27 ?_
      refine lv_iload_n hx hb d_Pk_code_30 rfl (lv_at hl 1 rfl) ?_
      refine pc_iald hx hb hE.2.1 hP 2 1 rfl rfl (by omega) (by omega) d_Pk_code_31 ?_
      refine W.widen (k := rm_Pk_code.cells) (n := rm_Pk_code.slots) (by exact Nat.le_of_ble_eq_true rfl) (by exact Nat.le_of_ble_eq_true rfl) ?_
      exact hR _ _ 32 _ (f (iN k)) () d_Pk_code_32 rfl (Or.inl (⟨rfl, iN_pos hk31, by omega⟩)) (hP.sub [0, 1, 2] rfl) (hD.sub [0, 1, 2] (by decide) rfl) hS
    · skip
      exact hT "java/util/NoSuchElementException" 83 85 _ _ 0 0 15 _ () (by decide) m_380 m_18 ta_2 (hl.1.trans hml.symm) d_Pk_code_15 d_Pk_code_18 d_Pk_code_19 d_Pk_code_22 (by decide) ⟨by exact Nat.le_of_ble_eq_true rfl, by exact Nat.le_of_ble_eq_true rfl, by exact Nat.le_of_ble_eq_true rfl, by exact Nat.le_of_ble_eq_true rfl⟩ (Or.inr (⟨rfl, by first | exact Or.inl (by assumption) | exact Or.inr (by omega)⟩)) (hP.sub [0, 1, 2] rfl) (hD.sub [0, 1, 2] (by decide) rfl) hS
abbrev rm_Pk_number : Room := { frames := 6, cells := 1, slots := 6, locals := 81 }
set_option maxHeartbeats 1000000 in
set_option maxRecDepth 100000 in
/-- number -/
theorem c_Pk_number (l : Launch) (htr : l.stackTraces = false) (g : pc_G) (x : Nat) (qt : Nat) (kp : Nat) (qo : Nat) (qs : Nat) (qc : Nat) (qn : Nat) (qi : Nat) (rc : Nat) (n : Nat) (f : Nat → Int32) (k : Int32) (hn : n ≤ 32768) : pc_X (S := Unit) l y_Pk_number (.code y_Pk_number prog_1_method_13_code 2 (some .int)) (some .int) rm_Pk_number g [(x, .inr (0, [.ref qt, .ref kp, .ref qo, .ref qs, .ref qc, .ref qn, .ref qi])), (qn, .inr (2, [.ref rc, .int (nI n)])), (rc, .inl (g.2.2.1, 32768, .inl f))] [.ref x, .int k] (fun rv _ => (rv = .inl (f (iN k)) ∧ ¬ k < 0 ∧ iN k < n) ∨ (rv = .inr "java/util/NoSuchElementException" ∧ (k < 0 ∨ n ≤ iN k))) (fun _ => [(x, .inr (0, [.ref qt, .ref kp, .ref qo, .ref qs, .ref qc, .ref qn, .ref qi])), (qn, .inr (2, [.ref rc, .int (nI n)])), (rc, .inl (g.2.2.1, 32768, .inl f))]) := by
  refine pc_X.of (cc := prog_1_method_13_code) (nL := 2) (rt := (some .int)) (hh := []) (by decide) tx_wd.plain (by exact Nat.le_of_ble_eq_true rfl) htr ?_
  intro p e s m below meth c A Q hx hb hml hown hE hA htab hR hT hO hP hD ls hl
  have hS : va_S A s.heap s.heap [] := va_S.rf
  have hl : lv_has ls 2 [(0, .ref x), (1, .int k)] := hl
  refine lv_iload_n hx hb d_Pk_number_0 rfl (lv_at hl 1 rfl) ?_
  refine lv_if_lt (tgt := 15) hx hb d_Pk_number_1 (by decide) (fun h_1 => ?_) (fun h_1 => ?_)
  · skip
    exact hT "java/util/NoSuchElementException" 83 85 _ _ 0 0 15 _ () (by decide) m_380 m_18 ta_2 (hl.1.trans hml.symm) d_Pk_number_15 d_Pk_number_18 d_Pk_number_19 d_Pk_number_22 (by decide) ⟨by exact Nat.le_of_ble_eq_true rfl, by exact Nat.le_of_ble_eq_true rfl, by exact Nat.le_of_ble_eq_true rfl, by exact Nat.le_of_ble_eq_true rfl⟩ (Or.inr (⟨rfl, by first | exact Or.inl (by assumption) | exact Or.inr (by omega)⟩)) (hP.sub [0, 1, 2] rfl) (hD.sub [0, 1, 2] (by decide) rfl) hS
  · skip
    have hk31 := iN_lt h_1
    have hl : lv_has ls 2 [(0, .ref x), (1, .int (nI (iN k)))] := by rw [← show k = nI (iN k) from (nI_iN k).symm]; exact hl
    refine lv_iload_n hx hb d_Pk_number_4 rfl (lv_at hl 1 rfl) ?_
    refine lv_aload_n hx hb d_Pk_number_5 rfl (lv_at hl 0 rfl) ?_
    refine va_get (ci := 0) (C := R_Pk) (T := F_Pk) (N := 7) hx hb hE.hts in_Pk hown hE.2.1 hP 0 rfl rfl 5 (by decide) (hE.w m_89) (fun _ h9 => h9) rfl d_Pk_number_6 ?_
    refine va_getN (ci := 2) (C := R_Ints) (T := F_Ints) (N := 2) hx hb hE.hts in_Ints hown hE.2.1 hP 1 rfl rfl 1 (by decide) (hE.w m_77) (fun _ h9 => h9) rfl d_Pk_number_9 ?_
    refine pc_jlt (tgt := 23) hx hb d_Pk_number_12 (by decide) (by omega) (by omega) (fun h_2 => ?_) (fun h_2 => ?_)
    · skip
      refine lv_aload_n hx hb d_Pk_number_23 rfl (lv_at hl 0 rfl) ?_
      refine va_get (ci := 0) (C := R_Pk) (T := F_Pk) (N := 7) hx hb hE.hts in_Pk hown hE.2.1 hP 0 rfl rfl 5 (by decide) (hE.w m_89) (fun _ h9 => h9) rfl d_Pk_number_24 ?_
      refine va_getN (ci := 2) (C := R_Ints) (T := F_Ints) (N := 2) hx hb hE.hts in_Ints hown hE.2.1 hP 1 rfl rfl 0 (by decide) (hE.w m_75) (fun _ h9 => h9) rfl d_Pk_number_27 ?_
      refine lv_iload_n hx hb d_Pk_number_30 rfl (lv_at hl 1 rfl) ?_
      refine pc_iald hx hb hE.2.1 hP 2 1 rfl rfl (by omega) (by omega) d_Pk_number_31 ?_
      refine W.widen (k := rm_Pk_number.cells) (n := rm_Pk_number.slots) (by exact Nat.le_of_ble_eq_true rfl) (by exact Nat.le_of_ble_eq_true rfl) ?_
      exact hR _ _ 32 _ (f (iN k)) () d_Pk_number_32 rfl (Or.inl (⟨rfl, iN_pos hk31, by omega⟩)) (hP.sub [0, 1, 2] rfl) (hD.sub [0, 1, 2] (by decide) rfl) hS
    · skip
      exact hT "java/util/NoSuchElementException" 83 85 _ _ 0 0 15 _ () (by decide) m_380 m_18 ta_2 (hl.1.trans hml.symm) d_Pk_number_15 d_Pk_number_18 d_Pk_number_19 d_Pk_number_22 (by decide) ⟨by exact Nat.le_of_ble_eq_true rfl, by exact Nat.le_of_ble_eq_true rfl, by exact Nat.le_of_ble_eq_true rfl, by exact Nat.le_of_ble_eq_true rfl⟩ (Or.inr (⟨rfl, by first | exact Or.inl (by assumption) | exact Or.inr (by omega)⟩)) (hP.sub [0, 1, 2] rfl) (hD.sub [0, 1, 2] (by decide) rfl) hS
abbrev rm_Pk_checksum : Room := { frames := 6, cells := 1, slots := 6, locals := 81 }
set_option maxHeartbeats 1000000 in
set_option maxRecDepth 100000 in
/-- checksum -/
theorem c_Pk_checksum (l : Launch) (htr : l.stackTraces = false) (g : pc_G) (x : Nat) (qt : Nat) (kp : Nat) (qo : Nat) (qs : Nat) (qc : Nat) (qn : Nat) (qi : Nat) (r : Nat) (n : Nat) (t : Nat → UInt8) (k : Int32) (hn : n ≤ 32768) : pc_X (S := Unit) l y_Pk_checksum (.code y_Pk_checksum prog_1_method_14_code 2 (some .int)) (some .int) rm_Pk_checksum g [(x, .inr (0, [.ref qt, .ref kp, .ref qo, .ref qs, .ref qc, .ref qn, .ref qi])), (qo, .inr (1, [.ref r, .int (nI n)])), (r, .inl (g.2.1, 32768, .inl (bA t)))] [.ref x, .int k] (fun rv _ => (rv = .inl (cF t (iN k) ^^^ (-1)) ∧ ¬ k < 0 ∧ iN k ≤ n) ∨ (rv = .inr "java/lang/IllegalArgumentException" ∧ (k < 0 ∨ n < iN k))) (fun _ => [(x, .inr (0, [.ref qt, .ref kp, .ref qo, .ref qs, .ref qc, .ref qn, .ref qi])), (qo, .inr (1, [.ref r, .int (nI n)])), (r, .inl (g.2.1, 32768, .inl (bA t)))]) := by
  refine pc_X.of (cc := prog_1_method_14_code) (nL := 2) (rt := (some .int)) (hh := []) (by decide) tx_wd.plain (by exact Nat.le_of_ble_eq_true rfl) htr ?_
  intro p e s m below meth c A Q hx hb hml hown hE hA htab hR hT hO hP hD ls hl
  have hS : va_S A s.heap s.heap [] := va_S.rf
  have hl : lv_has ls 2 [(0, .ref x), (1, .int k)] := hl
  refine lv_iload_n hx hb d_Pk_checksum_0 rfl (lv_at hl 1 rfl) ?_
  refine lv_if_lt (tgt := 15) hx hb d_Pk_checksum_1 (by decide) (fun h_1 => ?_) (fun h_1 => ?_)
  · skip
    exact hT "java/lang/IllegalArgumentException" 57 59 _ _ 0 0 15 _ () (by decide) m_197 m_10 ta_1 (hl.1.trans hml.symm) d_Pk_checksum_15 d_Pk_checksum_18 d_Pk_checksum_19 d_Pk_checksum_22 (by decide) ⟨by exact Nat.le_of_ble_eq_true rfl, by exact Nat.le_of_ble_eq_true rfl, by exact Nat.le_of_ble_eq_true rfl, by exact Nat.le_of_ble_eq_true rfl⟩ (Or.inr (⟨rfl, by first | exact Or.inl (by assumption) | exact Or.inr (by omega)⟩)) (hP.sub [0, 1, 2] rfl) (hD.sub [0, 1, 2] (by decide) rfl) hS
  · skip
    have hk31 := iN_lt h_1
    have hl : lv_has ls 2 [(0, .ref x), (1, .int (nI (iN k)))] := by rw [← show k = nI (iN k) from (nI_iN k).symm]; exact hl
    refine lv_iload_n hx hb d_Pk_checksum_4 rfl (lv_at hl 1 rfl) ?_
    refine lv_aload_n hx hb d_Pk_checksum_5 rfl (lv_at hl 0 rfl) ?_
    refine va_get (ci := 0) (C := R_Pk) (T := F_Pk) (N := 7) hx hb hE.hts in_Pk hown hE.2.1 hP 0 rfl rfl 2 (by decide) (hE.w m_86) (fun _ h9 => h9) rfl d_Pk_checksum_6 ?_
    refine va_getN (ci := 1) (C := R_Bytes) (T := F_Bytes) (N := 2) hx hb hE.hts in_Bytes hown hE.2.1 hP 1 rfl rfl 1 (by decide) (hE.w m_40) (fun _ h9 => h9) rfl d_Pk_checksum_9 ?_
    refine pc_jle (tgt := 23) hx hb d_Pk_checksum_12 (by decide) (by omega) (by omega) (fun h_2 => ?_) (fun h_2 => ?_)
    · skip
      refine lv_iload_n hx hb d_Pk_checksum_23 rfl (lv_at hl 1 rfl) ?_
      refine lv_aload_n hx hb d_Pk_checksum_24 rfl (lv_at hl 0 rfl) ?_
      refine va_get (ci := 0) (C := R_Pk) (T := F_Pk) (N := 7) hx hb hE.hts in_Pk hown hE.2.1 hP 0 rfl rfl 2 (by decide) (hE.w m_86) (fun _ h9 => h9) rfl d_Pk_checksum_25 ?_
      refine pc_i (wc := [(qo, .inr (1, [.ref r, .int (nI n)])), (r, .inl (g.2.1, 32768, .inl (bA t)))]) (wr := [(x, .inr (0, [.ref qt, .ref kp, .ref qo, .ref qs, .ref qc, .ref qn, .ref qi]))]) (cells' := 0) (slots' := 0) hP hD hS hA [1, 2] [0] rfl rfl (by decide) (by decide) rfl rfl (va_runSN (n := 2) (As := [.int (nI (iN k)), .ref qo]) (rest := []) ⟨hx, hb, hml, hown, hE.hts⟩ (c_Crc_ofFirst l g (iN k) qo r n t (by omega) _) ⟨pc_cn hE m_463 m_19 m_461 (by decide +kernel) ⟨by exact Nat.le_of_ble_eq_true rfl, by exact Nat.le_of_ble_eq_true rfl⟩, hE.w m_462, trivial⟩ (pc_pre hP hD hE hS hA [1, 2] (by decide) rfl [.int (nI (iN k)), .ref qo]) rfl rfl hl.1 rfl (lv_room (by exact Nat.le_of_ble_eq_true rfl)) d_Pk_checksum_28 ⟨by exact Nat.le_of_ble_eq_true rfl, by exact Nat.le_of_ble_eq_true rfl⟩) (fun r_4 u_3 H locs hw hP hD hS => ?_)
      obtain rfl := hw
      have hP : va_P g.1 pc_cl [(x, .inr (0, [.ref qt, .ref kp, .ref qo, .ref qs, .ref qc, .ref qn, .ref qi])), (qo, .inr (1, [.ref r, .int (nI n)])), (r, .inl (g.2.1, 32768, .inl (bA t)))] H := hP
      have hD : va_D A [(x, .inr (0, [.ref qt, .ref kp, .ref qo, .ref qs, .ref qc, .ref qn, .ref qi])), (qo, .inr (1, [.ref r, .int (nI n)])), (r, .inl (g.2.1, 32768, .inl (bA t)))] := hD
      refine W.widen (k := rm_Pk_checksum.cells) (n := rm_Pk_checksum.slots) (by exact Nat.le_of_ble_eq_true rfl) (by exact Nat.le_of_ble_eq_true rfl) ?_
      exact hR _ _ 31 _ (cF t (iN k) ^^^ (-1)) () d_Pk_checksum_31 rfl (Or.inl (⟨rfl, iN_pos hk31, by omega⟩)) (hP.sub [0, 1, 2] rfl) (hD.sub [0, 1, 2] (by decide) rfl) hS
    · skip
      exact hT "java/lang/IllegalArgumentException" 57 59 _ _ 0 0 15 _ () (by decide) m_197 m_10 ta_1 (hl.1.trans hml.symm) d_Pk_checksum_15 d_Pk_checksum_18 d_Pk_checksum_19 d_Pk_checksum_22 (by decide) ⟨by exact Nat.le_of_ble_eq_true rfl, by exact Nat.le_of_ble_eq_true rfl, by exact Nat.le_of_ble_eq_true rfl, by exact Nat.le_of_ble_eq_true rfl⟩ (Or.inr (⟨rfl, by first | exact Or.inl (by assumption) | exact Or.inr (by omega)⟩)) (hP.sub [0, 1, 2] rfl) (hD.sub [0, 1, 2] (by decide) rfl) hS
abbrev rm_Pk_zigzag : Room := { frames := 6, cells := 1, slots := 6, locals := 81 }
set_option maxHeartbeats 1000000 in
set_option maxRecDepth 100000 in
/-- zigzag -/
theorem c_Pk_zigzag (l : Launch) (htr : l.stackTraces = false) (g : pc_G) (x : Nat) (k : Int32) : pc_X (S := Unit) l y_Pk_zigzag (.code y_Pk_zigzag prog_1_method_10_code 2 (some .int)) (some .int) rm_Pk_zigzag g [] [.ref x, .int k] (fun rv _ => (rv = .inl (nI 2 * k) ∧ ¬ k < (-1073741823) ∧ k ≤ nI 1073741823 ∧ ¬ k < 0) ∨ (rv = .inl (((-2) * k) - nI 1) ∧ ¬ k < (-1073741823) ∧ k ≤ nI 1073741823 ∧ k < 0) ∨ (rv = .inr "java/lang/IllegalArgumentException" ∧ (k < (-1073741823) ∨ ¬ k ≤ nI 1073741823))) (fun _ => []) := by
  refine pc_X.of (cc := prog_1_method_10_code) (nL := 2) (rt := (some .int)) (hh := []) (by decide) tx_wd.plain (by exact Nat.le_of_ble_eq_true rfl) htr ?_
  intro p e s m below meth c A Q hx hb hml hown hE hA htab hR hT hO hP hD ls hl
  have hS : va_S A s.heap s.heap [] := va_S.rf
  have hl : lv_has ls 2 [(0, .ref x), (1, .int k)] := hl
  refine lv_iload_n hx hb d_Pk_zigzag_0 rfl (lv_at hl 1 rfl) ?_
  refine lv_ldc hx hb hown (hE.w m_426) d_Pk_zigzag_1 ?_
  refine lv_icmp_lt (tgt := 12) hx hb d_Pk_zigzag_3 (by decide) (fun h_1 => ?_) (fun h_1 => ?_)
  · skip
    exact hT "java/lang/IllegalArgumentException" 57 59 _ _ 0 0 12 _ () (by decide) m_197 m_10 ta_1 (hl.1.trans hml.symm) d_Pk_zigzag_12 d_Pk_zigzag_15 d_Pk_zigzag_16 d_Pk_zigzag_19 (by decide) ⟨by exact Nat.le_of_ble_eq_true rfl, by exact Nat.le_of_ble_eq_true rfl, by exact Nat.le_of_ble_eq_true rfl, by exact Nat.le_of_ble_eq_true rfl⟩ (Or.inr (Or.inr (⟨rfl, by first | exact Or.inl (by assumption) | exact Or.inr (by assumption)⟩))) (hP.sub [] rfl) (hD.sub [] (by decide) rfl) hS
  · skip
    refine lv_iload_n hx hb d_Pk_zigzag_6 rfl (lv_at hl 1 rfl) ?_
    refine lv_ldc hx hb hown (hE.w m_427) d_Pk_zigzag_7 ?_
    refine pc_ti (y := nI 1073741823) (by decide) ?_
    refine lv_icmp_le (tgt := 20) hx hb d_Pk_zigzag_9 (by decide) (fun h_2 => ?_) (fun h_2 => ?_)
    · skip
      refine lv_iload_n hx hb d_Pk_zigzag_20 rfl (lv_at hl 1 rfl) ?_
      refine lv_if_lt (tgt := 30) hx hb d_Pk_zigzag_21 (by decide) (fun h_3 => ?_) (fun h_3 => ?_)
      · skip
        refine lv_bipush (v := (-2)) hx hb d_Pk_zigzag_30 (by decide) ?_
        refine lv_iload_n hx hb d_Pk_zigzag_32 rfl (lv_at hl 1 rfl) ?_
        refine lv_imul hx hb d_Pk_zigzag_33 ?_
        refine lv_iconst (v := nI 1) hx hb d_Pk_zigzag_34 (by decide) ?_
        refine lv_isub hx hb d_Pk_zigzag_35 ?_
        refine W.widen (k := rm_Pk_zigzag.cells) (n := rm_Pk_zigzag.slots) (by exact Nat.le_of_ble_eq_true rfl) (by exact Nat.le_of_ble_eq_true rfl) ?_
        exact hR _ _ 36 _ (((-2) * k) - (nI 1)) () d_Pk_zigzag_36 rfl (Or.inr (Or.inl (⟨rfl, by assumption, by assumption, by assumption⟩))) (hP.sub [] rfl) (hD.sub [] (by decide) rfl) hS
      · skip
        refine lv_iconst (v := nI 2) hx hb d_Pk_zigzag_24 (by decide) ?_
        refine lv_iload_n hx hb d_Pk_zigzag_25 rfl (lv_at hl 1 rfl) ?_
        refine lv_imul hx hb d_Pk_zigzag_26 ?_
        refine lv_goto (tgt := 36) hx hb d_Pk_zigzag_27 (by decide) ?_
        refine W.widen (k := rm_Pk_zigzag.cells) (n := rm_Pk_zigzag.slots) (by exact Nat.le_of_ble_eq_true rfl) (by exact Nat.le_of_ble_eq_true rfl) ?_
        exact hR _ _ 36 _ ((nI 2) * k) () d_Pk_zigzag_36 rfl (Or.inl (⟨rfl, by assumption, by assumption, by assumption⟩)) (hP.sub [] rfl) (hD.sub [] (by decide) rfl) hS
    · skip
      exact hT "java/lang/IllegalArgumentException" 57 59 _ _ 0 0 12 _ () (by decide) m_197 m_10 ta_1 (hl.1.trans hml.symm) d_Pk_zigzag_12 d_Pk_zigzag_15 d_Pk_zigzag_16 d_Pk_zigzag_19 (by decide) ⟨by exact Nat.le_of_ble_eq_true rfl, by exact Nat.le_of_ble_eq_true rfl, by exact Nat.le_of_ble_eq_true rfl, by exact Nat.le_of_ble_eq_true rfl⟩ (Or.inr (Or.inr (⟨rfl, by first | exact Or.inl (by assumption) | exact Or.inr (by assumption)⟩))) (hP.sub [] rfl) (hD.sub [] (by decide) rfl) hS
abbrev rm_Pk_unzigzag : Room := { frames := 6, cells := 1, slots := 6, locals := 81 }
set_option maxHeartbeats 1000000 in
set_option maxRecDepth 100000 in
/-- unzigzag -/
theorem c_Pk_unzigzag (l : Launch) (htr : l.stackTraces = false) (g : pc_G) (x : Nat) (k : Int32) : pc_X (S := Unit) l y_Pk_unzigzag (.code y_Pk_unzigzag prog_1_method_11_code 2 (some .int)) (some .int) rm_Pk_unzigzag g [] [.ref x, .int k] (fun rv _ => (rv = .inl (nI (iN k / 2)) ∧ ¬ k < 0 ∧ iN k % 2 = 0) ∨ (rv = .inl ((-(nI (iN k / 2))) - nI 1) ∧ ¬ k < 0 ∧ iN k % 2 ≠ 0) ∨ (rv = .inr "java/lang/IllegalArgumentException" ∧ k < 0)) (fun _ => []) := by
  refine pc_X.of (cc := prog_1_method_11_code) (nL := 2) (rt := (some .int)) (hh := []) (by decide) tx_wd.plain (by exact Nat.le_of_ble_eq_true rfl) htr ?_
  intro p e s m below meth c A Q hx hb hml hown hE hA htab hR hT hO hP hD ls hl
  have hS : va_S A s.heap s.heap [] := va_S.rf
  have hl : lv_has ls 2 [(0, .ref x), (1, .int k)] := hl
  refine lv_iload_n hx hb d_Pk_unzigzag_0 rfl (lv_at hl 1 rfl) ?_
  refine lv_if_ge (tgt := 12) hx hb d_Pk_unzigzag_1 (by decide) (fun h_1 => ?_) (fun h_1 => ?_)
  · skip
    have hk31 := iN_lt (fun z9 => absurd h_1 (Int32.not_le.mpr z9))
    have hl : lv_has ls 2 [(0, .ref x), (1, .int (nI (iN k)))] := by rw [← show k = nI (iN k) from (nI_iN k).symm]; exact hl
    refine lv_iload_n hx hb d_Pk_unzigzag_12 rfl (lv_at hl 1 rfl) ?_
    refine lv_iconst (v := nI 2) hx hb d_Pk_unzigzag_13 (by decide) ?_
    refine lv_irem hx hb d_Pk_unzigzag_14 (by decide) ?_
    refine pc_ti (y := nI ((iN k) % 2)) (pk_rem (by omega) (by omega) (by omega)) ?_
    refine pc_zne (tgt := 24) hx hb d_Pk_unzigzag_15 (by decide) (by omega) (fun h_2 => ?_) (fun h_2 => ?_)
    · skip
      refine lv_iload_n hx hb d_Pk_unzigzag_24 rfl (lv_at hl 1 rfl) ?_
      refine lv_iconst (v := nI 2) hx hb d_Pk_unzigzag_25 (by decide) ?_
      refine lv_idiv hx hb d_Pk_unzigzag_26 (by decide) ?_
      refine pc_ti (y := nI ((iN k) / 2)) (pk_div (by omega) (by omega) (by omega)) ?_
      refine lv_ineg hx hb d_Pk_unzigzag_27 ?_
      refine lv_iconst (v := nI 1) hx hb d_Pk_unzigzag_28 (by decide) ?_
      refine lv_isub hx hb d_Pk_unzigzag_29 ?_
      refine W.widen (k := rm_Pk_unzigzag.cells) (n := rm_Pk_unzigzag.slots) (by exact Nat.le_of_ble_eq_true rfl) (by exact Nat.le_of_ble_eq_true rfl) ?_
      exact hR _ _ 30 _ ((-(nI ((iN k) / 2))) - (nI 1)) () d_Pk_unzigzag_30 rfl (Or.inr (Or.inl (⟨rfl, iN_pos hk31, by omega⟩))) (hP.sub [] rfl) (hD.sub [] (by decide) rfl) hS
    · skip
      refine lv_iload_n hx hb d_Pk_unzigzag_18 rfl (lv_at hl 1 rfl) ?_
      refine lv_iconst (v := nI 2) hx hb d_Pk_unzigzag_19 (by decide) ?_
      refine lv_idiv hx hb d_Pk_unzigzag_20 (by decide) ?_
      refine pc_ti (y := nI ((iN k) / 2)) (pk_div (by omega) (by omega) (by omega)) ?_
      refine lv_goto (tgt := 30) hx hb d_Pk_unzigzag_21 (by decide) ?_
      refine W.widen (k := rm_Pk_unzigzag.cells) (n := rm_Pk_unzigzag.slots) (by exact Nat.le_of_ble_eq_true rfl) (by exact Nat.le_of_ble_eq_true rfl) ?_
      exact hR _ _ 30 _ (nI ((iN k) / 2)) () d_Pk_unzigzag_30 rfl (Or.inl (⟨rfl, iN_pos hk31, by omega⟩)) (hP.sub [] rfl) (hD.sub [] (by decide) rfl) hS
  · skip
    exact hT "java/lang/IllegalArgumentException" 57 59 _ _ 0 0 4 _ () (by decide) m_197 m_10 ta_1 (hl.1.trans hml.symm) d_Pk_unzigzag_4 d_Pk_unzigzag_7 d_Pk_unzigzag_8 d_Pk_unzigzag_11 (by decide) ⟨by exact Nat.le_of_ble_eq_true rfl, by exact Nat.le_of_ble_eq_true rfl, by exact Nat.le_of_ble_eq_true rfl, by exact Nat.le_of_ble_eq_true rfl⟩ (Or.inr (Or.inr (⟨rfl, Int32.not_le.mp (by assumption)⟩))) (hP.sub [] rfl) (hD.sub [] (by decide) rfl) hS
