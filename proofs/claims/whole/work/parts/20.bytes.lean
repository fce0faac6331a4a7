abbrev rm_Bytes_init : Room := { frames := 1, cells := 1, slots := 32768, locals := 12 }
set_option maxHeartbeats 1000000 in
set_option maxRecDepth 100000 in
/-- a new run of bytes: empty -/
theorem c_Bytes_init (l : Launch) (g : pc_G) (q : Nat) (n : Int32) : pc_Cv (S := Nat) l y_Bytes_init prog_2_method_1_code 1 rm_Bytes_init g [(q, .inr (1, [.null, .int n]))] [.ref q] (fun u => True) (fun u => [(q, .inr (1, [.ref u, .int (nI 0)])), (u, .inl (g.2.1, 32768, .inl (bA (fun _ => 0))))]) := by
  refine pc_Cv.of (by decide) (by exact Nat.le_of_ble_eq_true rfl) ?_
  intro p e s m below meth c A Q hx hb hml hown hE hA hnm hQ hP hD ls hl
  have hS : va_S A s.heap s.heap [] := va_S.rf
  have hl : lv_has ls 1 [(0, .ref q)] := hl
  refine lv_aload_n hx hb d_Bytes_init_0 rfl (lv_at hl 0 rfl) ?_
  refine W.objInit hx hb hown (hE.w m_33) (hE.w m_26) (hE.w m_27) rfl (by rw [hml]; exact hl.1) rfl d_Bytes_init_1 (by exact Nat.le_of_ble_eq_true rfl) (by exact Nat.le_of_ble_eq_true rfl) ?_
  refine W.eq (g2 := F0 m 4 ls []) rfl ?_
  refine lv_aload_n hx hb d_Bytes_init_4 rfl (lv_at hl 0 rfl) ?_
  refine lv_ldc hx hb hown (hE.w m_34) d_Bytes_init_5 ?_
  refine pc_ti (y := nI 32768) (by decide) ?_
  refine pc_newa (atype := .byte) (ty := .byte) (a0 := (32768, .inl (bA (fun _ => 0)))) hx hb (hE.w m_46) rfl hE.2.1 hP hD hS hA 0 rfl (fun cA => pc_z8 cA 32768) (nI_pos (by omega)) (nI_clamp (by omega)) (by show 32768 * 1 ≤ 536870912; omega) (by exact Nat.le_of_ble_eq_true rfl) (by exact Nat.le_of_ble_eq_true rfl) d_Bytes_init_7 (fun q_1 H hP hD hS => ?_)
  have hP : va_P g.1 pc_cl [(q, .inr (1, [.null, .int n])), (q_1, .inl (g.2.1, 32768, .inl (bA (fun _ => 0))))] H := hP
  have hD : va_D A [(q, .inr (1, [.null, .int n])), (q_1, .inl (g.2.1, 32768, .inl (bA (fun _ => 0))))] := hD
  refine W.cs (cells' := 1) (slots' := 32768) rfl rfl ?_
  refine va_putF (ci := 1) (ty := .array .byte) (C := R_Bytes) (T := F_Bytes) (N := 2) hx hb hE.hts in_Bytes t_Bytes tk_Bytes nn_Bytes hown hE.2.1 hP hD hS 0 rfl rfl 0 (by decide) (hE.w m_35) (fun _ h9 => h9) rfl (hnm "<init>" rfl) rfl (by decide +kernel) (by rfl) (by rfl) (by exact Nat.le_of_ble_eq_true rfl) d_Bytes_init_9 (fun H locs hP hD hS => ?_)
  have hP : va_P g.1 pc_cl [(q, .inr (1, [.ref q_1, .int n])), (q_1, .inl (g.2.1, 32768, .inl (bA (fun _ => 0))))] H := hP
  have hD : va_D A [(q, .inr (1, [.ref q_1, .int n])), (q_1, .inl (g.2.1, 32768, .inl (bA (fun _ => 0))))] := hD
  refine lv_aload_n hx hb d_Bytes_init_12 rfl (lv_at hl 0 rfl) ?_
  refine lv_iconst (v := nI 0) hx hb d_Bytes_init_13 (by decide) ?_
  refine va_put (ci := 1) (ty := .int) (C := R_Bytes) (T := F_Bytes) (N := 2) hx hb hE.hts in_Bytes t_Bytes tk_Bytes nn_Bytes hown hE.2.1 hP hD hS 0 rfl rfl 1 (by decide) (hE.w m_36) (fun _ h9 => h9) rfl (by decide +kernel) (by rfl) (by rfl) (by exact Nat.le_of_ble_eq_true rfl) d_Bytes_init_14 (fun H locs hP hD hS => ?_)
  have hP : va_P g.1 pc_cl [(q, .inr (1, [.ref q_1, .int (nI 0)])), (q_1, .inl (g.2.1, 32768, .inl (bA (fun _ => 0))))] H := hP
  have hD : va_D A [(q, .inr (1, [.ref q_1, .int (nI 0)])), (q_1, .inl (g.2.1, 32768, .inl (bA (fun _ => 0))))] := hD
  exact hQ _ _ 17 _ q_1 d_Bytes_init_17 trivial (hP.sub [0, 1] rfl) (hD.sub [0, 1] (by decide) rfl) hS
abbrev rm_Bytes_hasRoomFor : Room := { frames := 0, cells := 0, slots := 0, locals := 0 }
set_option maxHeartbeats 1000000 in
set_option maxRecDepth 100000 in
/-- is there room for k bytes more -/
theorem c_Bytes_hasRoomFor (l : Launch) (g : pc_G) (q : Nat) (r : Nat) (n : Nat) (t : Nat → UInt8) (k : Nat) (hn : n ≤ 32768) (hk : k < 2 ^ 31) : pc_Ci (S := Unit) l y_Bytes_hasRoomFor prog_2_method_2_code 2 .boolean rm_Bytes_hasRoomFor g [(q, .inr (1, [.ref r, .int (nI n)])), (r, .inl (g.2.1, 32768, .inl (bA t)))] [.ref q, .int (nI k)] (fun rv _ => rv = bI (k + n ≤ 32768)) (fun _ => [(q, .inr (1, [.ref r, .int (nI n)])), (r, .inl (g.2.1, 32768, .inl (bA t)))]) := by
  refine pc_Ci.of (by decide) (by exact Nat.le_of_ble_eq_true rfl) ?_
  intro p e s m below meth c A Q hx hb hml hown hE hA hQ hP hD ls hl
  have hS : va_S A s.heap s.heap [] := va_S.rf
  have hl : lv_has ls 2 [(0, .ref q), (1, .int (nI k))] := hl
  refine lv_iload_n hx hb d_Bytes_hasRoomFor_0 rfl (lv_at hl 1 rfl) ?_
  refine lv_ldc hx hb hown (hE.w m_34) d_Bytes_hasRoomFor_1 ?_
  refine pc_ti (y := nI 32768) (by decide) ?_
  refine lv_aload_n hx hb d_Bytes_hasRoomFor_3 rfl (lv_at hl 0 rfl) ?_
  refine va_get (ci := 1) (C := R_Bytes) (T := F_Bytes) (N := 2) hx hb hE.hts in_Bytes hown hE.2.1 hP 0 rfl rfl 1 (by decide) (hE.w m_36) (fun _ h9 => h9) rfl d_Bytes_hasRoomFor_4 ?_
  refine lv_isub hx hb d_Bytes_hasRoomFor_7 ?_
  refine pc_ti (y := nI (32768 - n)) (pk_sub (by omega)) ?_
  refine pc_jgt (tgt := 15) hx hb d_Bytes_hasRoomFor_8 (by decide) (by omega) (by omega) (fun h_1 => ?_) (fun h_1 => ?_)
  · skip
    refine lv_iconst (v := nI 0) hx hb d_Bytes_hasRoomFor_15 (by decide) ?_
    exact hQ _ _ 16 _ (nI 0) () d_Bytes_hasRoomFor_16 rfl ((bI_f (by omega)).symm) (hP.sub [0, 1] rfl) (hD.sub [0, 1] (by decide) rfl) hS
  · skip
    refine lv_iconst (v := nI 1) hx hb d_Bytes_hasRoomFor_11 (by decide) ?_
    refine lv_goto (tgt := 16) hx hb d_Bytes_hasRoomFor_12 (by decide) ?_
    exact hQ _ _ 16 _ (nI 1) () d_Bytes_hasRoomFor_16 rfl ((bI_t (by omega)).symm) (hP.sub [0, 1] rfl) (hD.sub [0, 1] (by decide) rfl) hS
abbrev rm_Bytes_at : Room := { frames := 0, cells := 0, slots := 0, locals := 0 }
set_option maxHeartbeats 1000000 in
set_option maxRecDepth 100000 in
/-- the byte at k -/
theorem c_Bytes_at (l : Launch) (g : pc_G) (q : Nat) (r : Nat) (n : Nat) (t : Nat → UInt8) (k : Nat) (hk : k < 32768) : pc_Ci (S := Unit) l y_Bytes_at prog_2_method_3_code 2 .int rm_Bytes_at g [(q, .inr (1, [.ref r, .int (nI n)])), (r, .inl (g.2.1, 32768, .inl (bA t)))] [.ref q, .int (nI k)] (fun rv _ => rv = nI (bN t k)) (fun _ => [(q, .inr (1, [.ref r, .int (nI n)])), (r, .inl (g.2.1, 32768, .inl (bA t)))]) := by
  refine pc_Ci.of (by decide) (by exact Nat.le_of_ble_eq_true rfl) ?_
  intro p e s m below meth c A Q hx hb hml hown hE hA hQ hP hD ls hl
  have hS : va_S A s.heap s.heap [] := va_S.rf
  have hl : lv_has ls 2 [(0, .ref q), (1, .int (nI k))] := hl
  refine lv_aload_n hx hb d_Bytes_at_0 rfl (lv_at hl 0 rfl) ?_
  refine va_get (ci := 1) (C := R_Bytes) (T := F_Bytes) (N := 2) hx hb hE.hts in_Bytes hown hE.2.1 hP 0 rfl rfl 0 (by decide) (hE.w m_35) (fun _ h9 => h9) rfl d_Bytes_at_1 ?_
  refine lv_iload_n hx hb d_Bytes_at_4 rfl (lv_at hl 1 rfl) ?_
  refine pc_bald hx hb hE.2.1 hP 1 0 rfl rfl (by omega) (by omega) d_Bytes_at_5 ?_
  refine lv_sipush (v := nI 255) hx hb d_Bytes_at_6 (by decide) ?_
  refine lv_iand hx hb d_Bytes_at_9 ?_
  refine pc_ti (y := nI (bN t k)) (bA_and _ _) ?_
  exact hQ _ _ 10 _ (nI (bN t k)) () d_Bytes_at_10 rfl rfl (hP.sub [0, 1] rfl) (hD.sub [0, 1] (by decide) rfl) hS
abbrev rm_Bytes_add : Room := { frames := 0, cells := 0, slots := 0, locals := 0 }
set_option maxHeartbeats 1000000 in
set_option maxRecDepth 100000 in
/-- a byte more -/
theorem c_Bytes_add (l : Launch) (g : pc_G) (q : Nat) (r : Nat) (n : Nat) (t : Nat → UInt8) (x : Nat) (hn : n < 32768) : pc_Cv (S := Unit) l y_Bytes_add prog_2_method_4_code 2 rm_Bytes_add g [(q, .inr (1, [.ref r, .int (nI n)])), (r, .inl (g.2.1, 32768, .inl (bA t)))] [.ref q, .int (nI x)] (fun _ => True) (fun _ => [(q, .inr (1, [.ref r, .int (nI (n + 1))])), (r, .inl (g.2.1, 32768, .inl (bA (upB t n x))))]) := by
  refine pc_Cv.of (by decide) (by exact Nat.le_of_ble_eq_true rfl) ?_
  intro p e s m below meth c A Q hx hb hml hown hE hA hnm hQ hP hD ls hl
  have hS : va_S A s.heap s.heap [] := va_S.rf
  have hl : lv_has ls 2 [(0, .ref q), (1, .int (nI x))] := hl
  refine lv_aload_n hx hb d_Bytes_add_0 rfl (lv_at hl 0 rfl) ?_
  refine va_get (ci := 1) (C := R_Bytes) (T := F_Bytes) (N := 2) hx hb hE.hts in_Bytes hown hE.2.1 hP 0 rfl rfl 0 (by decide) (hE.w m_35) (fun _ h9 => h9) rfl d_Bytes_add_1 ?_
  refine lv_aload_n hx hb d_Bytes_add_4 rfl (lv_at hl 0 rfl) ?_
  refine va_get (ci := 1) (C := R_Bytes) (T := F_Bytes) (N := 2) hx hb hE.hts in_Bytes hown hE.2.1 hP 0 rfl rfl 1 (by decide) (hE.w m_36) (fun _ h9 => h9) rfl d_Bytes_add_5 ?_
  refine lv_iload_n hx hb d_Bytes_add_8 rfl (lv_at hl 1 rfl) ?_
  refine lv_i2b (v := sb_b x) hx hb d_Bytes_add_9 rfl ?_
  refine pc_bast hx hb hE.2.1 hP hD hS 1 0 rfl rfl (by omega) (by omega) d_Bytes_add_10 (fun H locs hP hD hS => ?_)
  have hP : va_P g.1 pc_cl [(q, .inr (1, [.ref r, .int (nI n)])), (r, .inl (g.2.1, 32768, .inl (bA (upB t n x))))] H := hP
  have hD : va_D A [(q, .inr (1, [.ref r, .int (nI n)])), (r, .inl (g.2.1, 32768, .inl (bA (upB t n x))))] := hD
  refine lv_aload_n hx hb d_Bytes_add_11 rfl (lv_at hl 0 rfl) ?_
  refine lv_dup hx hb d_Bytes_add_12 rfl ?_
  refine va_get (ci := 1) (C := R_Bytes) (T := F_Bytes) (N := 2) hx hb hE.hts in_Bytes hown hE.2.1 hP 0 rfl rfl 1 (by decide) (hE.w m_36) (fun _ h9 => h9) rfl d_Bytes_add_13 ?_
  refine lv_iconst (v := nI 1) hx hb d_Bytes_add_16 (by decide) ?_
  refine lv_iadd hx hb d_Bytes_add_17 ?_
  refine pc_ti (y := nI (n + 1)) (nI_add _ _) ?_
  refine va_put (ci := 1) (ty := .int) (C := R_Bytes) (T := F_Bytes) (N := 2) hx hb hE.hts in_Bytes t_Bytes tk_Bytes nn_Bytes hown hE.2.1 hP hD hS 0 rfl rfl 1 (by decide) (hE.w m_36) (fun _ h9 => h9) rfl (by decide +kernel) (by rfl) (by rfl) (by exact Nat.le_of_ble_eq_true rfl) d_Bytes_add_18 (fun H locs hP hD hS => ?_)
  have hP : va_P g.1 pc_cl [(q, .inr (1, [.ref r, .int (nI (n + 1))])), (r, .inl (g.2.1, 32768, .inl (bA (upB t n x))))] H := hP
  have hD : va_D A [(q, .inr (1, [.ref r, .int (nI (n + 1))])), (r, .inl (g.2.1, 32768, .inl (bA (upB t n x))))] := hD
  exact hQ _ _ 21 _ () d_Bytes_add_21 trivial (hP.sub [0, 1] rfl) (hD.sub [0, 1] (by decide) rfl) hS
abbrev rm_Bytes_addFour : Room := { frames := 1, cells := 0, slots := 0, locals := 21 }
set_option maxHeartbeats 1000000 in
set_option maxRecDepth 100000 in
/-- four bytes more -/
theorem c_Bytes_addFour (l : Launch) (g : pc_G) (q : Nat) (r : Nat) (n : Nat) (t : Nat → UInt8) (x : Nat) (hn : n + 4 ≤ 32768) (hx32 : x < 2 ^ 32) : pc_Cv (S := Unit) l y_Bytes_addFour prog_2_method_5_code 2 rm_Bytes_addFour g [(q, .inr (1, [.ref r, .int (nI n)])), (r, .inl (g.2.1, 32768, .inl (bA t)))] [.ref q, .int (nI x)] (fun _ => True) (fun _ => [(q, .inr (1, [.ref r, .int (nI (n + 1 + 1 + 1 + 1))])), (r, .inl (g.2.1, 32768, .inl (bA (upB (upB (upB (upB t n (x / 2 ^ 24)) (n + 1) (x / 2 ^ 16)) (n + 1 + 1) (x / 2 ^ 8)) (n + 1 + 1 + 1) x))))]) := by
  refine pc_Cv.of (by decide) (by exact Nat.le_of_ble_eq_true rfl) ?_
  intro p e s m below meth c A Q hx hb hml hown hE hA hnm hQ hP hD ls hl
  have hS : va_S A s.heap s.heap [] := va_S.rf
  have hl : lv_has ls 2 [(0, .ref q), (1, .int (nI x))] := hl
  refine lv_aload_n hx hb d_Bytes_addFour_0 rfl (lv_at hl 0 rfl) ?_
  refine lv_iload_n hx hb d_Bytes_addFour_1 rfl (lv_at hl 1 rfl) ?_
  refine lv_bipush (v := nI 24) hx hb d_Bytes_addFour_2 (by decide) ?_
  refine lv_iushr (v := nI (x / 2 ^ 24)) hx hb d_Bytes_addFour_4 (pc_ushr (by omega) (by omega)) ?_
  refine pc_v (wc := [(q, .inr (1, [.ref r, .int (nI n)])), (r, .inl (g.2.1, 32768, .inl (bA t)))]) (wr := []) (cells' := 0) (slots' := 0) hP hD hS hA [0, 1] [] rfl rfl (by decide) (by decide) rfl rfl (va_runV (n := 1) (As := [.int (nI (x / 2 ^ 24))]) (rest := []) (C := R_Bytes) ⟨hx, hb, hml, hown, hE.hts⟩ (c_Bytes_add l g q r n t (x / 2 ^ 24) (by omega) _) ⟨pc_cb hE m_188 m_2 m_185 (by decide +kernel) ⟨by exact Nat.le_of_ble_eq_true rfl, by exact Nat.le_of_ble_eq_true rfl⟩, hE.w m_187, hE.w ms_3⟩ (pc_preV (ci := 1) (q0 := 0) hP hD hE hS hA [0, 1] (by decide) rfl [.int (nI (x / 2 ^ 24))] rfl rfl) rfl rfl hl.1 rfl (lv_room (by exact Nat.le_of_ble_eq_true rfl)) d_Bytes_addFour_5 ⟨by exact Nat.le_of_ble_eq_true rfl, by exact Nat.le_of_ble_eq_true rfl⟩) (fun u_1 H locs hw hP hD hS => ?_)
  have hP : va_P g.1 pc_cl [(q, .inr (1, [.ref r, .int (nI (n + 1))])), (r, .inl (g.2.1, 32768, .inl (bA (upB t n (x / 2 ^ 24)))))] H := hP
  have hD : va_D A [(q, .inr (1, [.ref r, .int (nI (n + 1))])), (r, .inl (g.2.1, 32768, .inl (bA (upB t n (x / 2 ^ 24)))))] := hD
  refine lv_aload_n hx hb d_Bytes_addFour_8 rfl (lv_at hl 0 rfl) ?_
  refine lv_iload_n hx hb d_Bytes_addFour_9 rfl (lv_at hl 1 rfl) ?_
  refine lv_bipush (v := nI 16) hx hb d_Bytes_addFour_10 (by decide) ?_
  refine lv_iushr (v := nI (x / 2 ^ 16)) hx hb d_Bytes_addFour_12 (pc_ushr (by omega) (by omega)) ?_
  refine pc_v (wc := [(q, .inr (1, [.ref r, .int (nI (n + 1))])), (r, .inl (g.2.1, 32768, .inl (bA (upB t n (x / 2 ^ 24)))))]) (wr := []) (cells' := 0) (slots' := 0) hP hD hS hA [0, 1] [] rfl rfl (by decide) (by decide) rfl rfl (va_runV (n := 1) (As := [.int (nI (x / 2 ^ 16))]) (rest := []) (C := R_Bytes) ⟨hx, hb, hml, hown, hE.hts⟩ (c_Bytes_add l g q r (n + 1) (upB t n (x / 2 ^ 24)) (x / 2 ^ 16) (by omega) _) ⟨pc_cb hE m_188 m_2 m_185 (by decide +kernel) ⟨by exact Nat.le_of_ble_eq_true rfl, by exact Nat.le_of_ble_eq_true rfl⟩, hE.w m_187, hE.w ms_3⟩ (pc_preV (ci := 1) (q0 := 0) hP hD hE hS hA [0, 1] (by decide) rfl [.int (nI (x / 2 ^ 16))] rfl rfl) rfl rfl hl.1 rfl (lv_room (by exact Nat.le_of_ble_eq_true rfl)) d_Bytes_addFour_13 ⟨by exact Nat.le_of_ble_eq_true rfl, by exact Nat.le_of_ble_eq_true rfl⟩) (fun u_3 H locs hw hP hD hS => ?_)
  have hP : va_P g.1 pc_cl [(q, .inr (1, [.ref r, .int (nI (n + 1 + 1))])), (r, .inl (g.2.1, 32768, .inl (bA (upB (upB t n (x / 2 ^ 24)) (n + 1) (x / 2 ^ 16)))))] H := hP
  have hD : va_D A [(q, .inr (1, [.ref r, .int (nI (n + 1 + 1))])), (r, .inl (g.2.1, 32768, .inl (bA (upB (upB t n (x / 2 ^ 24)) (n + 1) (x / 2 ^ 16)))))] := hD
  refine lv_aload_n hx hb d_Bytes_addFour_16 rfl (lv_at hl 0 rfl) ?_
  refine lv_iload_n hx hb d_Bytes_addFour_17 rfl (lv_at hl 1 rfl) ?_
  refine lv_bipush (v := nI 8) hx hb d_Bytes_addFour_18 (by decide) ?_
  refine lv_iushr (v := nI (x / 2 ^ 8)) hx hb d_Bytes_addFour_20 (pc_ushr (by omega) (by omega)) ?_
  refine pc_v (wc := [(q, .inr (1, [.ref r, .int (nI (n + 1 + 1))])), (r, .inl (g.2.1, 32768, .inl (bA (upB (upB t n (x / 2 ^ 24)) (n + 1) (x / 2 ^ 16)))))]) (wr := []) (cells' := 0) (slots' := 0) hP hD hS hA [0, 1] [] rfl rfl (by decide) (by decide) rfl rfl (va_runV (n := 1) (As := [.int (nI (x / 2 ^ 8))]) (rest := []) (C := R_Bytes) ⟨hx, hb, hml, hown, hE.hts⟩ (c_Bytes_add l g q r (n + 1 + 1) (upB (upB t n (x / 2 ^ 24)) (n + 1) (x / 2 ^ 16)) (x / 2 ^ 8) (by omega) _) ⟨pc_cb hE m_188 m_2 m_185 (by decide +kernel) ⟨by exact Nat.le_of_ble_eq_true rfl, by exact Nat.le_of_ble_eq_true rfl⟩, hE.w m_187, hE.w ms_3⟩ (pc_preV (ci := 1) (q0 := 0) hP hD hE hS hA [0, 1] (by decide) rfl [.int (nI (x / 2 ^ 8))] rfl rfl) rfl rfl hl.1 rfl (lv_room (by exact Nat.le_of_ble_eq_true rfl)) d_Bytes_addFour_21 ⟨by exact Nat.le_of_ble_eq_true rfl, by exact Nat.le_of_ble_eq_true rfl⟩) (fun u_5 H locs hw hP hD hS => ?_)
  have hP : va_P g.1 pc_cl [(q, .inr (1, [.ref r, .int (nI (n + 1 + 1 + 1))])), (r, .inl (g.2.1, 32768, .inl (bA (upB (upB (upB t n (x / 2 ^ 24)) (n + 1) (x / 2 ^ 16)) (n + 1 + 1) (x / 2 ^ 8)))))] H := hP
  have hD : va_D A [(q, .inr (1, [.ref r, .int (nI (n + 1 + 1 + 1))])), (r, .inl (g.2.1, 32768, .inl (bA (upB (upB (upB t n (x / 2 ^ 24)) (n + 1) (x / 2 ^ 16)) (n + 1 + 1) (x / 2 ^ 8)))))] := hD
  refine lv_aload_n hx hb d_Bytes_addFour_24 rfl (lv_at hl 0 rfl) ?_
  refine lv_iload_n hx hb d_Bytes_addFour_25 rfl (lv_at hl 1 rfl) ?_
  refine pc_v (wc := [(q, .inr (1, [.ref r, .int (nI (n + 1 + 1 + 1))])), (r, .inl (g.2.1, 32768, .inl (bA (upB (upB (upB t n (x / 2 ^ 24)) (n + 1) (x / 2 ^ 16)) (n + 1 + 1) (x / 2 ^ 8)))))]) (wr := []) (cells' := 0) (slots' := 0) hP hD hS hA [0, 1] [] rfl rfl (by decide) (by decide) rfl rfl (va_runV (n := 1) (As := [.int (nI x)]) (rest := []) (C := R_Bytes) ⟨hx, hb, hml, hown, hE.hts⟩ (c_Bytes_add l g q r (n + 1 + 1 + 1) (upB (upB (upB t n (x / 2 ^ 24)) (n + 1) (x / 2 ^ 16)) (n + 1 + 1) (x / 2 ^ 8)) x (by omega) _) ⟨pc_cb hE m_188 m_2 m_185 (by decide +kernel) ⟨by exact Nat.le_of_ble_eq_true rfl, by exact Nat.le_of_ble_eq_true rfl⟩, hE.w m_187, hE.w ms_3⟩ (pc_preV (ci := 1) (q0 := 0) hP hD hE hS hA [0, 1] (by decide) rfl [.int (nI x)] rfl rfl) rfl rfl hl.1 rfl (lv_room (by exact Nat.le_of_ble_eq_true rfl)) d_Bytes_addFour_26 ⟨by exact Nat.le_of_ble_eq_true rfl, by exact Nat.le_of_ble_eq_true rfl⟩) (fun u_7 H locs hw hP hD hS => ?_)
  have hP : va_P g.1 pc_cl [(q, .inr (1, [.ref r, .int (nI (n + 1 + 1 + 1 + 1))])), (r, .inl (g.2.1, 32768, .inl (bA (upB (upB (upB (upB t n (x / 2 ^ 24)) (n + 1) (x / 2 ^ 16)) (n + 1 + 1) (x / 2 ^ 8)) (n + 1 + 1 + 1) x))))] H := hP
  have hD : va_D A [(q, .inr (1, [.ref r, .int (nI (n + 1 + 1 + 1 + 1))])), (r, .inl (g.2.1, 32768, .inl (bA (upB (upB (upB (upB t n (x / 2 ^ 24)) (n + 1) (x / 2 ^ 16)) (n + 1 + 1) (x / 2 ^ 8)) (n + 1 + 1 + 1) x))))] := hD
  exact hQ _ _ 29 _ () d_Bytes_addFour_29 trivial (hP.sub [0, 1] rfl) (hD.sub [0, 1] (by decide) rfl) hS
abbrev rm_Bytes_addRun : Room := { frames := 1, cells := 0, slots := 0, locals := 40 }
set_option maxHeartbeats 1000000 in
set_option maxRecDepth 100000 in
/-- a run of another -/
theorem c_Bytes_addRun (l : Launch) (g : pc_G) (q : Nat) (r : Nat) (n : Nat) (t : Nat → UInt8) (q2 : Nat) (r2 : Nat) (n2 : Nat) (t2 : Nat → UInt8) (p0 : Nat) (k : Nat) (hn : n + k ≤ 32768) (hp : p0 + k ≤ 32768) : pc_Cv (S := Unit) l y_Bytes_addRun prog_2_method_6_code 4 rm_Bytes_addRun g [(q, .inr (1, [.ref r, .int (nI n)])), (r, .inl (g.2.1, 32768, .inl (bA t))), (q2, .inr (1, [.ref r2, .int (nI n2)])), (r2, .inl (g.2.1, 32768, .inl (bA t2)))] [.ref q, .ref q2, .int (nI p0), .int (nI k)] (fun _ => True) (fun _ => [(q, .inr (1, [.ref r, .int (nI (n + k))])), (r, .inl (g.2.1, 32768, .inl (bA (va_cpy t2 t p0 n k)))), (q2, .inr (1, [.ref r2, .int (nI n2)])), (r2, .inl (g.2.1, 32768, .inl (bA t2)))]) := by
  refine pc_Cv.of (by decide) (by exact Nat.le_of_ble_eq_true rfl) ?_
  intro p e s m below meth c A Q hx hb hml hown hE hA hnm hQ hP hD ls hl
  have hS : va_S A s.heap s.heap [] := va_S.rf
  have hl : lv_has ls 4 [(0, .ref q), (1, .ref q2), (2, .int (nI p0)), (3, .int (nI k))] := hl
  refine lv_aload_n hx hb d_Bytes_addRun_0 rfl (lv_at hl 1 rfl) ?_
  refine va_get (ci := 1) (C := R_Bytes) (T := F_Bytes) (N := 2) hx hb hE.hts in_Bytes hown hE.2.1 hP 2 rfl rfl 0 (by decide) (hE.w m_35) (fun _ h9 => h9) rfl d_Bytes_addRun_1 ?_
  refine lv_iload_n hx hb d_Bytes_addRun_4 rfl (lv_at hl 2 rfl) ?_
  refine lv_aload_n hx hb d_Bytes_addRun_5 rfl (lv_at hl 0 rfl) ?_
  refine va_get (ci := 1) (C := R_Bytes) (T := F_Bytes) (N := 2) hx hb hE.hts in_Bytes hown hE.2.1 hP 0 rfl rfl 0 (by decide) (hE.w m_35) (fun _ h9 => h9) rfl d_Bytes_addRun_6 ?_
  refine lv_aload_n hx hb d_Bytes_addRun_9 rfl (lv_at hl 0 rfl) ?_
  refine va_get (ci := 1) (C := R_Bytes) (T := F_Bytes) (N := 2) hx hb hE.hts in_Bytes hown hE.2.1 hP 0 rfl rfl 1 (by decide) (hE.w m_36) (fun _ h9 => h9) rfl d_Bytes_addRun_10 ?_
  refine lv_iload_n hx hb d_Bytes_addRun_13 rfl (lv_at hl 3 rfl) ?_
  refine pc_copyb hx hb (hml.trans hl.1.symm) hown (hE.w m_264) (hE.w m_266) (hE.w m_265) (hE.w m_14) hE.2.1 hP hD hS 3 1 rfl rfl (by omega) (by omega) (by omega) (by omega) (by exact Nat.le_of_ble_eq_true rfl) (by exact Nat.le_of_ble_eq_true rfl) d_Bytes_addRun_14 (fun H locs hP hD hS => ?_)
  have hP : va_P g.1 pc_cl [(q, .inr (1, [.ref r, .int (nI n)])), (r, .inl (g.2.1, 32768, .inl (bA (va_cpy t2 t p0 n k)))), (q2, .inr (1, [.ref r2, .int (nI n2)])), (r2, .inl (g.2.1, 32768, .inl (bA t2)))] H := hP
  have hD : va_D A [(q, .inr (1, [.ref r, .int (nI n)])), (r, .inl (g.2.1, 32768, .inl (bA (va_cpy t2 t p0 n k)))), (q2, .inr (1, [.ref r2, .int (nI n2)])), (r2, .inl (g.2.1, 32768, .inl (bA t2)))] := hD
  refine lv_aload_n hx hb d_Bytes_addRun_17 rfl (lv_at hl 0 rfl) ?_
  refine lv_dup hx hb d_Bytes_addRun_18 rfl ?_
  refine va_get (ci := 1) (C := R_Bytes) (T := F_Bytes) (N := 2) hx hb hE.hts in_Bytes hown hE.2.1 hP 0 rfl rfl 1 (by decide) (hE.w m_36) (fun _ h9 => h9) rfl d_Bytes_addRun_19 ?_
  refine lv_iload_n hx hb d_Bytes_addRun_22 rfl (lv_at hl 3 rfl) ?_
  refine lv_iadd hx hb d_Bytes_addRun_23 ?_
  refine pc_ti (y := nI (n + k)) (nI_add _ _) ?_
  refine va_put (ci := 1) (ty := .int) (C := R_Bytes) (T := F_Bytes) (N := 2) hx hb hE.hts in_Bytes t_Bytes tk_Bytes nn_Bytes hown hE.2.1 hP hD hS 0 rfl rfl 1 (by decide) (hE.w m_36) (fun _ h9 => h9) rfl (by decide +kernel) (by rfl) (by rfl) (by exact Nat.le_of_ble_eq_true rfl) d_Bytes_addRun_24 (fun H locs hP hD hS => ?_)
  have hP : va_P g.1 pc_cl [(q, .inr (1, [.ref r, .int (nI (n + k))])), (r, .inl (g.2.1, 32768, .inl (bA (va_cpy t2 t p0 n k)))), (q2, .inr (1, [.ref r2, .int (nI n2)])), (r2, .inl (g.2.1, 32768, .inl (bA t2)))] H := hP
  have hD : va_D A [(q, .inr (1, [.ref r, .int (nI (n + k))])), (r, .inl (g.2.1, 32768, .inl (bA (va_cpy t2 t p0 n k)))), (q2, .inr (1, [.ref r2, .int (nI n2)])), (r2, .inl (g.2.1, 32768, .inl (bA t2)))] := hD
  exact hQ _ _ 27 _ () d_Bytes_addRun_27 trivial (hP.sub [0, 1, 2, 3] rfl) (hD.sub [0, 1, 2, 3] (by decide) rfl) hS
abbrev rm_Bytes_addFromBack : Room := { frames := 1, cells := 0, slots := 0, locals := 21 }
set_option maxHeartbeats 1000000 in
set_option maxRecDepth 100000 in
/-- k bytes more, each from d bytes back -/
theorem c_Bytes_addFromBack (l : Launch) (g : pc_G) (q : Nat) (r : Nat) (n : Nat) (t : Nat → UInt8) (d : Nat) (k : Nat) (hd : 0 < d) (hdn : d ≤ n) (hn : n + k ≤ 32768) : pc_Cv (S := (Nat → UInt8)) l y_Bytes_addFromBack prog_2_method_7_code 4 rm_Bytes_addFromBack g [(q, .inr (1, [.ref r, .int (nI n)])), (r, .inl (g.2.1, 32768, .inl (bA t)))] [.ref q, .int (nI d), .int (nI k)] (fun u => bl u (n + k) = backL d k (bl t n)) (fun u => [(q, .inr (1, [.ref r, .int (nI (n + k))])), (r, .inl (g.2.1, 32768, .inl (bA u)))]) := by
  refine pc_Cv.of (by decide) (by exact Nat.le_of_ble_eq_true rfl) ?_
  intro p e s m below meth c A Q hx hb hml hown hE hA hnm hQ hP hD ls hl
  have hS : va_S A s.heap s.heap [] := va_S.rf
  have hl : lv_has ls 4 [(0, .ref q), (1, .int (nI d)), (2, .int (nI k))] := hl
  refine lv_iconst (v := nI 0) hx hb d_Bytes_addFromBack_0 (by decide) ?_
  refine lv_istore_n (lv' := [(3, .int (nI 0)), (0, .ref q), (1, .int (nI d)), (2, .int (nI k))]) hx hb d_Bytes_addFromBack_1 rfl hl (by decide) rfl (fun ls hl => ?_)
  have lp_2 : ∀ (n9 : Nat) (i : Nat) (w : Nat) (v : Nat → UInt8) (hi : i ≤ k) (hm : w = n + i) (hb2 : backL d (k - i) (bl v w) = backL d k (bl t n)) (hmu : k - i < n9) (H : Heap) (locs : List Loc) (hP : va_P g.1 pc_cl [(q, .inr (1, [.ref r, .int (nI w)])), (r, .inl (g.2.1, 32768, .inl (bA v)))] H) (hD : va_D A [(q, .inr (1, [.ref r, .int (nI w)])), (r, .inl (g.2.1, 32768, .inl (bA v)))]) (hS : va_S A s.heap H locs) (ls : Array Slot) (hl : lv_has ls 4 [(0, .ref q), (1, .int (nI d)), (2, .int (nI k)), (3, .int (nI i))]), W p l e rm_Bytes_addFromBack s m ([.ref q, .int (nI d), .int (nI k)] : List Value).toArray below meth c H locs 0 0 Q (F0 m 2 ls []) := by
    intro n9
    induction n9 with
    | zero => intros; omega
    | succ n9 ih_2 =>
      intro i w v hi hm hb2 hmu H locs hP hD hS ls hl
      refine lv_iload_n hx hb d_Bytes_addFromBack_2 rfl (lv_at hl 3 rfl) ?_
      refine lv_iload_n hx hb d_Bytes_addFromBack_3 rfl (lv_at hl 2 rfl) ?_
      refine pc_jge (tgt := 27) hx hb d_Bytes_addFromBack_4 (by decide) (by omega) (by omega) (fun h_1 => ?_) (fun h_1 => ?_)
      · skip
        obtain rfl : w = n + k := by omega
        have hP : va_P g.1 pc_cl [(q, .inr (1, [.ref r, .int (nI (n + k))])), (r, .inl (g.2.1, 32768, .inl (bA v)))] _ := hP
        have hD : va_D A [(q, .inr (1, [.ref r, .int (nI (n + k))])), (r, .inl (g.2.1, 32768, .inl (bA v)))] := hD
        exact hQ _ _ 27 _ v d_Bytes_addFromBack_27 (by rw [← hb2, show k - i = 0 by omega]; rfl) (hP.sub [0, 1] rfl) (hD.sub [0, 1] (by decide) rfl) hS
      · skip
        refine lv_aload_n hx hb d_Bytes_addFromBack_7 rfl (lv_at hl 0 rfl) ?_
        refine lv_aload_n hx hb d_Bytes_addFromBack_8 rfl (lv_at hl 0 rfl) ?_
        refine lv_aload_n hx hb d_Bytes_addFromBack_9 rfl (lv_at hl 0 rfl) ?_
        refine va_get (ci := 1) (C := R_Bytes) (T := F_Bytes) (N := 2) hx hb hE.hts in_Bytes hown hE.2.1 hP 0 rfl rfl 1 (by decide) (hE.w m_36) (fun _ h9 => h9) rfl d_Bytes_addFromBack_10 ?_
        refine lv_iload_n hx hb d_Bytes_addFromBack_13 rfl (lv_at hl 1 rfl) ?_
        refine lv_isub hx hb d_Bytes_addFromBack_14 ?_
        refine pc_ti (y := nI (w - d)) (pk_sub (by omega)) ?_
        refine pc_i (wc := [(q, .inr (1, [.ref r, .int (nI w)])), (r, .inl (g.2.1, 32768, .inl (bA v)))]) (wr := []) (cells' := 0) (slots' := 0) hP hD hS hA [0, 1] [] rfl rfl (by decide) (by decide) rfl rfl (va_runV (n := 1) (As := [.int (nI (w - d))]) (rest := [.ref q]) (C := R_Bytes) ⟨hx, hb, hml, hown, hE.hts⟩ (c_Bytes_at l g q r w v (w - d) (by omega) _) ⟨pc_cb hE m_249 m_2 m_335 (by decide +kernel) ⟨by exact Nat.le_of_ble_eq_true rfl, by exact Nat.le_of_ble_eq_true rfl⟩, hE.w m_248, hE.w ms_6⟩ (pc_preV (ci := 1) (q0 := 0) hP hD hE hS hA [0, 1] (by decide) rfl [.int (nI (w - d))] rfl rfl) rfl rfl hl.1 rfl (lv_room (by exact Nat.le_of_ble_eq_true rfl)) d_Bytes_addFromBack_15 ⟨by exact Nat.le_of_ble_eq_true rfl, by exact Nat.le_of_ble_eq_true rfl⟩) (fun r_3 u_2 H locs hw hP hD hS => ?_)
        obtain rfl := hw
        have hP : va_P g.1 pc_cl [(q, .inr (1, [.ref r, .int (nI w)])), (r, .inl (g.2.1, 32768, .inl (bA v)))] H := hP
        have hD : va_D A [(q, .inr (1, [.ref r, .int (nI w)])), (r, .inl (g.2.1, 32768, .inl (bA v)))] := hD
        refine pc_v (wc := [(q, .inr (1, [.ref r, .int (nI w)])), (r, .inl (g.2.1, 32768, .inl (bA v)))]) (wr := []) (cells' := 0) (slots' := 0) hP hD hS hA [0, 1] [] rfl rfl (by decide) (by decide) rfl rfl (va_runV (n := 1) (As := [.int (nI (bN v (w - d)))]) (rest := []) (C := R_Bytes) ⟨hx, hb, hml, hown, hE.hts⟩ (c_Bytes_add l g q r w v (bN v (w - d)) (by omega) _) ⟨pc_cb hE m_188 m_2 m_185 (by decide +kernel) ⟨by exact Nat.le_of_ble_eq_true rfl, by exact Nat.le_of_ble_eq_true rfl⟩, hE.w m_187, hE.w ms_3⟩ (pc_preV (ci := 1) (q0 := 0) hP hD hE hS hA [0, 1] (by decide) rfl [.int (nI (bN v (w - d)))] rfl rfl) rfl rfl hl.1 rfl (lv_room (by exact Nat.le_of_ble_eq_true rfl)) d_Bytes_addFromBack_18 ⟨by exact Nat.le_of_ble_eq_true rfl, by exact Nat.le_of_ble_eq_true rfl⟩) (fun u_4 H locs hw hP hD hS => ?_)
        have hP : va_P g.1 pc_cl [(q, .inr (1, [.ref r, .int (nI (w + 1))])), (r, .inl (g.2.1, 32768, .inl (bA (upB v w (bN v (w - d))))))] H := hP
        have hD : va_D A [(q, .inr (1, [.ref r, .int (nI (w + 1))])), (r, .inl (g.2.1, 32768, .inl (bA (upB v w (bN v (w - d))))))] := hD
        refine lv_iinc (v := nI (i + 1)) (lv' := [(3, .int (nI (i + 1))), (0, .ref q), (1, .int (nI d)), (2, .int (nI k))]) hx hb d_Bytes_addFromBack_21 hl (k := 3) rfl (pc_inc i 1) (by decide) rfl (fun ls hl => ?_)
        refine lv_goto (tgt := 2) hx hb d_Bytes_addFromBack_24 (by decide) ?_
        exact ih_2 (i + 1) (w + 1) (upB v w (bN v (w - d))) (by omega) (by omega) ((backL_step (by omega) (by omega) (by omega)).symm.trans hb2) (by omega) _ _ (hP.sub [0, 1] rfl) (hD.sub [0, 1] (by decide) rfl) hS _ (lv_sub hl [1, 2, 3, 0] rfl)
  exact lp_2 (k - 0 + 1) 0 n t (by omega) (by omega) rfl (Nat.lt_succ_self _) _ _ (hP.sub [0, 1] rfl) (hD.sub [0, 1] (by decide) rfl) hS _ (lv_sub hl [1, 2, 3, 0] rfl)
abbrev rm_Bytes_countSame : Room := { frames := 0, cells := 0, slots := 0, locals := 0 }
set_option maxHeartbeats 1000000 in
set_option maxRecDepth 100000 in
/-- how many bytes are the same -/
theorem c_Bytes_countSame (l : Launch) (g : pc_G) (q : Nat) (r : Nat) (n : Nat) (t : Nat → UInt8) (a : Nat) (b : Nat) (k : Nat) (ha : a + k ≤ 32768) (hb2 : b + k ≤ 32768) : pc_Ci (S := Nat) l y_Bytes_countSame prog_2_method_8_code 5 .int rm_Bytes_countSame g [(q, .inr (1, [.ref r, .int (nI n)])), (r, .inl (g.2.1, 32768, .inl (bA t)))] [.ref q, .int (nI a), .int (nI b), .int (nI k)] (fun rv u => rv = nI u ∧ lcp t a b k u) (fun u => [(q, .inr (1, [.ref r, .int (nI n)])), (r, .inl (g.2.1, 32768, .inl (bA t)))]) := by
  refine pc_Ci.of (by decide) (by exact Nat.le_of_ble_eq_true rfl) ?_
  intro p e s m below meth c A Q hx hb hml hown hE hA hQ hP hD ls hl
  have hS : va_S A s.heap s.heap [] := va_S.rf
  have hl : lv_has ls 5 [(0, .ref q), (1, .int (nI a)), (2, .int (nI b)), (3, .int (nI k))] := hl
  refine lv_iconst (v := nI 0) hx hb d_Bytes_countSame_0 (by decide) ?_
  refine lv_istore (lv' := [(4, .int (nI 0)), (0, .ref q), (1, .int (nI a)), (2, .int (nI b)), (3, .int (nI k))]) hx hb d_Bytes_countSame_1 hl (by decide) rfl (fun ls hl => ?_)
  have lp_3 : ∀ (n9 : Nat) (i : Nat) (hi : i ≤ k) (he : ∀ j, j < i → bN t (a + j) = bN t (b + j)) (hmu : k - i < n9) (H : Heap) (locs : List Loc) (hP : va_P g.1 pc_cl [(q, .inr (1, [.ref r, .int (nI n)])), (r, .inl (g.2.1, 32768, .inl (bA t)))] H) (hD : va_D A [(q, .inr (1, [.ref r, .int (nI n)])), (r, .inl (g.2.1, 32768, .inl (bA t)))]) (hS : va_S A s.heap H locs) (ls : Array Slot) (hl : lv_has ls 5 [(0, .ref q), (1, .int (nI a)), (2, .int (nI b)), (3, .int (nI k)), (4, .int (nI i))]), W p l e rm_Bytes_countSame s m ([.ref q, .int (nI a), .int (nI b), .int (nI k)] : List Value).toArray below meth c H locs 0 0 Q (F0 m 3 ls []) := by
    intro n9
    induction n9 with
    | zero => intros; omega
    | succ n9 ih_3 =>
      intro i hi he hmu H locs hP hD hS ls hl
      refine lv_iload hx hb d_Bytes_countSame_3 (lv_at hl 4 rfl) ?_
      refine lv_iload_n hx hb d_Bytes_countSame_5 rfl (lv_at hl 3 rfl) ?_
      refine pc_jge (tgt := 36) hx hb d_Bytes_countSame_6 (by decide) (by omega) (by omega) (fun h_1 => ?_) (fun h_1 => ?_)
      · skip
        refine lv_iload hx hb d_Bytes_countSame_36 (lv_at hl 4 rfl) ?_
        exact hQ _ _ 38 _ (nI i) i d_Bytes_countSame_38 rfl (⟨rfl, ⟨hi, he, by first | exact Or.inl (by omega) | exact Or.inr (by assumption)⟩⟩) (hP.sub [0, 1] rfl) (hD.sub [0, 1] (by decide) rfl) hS
      · skip
        refine lv_aload_n hx hb d_Bytes_countSame_9 rfl (lv_at hl 0 rfl) ?_
        refine va_get (ci := 1) (C := R_Bytes) (T := F_Bytes) (N := 2) hx hb hE.hts in_Bytes hown hE.2.1 hP 0 rfl rfl 0 (by decide) (hE.w m_35) (fun _ h9 => h9) rfl d_Bytes_countSame_10 ?_
        refine lv_iload_n hx hb d_Bytes_countSame_13 rfl (lv_at hl 1 rfl) ?_
        refine lv_iload hx hb d_Bytes_countSame_14 (lv_at hl 4 rfl) ?_
        refine lv_iadd hx hb d_Bytes_countSame_16 ?_
        refine pc_ti (y := nI (a + i)) (nI_add _ _) ?_
        refine pc_bald hx hb hE.2.1 hP 1 0 rfl rfl (by omega) (by omega) d_Bytes_countSame_17 ?_
        refine lv_aload_n hx hb d_Bytes_countSame_18 rfl (lv_at hl 0 rfl) ?_
        refine va_get (ci := 1) (C := R_Bytes) (T := F_Bytes) (N := 2) hx hb hE.hts in_Bytes hown hE.2.1 hP 0 rfl rfl 0 (by decide) (hE.w m_35) (fun _ h9 => h9) rfl d_Bytes_countSame_19 ?_
        refine lv_iload_n hx hb d_Bytes_countSame_22 rfl (lv_at hl 2 rfl) ?_
        refine lv_iload hx hb d_Bytes_countSame_23 (lv_at hl 4 rfl) ?_
        refine lv_iadd hx hb d_Bytes_countSame_25 ?_
        refine pc_ti (y := nI (b + i)) (nI_add _ _) ?_
        refine pc_bald hx hb hE.2.1 hP 1 0 rfl rfl (by omega) (by omega) d_Bytes_countSame_26 ?_
        refine lv_icmp_ne (tgt := 36) hx hb d_Bytes_countSame_27 (by decide) (fun h_2 => ?_) (fun h_2 => ?_)
        · skip
          have h_2 := fun z => h_2 ((bA_eq _ _ _).mpr z)
          refine lv_iload hx hb d_Bytes_countSame_36 (lv_at hl 4 rfl) ?_
          exact hQ _ _ 38 _ (nI i) i d_Bytes_countSame_38 rfl (⟨rfl, ⟨hi, he, by first | exact Or.inl (by omega) | exact Or.inr (by assumption)⟩⟩) (hP.sub [0, 1] rfl) (hD.sub [0, 1] (by decide) rfl) hS
        · skip
          have h_2 := (bA_eq _ _ _).mp h_2
          refine lv_iinc (v := nI (i + 1)) (lv' := [(4, .int (nI (i + 1))), (0, .ref q), (1, .int (nI a)), (2, .int (nI b)), (3, .int (nI k))]) hx hb d_Bytes_countSame_30 hl (k := 4) rfl (pc_inc i 1) (by decide) rfl (fun ls hl => ?_)
          refine lv_goto (tgt := 3) hx hb d_Bytes_countSame_33 (by decide) ?_
          exact ih_3 (i + 1) (by omega) (lt_s he (by assumption)) (by omega) _ _ (hP.sub [0, 1] rfl) (hD.sub [0, 1] (by decide) rfl) hS _ (lv_sub hl [1, 2, 3, 4, 0] rfl)
  exact lp_3 (k - 0 + 1) 0 (by omega) (fun j hj => absurd hj (Nat.not_lt_zero j)) (Nat.lt_succ_self _) _ _ (hP.sub [0, 1] rfl) (hD.sub [0, 1] (by decide) rfl) hS _ (lv_sub hl [1, 2, 3, 4, 0] rfl)
abbrev rm_Ints_init : Room := { frames := 1, cells := 1, slots := 32768, locals := 12 }
set_option maxHeartbeats 1000000 in
set_option maxRecDepth 100000 in
/-- a new list of numbers: empty -/
theorem c_Ints_init (l : Launch) (g : pc_G) (q : Nat) (n : Int32) : pc_Cv (S := Nat) l y_Ints_init prog_4_method_1_code 1 rm_Ints_init g [(q, .inr (2, [.null, .int n]))] [.ref q] (fun u => True) (fun u => [(q, .inr (2, [.ref u, .int (nI 0)])), (u, .inl (g.2.2.1, 32768, .inl (fun _ => 0)))]) := by
  refine pc_Cv.of (by decide) (by exact Nat.le_of_ble_eq_true rfl) ?_
  intro p e s m below meth c A Q hx hb hml hown hE hA hnm hQ hP hD ls hl
  have hS : va_S A s.heap s.heap [] := va_S.rf
  have hl : lv_has ls 1 [(0, .ref q)] := hl
  refine lv_aload_n hx hb d_Ints_init_0 rfl (lv_at hl 0 rfl) ?_
  refine W.objInit hx hb hown (hE.w m_72) (hE.w m_26) (hE.w m_27) rfl (by rw [hml]; exact hl.1) rfl d_Ints_init_1 (by exact Nat.le_of_ble_eq_true rfl) (by exact Nat.le_of_ble_eq_true rfl) ?_
  refine W.eq (g2 := F0 m 4 ls []) rfl ?_
  refine lv_aload_n hx hb d_Ints_init_4 rfl (lv_at hl 0 rfl) ?_
  refine lv_ldc hx hb hown (hE.w m_73) d_Ints_init_5 ?_
  refine pc_ti (y := nI 32768) (by decide) ?_
  refine pc_newa (atype := .int) (ty := .int) (a0 := (32768, .inl (fun _ => 0))) hx hb (hE.w m_66) rfl hE.2.1 hP hD hS hA 1 rfl (fun cA => pc_z32 cA 32768) (nI_pos (by omega)) (nI_clamp (by omega)) (by show 32768 * 4 ≤ 536870912; omega) (by exact Nat.le_of_ble_eq_true rfl) (by exact Nat.le_of_ble_eq_true rfl) d_Ints_init_7 (fun q_1 H hP hD hS => ?_)
  have hP : va_P g.1 pc_cl [(q, .inr (2, [.null, .int n])), (q_1, .inl (g.2.2.1, 32768, .inl (fun _ => 0)))] H := hP
  have hD : va_D A [(q, .inr (2, [.null, .int n])), (q_1, .inl (g.2.2.1, 32768, .inl (fun _ => 0)))] := hD
  refine W.cs (cells' := 1) (slots' := 32768) rfl rfl ?_
  refine va_putF (ci := 2) (ty := .array .int) (C := R_Ints) (T := F_Ints) (N := 2) hx hb hE.hts in_Ints t_Ints tk_Ints nn_Ints hown hE.2.1 hP hD hS 0 rfl rfl 0 (by decide) (hE.w m_74) (fun _ h9 => h9) rfl (hnm "<init>" rfl) rfl (by decide +kernel) (by rfl) (by rfl) (by exact Nat.le_of_ble_eq_true rfl) d_Ints_init_9 (fun H locs hP hD hS => ?_)
  have hP : va_P g.1 pc_cl [(q, .inr (2, [.ref q_1, .int n])), (q_1, .inl (g.2.2.1, 32768, .inl (fun _ => 0)))] H := hP
  have hD : va_D A [(q, .inr (2, [.ref q_1, .int n])), (q_1, .inl (g.2.2.1, 32768, .inl (fun _ => 0)))] := hD
  refine lv_aload_n hx hb d_Ints_init_12 rfl (lv_at hl 0 rfl) ?_
  refine lv_iconst (v := nI 0) hx hb d_Ints_init_13 (by decide) ?_
  refine va_put (ci := 2) (ty := .int) (C := R_Ints) (T := F_Ints) (N := 2) hx hb hE.hts in_Ints t_Ints tk_Ints nn_Ints hown hE.2.1 hP hD hS 0 rfl rfl 1 (by decide) (hE.w m_76) (fun _ h9 => h9) rfl (by decide +kernel) (by rfl) (by rfl) (by exact Nat.le_of_ble_eq_true rfl) d_Ints_init_14 (fun H locs hP hD hS => ?_)
  have hP : va_P g.1 pc_cl [(q, .inr (2, [.ref q_1, .int (nI 0)])), (q_1, .inl (g.2.2.1, 32768, .inl (fun _ => 0)))] H := hP
  have hD : va_D A [(q, .inr (2, [.ref q_1, .int (nI 0)])), (q_1, .inl (g.2.2.1, 32768, .inl (fun _ => 0)))] := hD
  exact hQ _ _ 17 _ q_1 d_Ints_init_17 trivial (hP.sub [0, 1] rfl) (hD.sub [0, 1] (by decide) rfl) hS
abbrev rm_Ints_add : Room := { frames := 0, cells := 0, slots := 0, locals := 0 }
set_option maxHeartbeats 1000000 in
set_option maxRecDepth 100000 in
/-- a number more -/
theorem c_Ints_add (l : Launch) (g : pc_G) (q : Nat) (r : Nat) (n : Nat) (f : Nat → Int32) (x : Int32) (hn : n < 32768) : pc_Cv (S := Unit) l y_Ints_add prog_4_method_2_code 2 rm_Ints_add g [(q, .inr (2, [.ref r, .int (nI n)])), (r, .inl (g.2.2.1, 32768, .inl f))] [.ref q, .int x] (fun _ => True) (fun _ => [(q, .inr (2, [.ref r, .int (nI (n + 1))])), (r, .inl (g.2.2.1, 32768, .inl (upd f n x)))]) := by
  refine pc_Cv.of (by decide) (by exact Nat.le_of_ble_eq_true rfl) ?_
  intro p e s m below meth c A Q hx hb hml hown hE hA hnm hQ hP hD ls hl
  have hS : va_S A s.heap s.heap [] := va_S.rf
  have hl : lv_has ls 2 [(0, .ref q), (1, .int x)] := hl
  refine lv_aload_n hx hb d_Ints_add_0 rfl (lv_at hl 0 rfl) ?_
  refine va_get (ci := 2) (C := R_Ints) (T := F_Ints) (N := 2) hx hb hE.hts in_Ints hown hE.2.1 hP 0 rfl rfl 0 (by decide) (hE.w m_74) (fun _ h9 => h9) rfl d_Ints_add_1 ?_
  refine lv_aload_n hx hb d_Ints_add_4 rfl (lv_at hl 0 rfl) ?_
  refine va_get (ci := 2) (C := R_Ints) (T := F_Ints) (N := 2) hx hb hE.hts in_Ints hown hE.2.1 hP 0 rfl rfl 1 (by decide) (hE.w m_76) (fun _ h9 => h9) rfl d_Ints_add_5 ?_
  refine lv_iload_n hx hb d_Ints_add_8 rfl (lv_at hl 1 rfl) ?_
  refine pc_iast hx hb hE.2.1 hP hD hS 1 1 rfl rfl (by omega) (by omega) d_Ints_add_9 (fun H locs hP hD hS => ?_)
  have hP : va_P g.1 pc_cl [(q, .inr (2, [.ref r, .int (nI n)])), (r, .inl (g.2.2.1, 32768, .inl (upd f n x)))] H := hP
  have hD : va_D A [(q, .inr (2, [.ref r, .int (nI n)])), (r, .inl (g.2.2.1, 32768, .inl (upd f n x)))] := hD
  refine lv_aload_n hx hb d_Ints_add_10 rfl (lv_at hl 0 rfl) ?_
  refine lv_dup hx hb d_Ints_add_11 rfl ?_
  refine va_get (ci := 2) (C := R_Ints) (T := F_Ints) (N := 2) hx hb hE.hts in_Ints hown hE.2.1 hP 0 rfl rfl 1 (by decide) (hE.w m_76) (fun _ h9 => h9) rfl d_Ints_add_12 ?_
  refine lv_iconst (v := nI 1) hx hb d_Ints_add_15 (by decide) ?_
  refine lv_iadd hx hb d_Ints_add_16 ?_
  refine pc_ti (y := nI (n + 1)) (nI_add _ _) ?_
  refine va_put (ci := 2) (ty := .int) (C := R_Ints) (T := F_Ints) (N := 2) hx hb hE.hts in_Ints t_Ints tk_Ints nn_Ints hown hE.2.1 hP hD hS 0 rfl rfl 1 (by decide) (hE.w m_76) (fun _ h9 => h9) rfl (by decide +kernel) (by rfl) (by rfl) (by exact Nat.le_of_ble_eq_true rfl) d_Ints_add_17 (fun H locs hP hD hS => ?_)
  have hP : va_P g.1 pc_cl [(q, .inr (2, [.ref r, .int (nI (n + 1))])), (r, .inl (g.2.2.1, 32768, .inl (upd f n x)))] H := hP
  have hD : va_D A [(q, .inr (2, [.ref r, .int (nI (n + 1))])), (r, .inl (g.2.2.1, 32768, .inl (upd f n x)))] := hD
  exact hQ _ _ 20 _ () d_Ints_add_20 trivial (hP.sub [0, 1] rfl) (hD.sub [0, 1] (by decide) rfl) hS
