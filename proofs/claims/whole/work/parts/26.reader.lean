abbrev rm_Reader_init : Room := { frames := 1, cells := 0, slots := 0, locals := 12 }
set_option maxHeartbeats 1000000 in
set_option maxRecDepth 100000 in
/-- a reader at the first byte -/
theorem c_Reader_init (l : Launch) (g : pc_G) (o : Nat) (q : Nat) (x : Int32) : pc_Cv (S := Unit) l y_Reader_init prog_6_method_1_code 2 rm_Reader_init g [(o, .inr (4, [.null, .int x]))] [.ref o, .ref q] (fun _ => True) (fun _ => [(o, .inr (4, [.ref q, .int (nI 0)]))]) := by
  refine pc_Cv.of (by decide) (by exact Nat.le_of_ble_eq_true rfl) ?_
  intro p e s m below meth c A Q hx hb hml hown hE hA hnm hQ hP hD ls hl
  have hS : va_S A s.heap s.heap [] := va_S.rf
  have hl : lv_has ls 2 [(0, .ref o), (1, .ref q)] := hl
  refine lv_aload_n hx hb d_Reader_init_0 rfl (lv_at hl 0 rfl) ?_
  refine W.objInit hx hb hown (hE.w m_291) (hE.w m_26) (hE.w m_27) rfl (by rw [hml]; exact hl.1) rfl d_Reader_init_1 (by exact Nat.le_of_ble_eq_true rfl) (by exact Nat.le_of_ble_eq_true rfl) ?_
  refine W.eq (g2 := F0 m 4 ls []) rfl ?_
  refine lv_aload_n hx hb d_Reader_init_4 rfl (lv_at hl 0 rfl) ?_
  refine lv_iconst (v := nI 0) hx hb d_Reader_init_5 (by decide) ?_
  refine va_put (ci := 4) (ty := .int) (C := R_Reader) (T := F_Reader) (N := 2) hx hb hE.hts in_Reader t_Reader tk_Reader nn_Reader hown hE.2.1 hP hD hS 0 rfl rfl 1 (by decide) (hE.w m_293) (fun _ h9 => h9) rfl (by decide +kernel) (by rfl) (by rfl) (by exact Nat.le_of_ble_eq_true rfl) d_Reader_init_6 (fun H locs hP hD hS => ?_)
  have hP : va_P g.1 pc_cl [(o, .inr (4, [.null, .int (nI 0)]))] H := hP
  have hD : va_D A [(o, .inr (4, [.null, .int (nI 0)]))] := hD
  refine lv_aload_n hx hb d_Reader_init_9 rfl (lv_at hl 0 rfl) ?_
  refine lv_aload_n hx hb d_Reader_init_10 rfl (lv_at hl 1 rfl) ?_
  refine va_putF (ci := 4) (ty := .object "PackColumns$Bytes") (C := R_Reader) (T := F_Reader) (N := 2) hx hb hE.hts in_Reader t_Reader tk_Reader nn_Reader hown hE.2.1 hP hD hS 0 rfl rfl 0 (by decide) (hE.w m_292) (fun _ h9 => h9) rfl (hnm "<init>" rfl) rfl (by decide +kernel) (by rfl) (by rfl) (by exact Nat.le_of_ble_eq_true rfl) d_Reader_init_11 (fun H locs hP hD hS => ?_)
  have hP : va_P g.1 pc_cl [(o, .inr (4, [.ref q, .int (nI 0)]))] H := hP
  have hD : va_D A [(o, .inr (4, [.ref q, .int (nI 0)]))] := hD
  exact hQ _ _ 14 _ () d_Reader_init_14 trivial (hP.sub [0] rfl) (hD.sub [0] (by decide) rfl) hS
abbrev rm_Reader_left : Room := { frames := 0, cells := 0, slots := 0, locals := 0 }
set_option maxHeartbeats 1000000 in
set_option maxRecDepth 100000 in
/-- how many bytes are left -/
theorem c_Reader_left (l : Launch) (g : pc_G) (o : Nat) (p0 : Nat) (q : Nat) (r : Nat) (n : Nat) (t : Nat → UInt8) (hp : p0 ≤ n) (hn : n ≤ 32768) : pc_Ci (S := Unit) l y_Reader_left prog_6_method_2_code 1 .int rm_Reader_left g [(o, .inr (4, [.ref q, .int (nI p0)])), (q, .inr (1, [.ref r, .int (nI n)])), (r, .inl (g.2.1, 32768, .inl (bA t)))] [.ref o] (fun rv _ => rv = nI (n - p0)) (fun _ => [(o, .inr (4, [.ref q, .int (nI p0)])), (q, .inr (1, [.ref r, .int (nI n)])), (r, .inl (g.2.1, 32768, .inl (bA t)))]) := by
  refine pc_Ci.of (by decide) (by exact Nat.le_of_ble_eq_true rfl) ?_
  intro p e s m below meth c A Q hx hb hml hown hE hA hQ hP hD ls hl
  have hS : va_S A s.heap s.heap [] := va_S.rf
  have hl : lv_has ls 1 [(0, .ref o)] := hl
  refine lv_aload_n hx hb d_Reader_left_0 rfl (lv_at hl 0 rfl) ?_
  refine va_get (ci := 4) (C := R_Reader) (T := F_Reader) (N := 2) hx hb hE.hts in_Reader hown hE.2.1 hP 0 rfl rfl 0 (by decide) (hE.w m_292) (fun _ h9 => h9) rfl d_Reader_left_1 ?_
  refine va_getN (ci := 1) (C := R_Bytes) (T := F_Bytes) (N := 2) hx hb hE.hts in_Bytes hown hE.2.1 hP 1 rfl rfl 1 (by decide) (hE.w m_38) (fun _ h9 => h9) rfl d_Reader_left_4 ?_
  refine lv_aload_n hx hb d_Reader_left_7 rfl (lv_at hl 0 rfl) ?_
  refine va_get (ci := 4) (C := R_Reader) (T := F_Reader) (N := 2) hx hb hE.hts in_Reader hown hE.2.1 hP 0 rfl rfl 1 (by decide) (hE.w m_293) (fun _ h9 => h9) rfl d_Reader_left_8 ?_
  refine lv_isub hx hb d_Reader_left_11 ?_
  refine pc_ti (y := nI (n - p0)) (pk_sub (by omega)) ?_
  exact hQ _ _ 12 _ (nI (n - p0)) () d_Reader_left_12 rfl rfl (hP.sub [0, 1, 2] rfl) (hD.sub [0, 1, 2] (by decide) rfl) hS
abbrev rm_Reader_takeByte : Room := { frames := 1, cells := 0, slots := 0, locals := 21 }
set_option maxHeartbeats 1000000 in
set_option maxRecDepth 100000 in
/-- the next byte, or -1 -/
theorem c_Reader_takeByte (l : Launch) (g : pc_G) (o : Nat) (p0 : Nat) (q : Nat) (r : Nat) (n : Nat) (t : Nat → UInt8) (hp : p0 ≤ n) (hn : n ≤ 32768) : pc_Ci (S := Nat) l y_Reader_takeByte prog_6_method_3_code 2 .int rm_Reader_takeByte g [(o, .inr (4, [.ref q, .int (nI p0)])), (q, .inr (1, [.ref r, .int (nI n)])), (r, .inl (g.2.1, 32768, .inl (bA t)))] [.ref o] (fun rv u => ((n ≤ p0 ∧ rv = -1 ∧ u = p0) ∨ (p0 < n ∧ rv = nI (bN t p0) ∧ u = p0 + 1))) (fun u => [(o, .inr (4, [.ref q, .int (nI u)])), (q, .inr (1, [.ref r, .int (nI n)])), (r, .inl (g.2.1, 32768, .inl (bA t)))]) := by
  refine pc_Ci.of (by decide) (by exact Nat.le_of_ble_eq_true rfl) ?_
  intro p e s m below meth c A Q hx hb hml hown hE hA hQ hP hD ls hl
  have hS : va_S A s.heap s.heap [] := va_S.rf
  have hl : lv_has ls 2 [(0, .ref o)] := hl
  refine lv_aload_n hx hb d_Reader_takeByte_0 rfl (lv_at hl 0 rfl) ?_
  refine pc_i (wc := [(o, .inr (4, [.ref q, .int (nI p0)])), (q, .inr (1, [.ref r, .int (nI n)])), (r, .inl (g.2.1, 32768, .inl (bA t)))]) (wr := []) (cells' := 0) (slots' := 0) hP hD hS hA [0, 1, 2] [] rfl rfl (by decide) (by decide) rfl rfl (va_runV (n := 0) (As := []) (rest := []) (C := R_Reader) ⟨hx, hb, hml, hown, hE.hts⟩ (c_Reader_left l g o p0 q r n t (by omega) (by omega) _) ⟨pc_cb hE m_313 m_15 m_310 (by decide +kernel) ⟨by exact Nat.le_of_ble_eq_true rfl, by exact Nat.le_of_ble_eq_true rfl⟩, hE.w m_312, hE.w ms_14⟩ (pc_preV (ci := 4) (q0 := 0) hP hD hE hS hA [0, 1, 2] (by decide) rfl [] rfl rfl) rfl rfl hl.1 rfl (lv_room (by exact Nat.le_of_ble_eq_true rfl)) d_Reader_takeByte_1 ⟨by exact Nat.le_of_ble_eq_true rfl, by exact Nat.le_of_ble_eq_true rfl⟩) (fun r_2 u_1 H locs hw hP hD hS => ?_)
  obtain rfl := hw
  have hP : va_P g.1 pc_cl [(o, .inr (4, [.ref q, .int (nI p0)])), (q, .inr (1, [.ref r, .int (nI n)])), (r, .inl (g.2.1, 32768, .inl (bA t)))] H := hP
  have hD : va_D A [(o, .inr (4, [.ref q, .int (nI p0)])), (q, .inr (1, [.ref r, .int (nI n)])), (r, .inl (g.2.1, 32768, .inl (bA t)))] := hD
  refine pc_zgt (tgt := 9) hx hb d_Reader_takeByte_4 (by decide) (by omega) (fun h_3 => ?_) (fun h_3 => ?_)
  · skip
    refine lv_aload_n hx hb d_Reader_takeByte_9 rfl (lv_at hl 0 rfl) ?_
    refine va_get (ci := 4) (C := R_Reader) (T := F_Reader) (N := 2) hx hb hE.hts in_Reader hown hE.2.1 hP 0 rfl rfl 0 (by decide) (hE.w m_292) (fun _ h9 => h9) rfl d_Reader_takeByte_10 ?_
    refine lv_aload_n hx hb d_Reader_takeByte_13 rfl (lv_at hl 0 rfl) ?_
    refine va_get (ci := 4) (C := R_Reader) (T := F_Reader) (N := 2) hx hb hE.hts in_Reader hown hE.2.1 hP 0 rfl rfl 1 (by decide) (hE.w m_293) (fun _ h9 => h9) rfl d_Reader_takeByte_14 ?_
    refine pc_i (wc := [(q, .inr (1, [.ref r, .int (nI n)])), (r, .inl (g.2.1, 32768, .inl (bA t)))]) (wr := [(o, .inr (4, [.ref q, .int (nI p0)]))]) (cells' := 0) (slots' := 0) hP hD hS hA [1, 2] [0] rfl rfl (by decide) (by decide) rfl rfl (va_runVN (n := 1) (As := [.int (nI p0)]) (rest := []) (C := R_Bytes) ⟨hx, hb, hml, hown, hE.hts⟩ (c_Bytes_at l g q r n t p0 (by omega) _) ⟨pc_cn hE m_249 m_2 m_314 (by decide +kernel) ⟨by exact Nat.le_of_ble_eq_true rfl, by exact Nat.le_of_ble_eq_true rfl⟩, hE.w m_248, hE.w ms_6⟩ (pc_preV (ci := 1) (q0 := 1) hP hD hE hS hA [1, 2] (by decide) rfl [.int (nI p0)] rfl rfl) rfl rfl hl.1 rfl (lv_room (by exact Nat.le_of_ble_eq_true rfl)) d_Reader_takeByte_17 ⟨by exact Nat.le_of_ble_eq_true rfl, by exact Nat.le_of_ble_eq_true rfl⟩) (fun r_5 u_4 H locs hw hP hD hS => ?_)
    obtain rfl := hw
    have hP : va_P g.1 pc_cl [(o, .inr (4, [.ref q, .int (nI p0)])), (q, .inr (1, [.ref r, .int (nI n)])), (r, .inl (g.2.1, 32768, .inl (bA t)))] H := hP
    have hD : va_D A [(o, .inr (4, [.ref q, .int (nI p0)])), (q, .inr (1, [.ref r, .int (nI n)])), (r, .inl (g.2.1, 32768, .inl (bA t)))] := hD
    refine lv_istore_n (lv' := [(1, .int (nI (bN t p0))), (0, .ref o)]) hx hb d_Reader_takeByte_20 rfl hl (by decide) rfl (fun ls hl => ?_)
    refine lv_aload_n hx hb d_Reader_takeByte_21 rfl (lv_at hl 1 rfl) ?_
    refine lv_dup hx hb d_Reader_takeByte_22 rfl ?_
    refine va_get (ci := 4) (C := R_Reader) (T := F_Reader) (N := 2) hx hb hE.hts in_Reader hown hE.2.1 hP 0 rfl rfl 1 (by decide) (hE.w m_293) (fun _ h9 => h9) rfl d_Reader_takeByte_23 ?_
    refine lv_iconst (v := nI 1) hx hb d_Reader_takeByte_26 (by decide) ?_
    refine lv_iadd hx hb d_Reader_takeByte_27 ?_
    refine pc_ti (y := nI (p0 + 1)) (nI_add _ _) ?_
    refine va_put (ci := 4) (ty := .int) (C := R_Reader) (T := F_Reader) (N := 2) hx hb hE.hts in_Reader t_Reader tk_Reader nn_Reader hown hE.2.1 hP hD hS 0 rfl rfl 1 (by decide) (hE.w m_293) (fun _ h9 => h9) rfl (by decide +kernel) (by rfl) (by rfl) (by exact Nat.le_of_ble_eq_true rfl) d_Reader_takeByte_28 (fun H locs hP hD hS => ?_)
    have hP : va_P g.1 pc_cl [(o, .inr (4, [.ref q, .int (nI (p0 + 1))])), (q, .inr (1, [.ref r, .int (nI n)])), (r, .inl (g.2.1, 32768, .inl (bA t)))] H := hP
    have hD : va_D A [(o, .inr (4, [.ref q, .int (nI (p0 + 1))])), (q, .inr (1, [.ref r, .int (nI n)])), (r, .inl (g.2.1, 32768, .inl (bA t)))] := hD
    refine lv_iload_n hx hb d_Reader_takeByte_31 rfl (lv_at hl 0 rfl) ?_
    exact hQ _ _ 32 _ (nI (bN t p0)) (p0 + 1) d_Reader_takeByte_32 rfl (Or.inr ⟨by omega, rfl, rfl⟩) (hP.sub [0, 1, 2] rfl) (hD.sub [0, 1, 2] (by decide) rfl) hS
  · skip
    refine lv_iconst (v := (-1)) hx hb d_Reader_takeByte_7 (by decide) ?_
    exact hQ _ _ 8 _ (-1) p0 d_Reader_takeByte_8 rfl (Or.inl ⟨by omega, rfl, rfl⟩) (hP.sub [0, 1, 2] rfl) (hD.sub [0, 1, 2] (by decide) rfl) hS
abbrev rm_Reader_takeRun : Room := { frames := 2, cells := 0, slots := 0, locals := 63 }
set_option maxHeartbeats 1000000 in
set_option maxRecDepth 100000 in
/-- a run of bytes taken -/
theorem c_Reader_takeRun (l : Launch) (g : pc_G) (o : Nat) (p0 : Nat) (q : Nat) (r : Nat) (n : Nat) (t : Nat → UInt8) (q2 : Nat) (r2 : Nat) (n2 : Nat) (t2 : Nat → UInt8) (k : Nat) (hp : p0 + k ≤ n) (hn : n ≤ 32768) (hn2 : n2 + k ≤ 32768) : pc_Cv (S := Unit) l y_Reader_takeRun prog_6_method_4_code 3 rm_Reader_takeRun g [(o, .inr (4, [.ref q, .int (nI p0)])), (q, .inr (1, [.ref r, .int (nI n)])), (r, .inl (g.2.1, 32768, .inl (bA t))), (q2, .inr (1, [.ref r2, .int (nI n2)])), (r2, .inl (g.2.1, 32768, .inl (bA t2)))] [.ref o, .int (nI k), .ref q2] (fun _ => True) (fun _ => [(o, .inr (4, [.ref q, .int (nI (p0 + k))])), (q, .inr (1, [.ref r, .int (nI n)])), (r, .inl (g.2.1, 32768, .inl (bA t))), (q2, .inr (1, [.ref r2, .int (nI (n2 + k))])), (r2, .inl (g.2.1, 32768, .inl (bA (va_cpy t t2 p0 n2 k))))]) := by
  refine pc_Cv.of (by decide) (by exact Nat.le_of_ble_eq_true rfl) ?_
  intro p e s m below meth c A Q hx hb hml hown hE hA hnm hQ hP hD ls hl
  have hS : va_S A s.heap s.heap [] := va_S.rf
  have hl : lv_has ls 3 [(0, .ref o), (1, .int (nI k)), (2, .ref q2)] := hl
  refine lv_aload_n hx hb d_Reader_takeRun_0 rfl (lv_at hl 2 rfl) ?_
  refine lv_aload_n hx hb d_Reader_takeRun_1 rfl (lv_at hl 0 rfl) ?_
  refine va_get (ci := 4) (C := R_Reader) (T := F_Reader) (N := 2) hx hb hE.hts in_Reader hown hE.2.1 hP 0 rfl rfl 0 (by decide) (hE.w m_292) (fun _ h9 => h9) rfl d_Reader_takeRun_2 ?_
  refine lv_aload_n hx hb d_Reader_takeRun_5 rfl (lv_at hl 0 rfl) ?_
  refine va_get (ci := 4) (C := R_Reader) (T := F_Reader) (N := 2) hx hb hE.hts in_Reader hown hE.2.1 hP 0 rfl rfl 1 (by decide) (hE.w m_293) (fun _ h9 => h9) rfl d_Reader_takeRun_6 ?_
  refine lv_iload_n hx hb d_Reader_takeRun_9 rfl (lv_at hl 1 rfl) ?_
  refine pc_v (wc := [(q2, .inr (1, [.ref r2, .int (nI n2)])), (r2, .inl (g.2.1, 32768, .inl (bA t2))), (q, .inr (1, [.ref r, .int (nI n)])), (r, .inl (g.2.1, 32768, .inl (bA t)))]) (wr := [(o, .inr (4, [.ref q, .int (nI p0)]))]) (cells' := 0) (slots' := 0) hP hD hS hA [3, 4, 1, 2] [0] rfl rfl (by decide) (by decide) rfl rfl (va_runVN (n := 3) (As := [.ref q, .int (nI p0), .int (nI k)]) (rest := []) (C := R_Bytes) ⟨hx, hb, hml, hown, hE.hts⟩ (c_Bytes_addRun l g q2 r2 n2 t2 q r n t p0 k (by omega) (by omega) _) ⟨pc_cn hE m_263 m_2 m_327 (by decide +kernel) ⟨by exact Nat.le_of_ble_eq_true rfl, by exact Nat.le_of_ble_eq_true rfl⟩, hE.w m_262, hE.w ms_8⟩ (pc_preV (ci := 1) (q0 := 3) hP hD hE hS hA [3, 4, 1, 2] (by decide) rfl [.ref q, .int (nI p0), .int (nI k)] rfl rfl) rfl rfl hl.1 rfl (lv_room (by exact Nat.le_of_ble_eq_true rfl)) d_Reader_takeRun_10 ⟨by exact Nat.le_of_ble_eq_true rfl, by exact Nat.le_of_ble_eq_true rfl⟩) (fun u_1 H locs hw hP hD hS => ?_)
  have hP : va_P g.1 pc_cl [(o, .inr (4, [.ref q, .int (nI p0)])), (q2, .inr (1, [.ref r2, .int (nI (n2 + k))])), (r2, .inl (g.2.1, 32768, .inl (bA (va_cpy t t2 p0 n2 k)))), (q, .inr (1, [.ref r, .int (nI n)])), (r, .inl (g.2.1, 32768, .inl (bA t)))] H := hP
  have hD : va_D A [(o, .inr (4, [.ref q, .int (nI p0)])), (q2, .inr (1, [.ref r2, .int (nI (n2 + k))])), (r2, .inl (g.2.1, 32768, .inl (bA (va_cpy t t2 p0 n2 k)))), (q, .inr (1, [.ref r, .int (nI n)])), (r, .inl (g.2.1, 32768, .inl (bA t)))] := hD
  refine lv_aload_n hx hb d_Reader_takeRun_13 rfl (lv_at hl 0 rfl) ?_
  refine lv_dup hx hb d_Reader_takeRun_14 rfl ?_
  refine va_get (ci := 4) (C := R_Reader) (T := F_Reader) (N := 2) hx hb hE.hts in_Reader hown hE.2.1 hP 0 rfl rfl 1 (by decide) (hE.w m_293) (fun _ h9 => h9) rfl d_Reader_takeRun_15 ?_
  refine lv_iload_n hx hb d_Reader_takeRun_18 rfl (lv_at hl 1 rfl) ?_
  refine lv_iadd hx hb d_Reader_takeRun_19 ?_
  refine pc_ti (y := nI (p0 + k)) (nI_add _ _) ?_
  refine va_put (ci := 4) (ty := .int) (C := R_Reader) (T := F_Reader) (N := 2) hx hb hE.hts in_Reader t_Reader tk_Reader nn_Reader hown hE.2.1 hP hD hS 0 rfl rfl 1 (by decide) (hE.w m_293) (fun _ h9 => h9) rfl (by decide +kernel) (by rfl) (by rfl) (by exact Nat.le_of_ble_eq_true rfl) d_Reader_takeRun_20 (fun H locs hP hD hS => ?_)
  have hP : va_P g.1 pc_cl [(o, .inr (4, [.ref q, .int (nI (p0 + k))])), (q2, .inr (1, [.ref r2, .int (nI (n2 + k))])), (r2, .inl (g.2.1, 32768, .inl (bA (va_cpy t t2 p0 n2 k)))), (q, .inr (1, [.ref r, .int (nI n)])), (r, .inl (g.2.1, 32768, .inl (bA t)))] H := hP
  have hD : va_D A [(o, .inr (4, [.ref q, .int (nI (p0 + k))])), (q2, .inr (1, [.ref r2, .int (nI (n2 + k))])), (r2, .inl (g.2.1, 32768, .inl (bA (va_cpy t t2 p0 n2 k)))), (q, .inr (1, [.ref r, .int (nI n)])), (r, .inl (g.2.1, 32768, .inl (bA t)))] := hD
  exact hQ _ _ 23 _ () d_Reader_takeRun_23 trivial (hP.sub [0, 3, 4, 1, 2] rfl) (hD.sub [0, 3, 4, 1, 2] (by decide) rfl) hS
abbrev rm_Reader_takeVarint : Room := { frames := 2, cells := 0, slots := 0, locals := 42 }
set_option maxHeartbeats 1000000 in
set_option maxRecDepth 100000 in
/-- a varint taken, or -1 -/
theorem c_Reader_takeVarint (l : Launch) (g : pc_G) (o : Nat) (p0 : Nat) (q : Nat) (r : Nat) (n : Nat) (t : Nat → UInt8) (hp : p0 ≤ n) (hn : n ≤ 32768) : pc_Ci (S := Nat) l y_Reader_takeVarint prog_6_method_5_code 4 .int rm_Reader_takeVarint g [(o, .inr (4, [.ref q, .int (nI p0)])), (q, .inr (1, [.ref r, .int (nI n)])), (r, .inl (g.2.1, 32768, .inl (bA t)))] [.ref o] (fun rv u => rdRes (readV (bl t n) p0) rv u n) (fun u => [(o, .inr (4, [.ref q, .int (nI u)])), (q, .inr (1, [.ref r, .int (nI n)])), (r, .inl (g.2.1, 32768, .inl (bA t)))]) := by
  refine pc_Ci.of (by decide) (by exact Nat.le_of_ble_eq_true rfl) ?_
  intro p e s m below meth c A Q hx hb hml hown hE hA hQ hP hD ls hl
  have hS : va_S A s.heap s.heap [] := va_S.rf
  have hl : lv_has ls 4 [(0, .ref o)] := hl
  refine lv_iconst (v := nI 0) hx hb d_Reader_takeVarint_0 (by decide) ?_
  refine lv_istore_n (lv' := [(1, .int (nI 0)), (0, .ref o)]) hx hb d_Reader_takeVarint_1 rfl hl (by decide) rfl (fun ls hl => ?_)
  refine lv_iconst (v := nI 0) hx hb d_Reader_takeVarint_2 (by decide) ?_
  refine lv_istore_n (lv' := [(2, .int (nI 0)), (1, .int (nI 0)), (0, .ref o)]) hx hb d_Reader_takeVarint_3 rfl hl (by decide) rfl (fun ls hl => ?_)
  have lp_4 : ∀ (n9 : Nat) (k : Nat) (h : Nat) (a : Nat) (w : Nat) (hk : k ≤ 5) (hh : h = 7 * k) (ha : a < 2 ^ (7 * k)) (hw2 : w ≤ n) (hr2 : rdV (bl t n) (5 - k) k w a = readV (bl t n) p0) (hmu : 5 - k < n9) (H : Heap) (locs : List Loc) (hP : va_P g.1 pc_cl [(o, .inr (4, [.ref q, .int (nI w)])), (q, .inr (1, [.ref r, .int (nI n)])), (r, .inl (g.2.1, 32768, .inl (bA t)))] H) (hD : va_D A [(o, .inr (4, [.ref q, .int (nI w)])), (q, .inr (1, [.ref r, .int (nI n)])), (r, .inl (g.2.1, 32768, .inl (bA t)))]) (hS : va_S A s.heap H locs) (ls : Array Slot) (hl : lv_has ls 4 [(0, .ref o), (1, .int (nI a)), (2, .int (nI h))]), W p l e rm_Reader_takeVarint s m ([.ref o] : List Value).toArray below meth c H locs 0 0 Q (F0 m 4 ls []) := by
    intro n9
    induction n9 with
    | zero => intros; omega
    | succ n9 ih_4 =>
      intro k h a w hk hh ha hw2 hr2 hmu H locs hP hD hS ls hl
      refine lv_iload_n hx hb d_Reader_takeVarint_4 rfl (lv_at hl 2 rfl) ?_
      refine lv_bipush (v := nI 28) hx hb d_Reader_takeVarint_5 (by decide) ?_
      refine pc_jgt (tgt := 70) hx hb d_Reader_takeVarint_7 (by decide) (by omega) (by omega) (fun h_1 => ?_) (fun h_1 => ?_)
      · skip
        refine lv_iconst (v := (-1)) hx hb d_Reader_takeVarint_70 (by decide) ?_
        exact hQ _ _ 71 _ (-1) w d_Reader_takeVarint_71 rfl (Or.inl ⟨by first | (rw [← hr2]; exact rdV_short (by rw [bl_len]; omega)) | (rw [← hr2, show 5 - k = 0 by omega]; rfl) | (rw [← hr2, hlast.2, if_pos (by omega)]) | (rw [← hr2, show k = 4 by omega]; exact rdV_over (by rw [bl_len]; omega) (bl_at (by omega)) (by omega)), rfl, by omega⟩) (hP.sub [0, 1, 2] rfl) (hD.sub [0, 1, 2] (by decide) rfl) hS
      · skip
        refine lv_aload_n hx hb d_Reader_takeVarint_10 rfl (lv_at hl 0 rfl) ?_
        refine pc_i (wc := [(o, .inr (4, [.ref q, .int (nI w)])), (q, .inr (1, [.ref r, .int (nI n)])), (r, .inl (g.2.1, 32768, .inl (bA t)))]) (wr := []) (cells' := 0) (slots' := 0) hP hD hS hA [0, 1, 2] [] rfl rfl (by decide) (by decide) rfl rfl (va_runV (n := 0) (As := []) (rest := []) (C := R_Reader) ⟨hx, hb, hml, hown, hE.hts⟩ (c_Reader_takeByte l g o w q r n t (by omega) (by omega) _) ⟨pc_cb hE m_309 m_15 m_306 (by decide +kernel) ⟨by exact Nat.le_of_ble_eq_true rfl, by exact Nat.le_of_ble_eq_true rfl⟩, hE.w m_308, hE.w ms_13⟩ (pc_preV (ci := 4) (q0 := 0) hP hD hE hS hA [0, 1, 2] (by decide) rfl [] rfl rfl) rfl rfl hl.1 rfl (lv_room (by exact Nat.le_of_ble_eq_true rfl)) d_Reader_takeVarint_11 ⟨by exact Nat.le_of_ble_eq_true rfl, by exact Nat.le_of_ble_eq_true rfl⟩) (fun r_3 u_2 H locs hw hP hD hS => ?_)
        obtain ⟨p2_4, rfl⟩ : ∃ z, z = u_2 := ⟨_, rfl⟩
        have hw_5 := hw
        have hw_5 : (n ≤ w ∧ r_3 = -1 ∧ p2_4 = w) ∨ (w < n ∧ r_3 = nI (bN t w) ∧ p2_4 = w + 1) := hw_5
        have hP : va_P g.1 pc_cl [(o, .inr (4, [.ref q, .int (nI p2_4)])), (q, .inr (1, [.ref r, .int (nI n)])), (r, .inl (g.2.1, 32768, .inl (bA t)))] H := hP
        have hD : va_D A [(o, .inr (4, [.ref q, .int (nI p2_4)])), (q, .inr (1, [.ref r, .int (nI n)])), (r, .inl (g.2.1, 32768, .inl (bA t)))] := hD
        rcases hw_5 with ⟨hlt, rfl, hp2⟩ | ⟨hlt, rfl, rfl⟩
        · skip
          refine lv_istore_n (lv' := [(3, .int (-1)), (0, .ref o), (1, .int (nI a)), (2, .int (nI h))]) hx hb d_Reader_takeVarint_14 rfl hl (by decide) rfl (fun ls hl => ?_)
          refine lv_iload_n hx hb d_Reader_takeVarint_15 rfl (lv_at hl 0 rfl) ?_
          refine lv_iconst (v := (-1)) hx hb d_Reader_takeVarint_16 (by decide) ?_
          refine lv_icmp_eq (tgt := 32) hx hb d_Reader_takeVarint_17 (by decide) (fun h_d => ?_) (fun h_d => absurd h_d (fun k9 => k9 rfl))
          refine lv_iconst (v := (-1)) hx hb d_Reader_takeVarint_32 (by decide) ?_
          exact hQ _ _ 33 _ (-1) p2_4 d_Reader_takeVarint_33 rfl (Or.inl ⟨by first | (rw [← hr2]; exact rdV_short (by rw [bl_len]; omega)) | (rw [← hr2, show 5 - k = 0 by omega]; rfl) | (rw [← hr2, hlast.2, if_pos (by omega)]) | (rw [← hr2, show k = 4 by omega]; exact rdV_over (by rw [bl_len]; omega) (bl_at (by omega)) (by omega)), rfl, by omega⟩) (hP.sub [0, 1, 2] rfl) (hD.sub [0, 1, 2] (by decide) rfl) hS
        · skip
          have hP : va_P g.1 pc_cl [(o, .inr (4, [.ref q, .int (nI (w + 1))])), (q, .inr (1, [.ref r, .int (nI n)])), (r, .inl (g.2.1, 32768, .inl (bA t)))] H := hP
          have hD : va_D A [(o, .inr (4, [.ref q, .int (nI (w + 1))])), (q, .inr (1, [.ref r, .int (nI n)])), (r, .inl (g.2.1, 32768, .inl (bA t)))] := hD
          have hb8 := bN_lt t w
          refine lv_istore_n (lv' := [(3, .int (nI (bN t w))), (0, .ref o), (1, .int (nI a)), (2, .int (nI h))]) hx hb d_Reader_takeVarint_14 rfl hl (by decide) rfl (fun ls hl => ?_)
          refine lv_iload_n hx hb d_Reader_takeVarint_15 rfl (lv_at hl 0 rfl) ?_
          refine lv_iconst (v := (-1)) hx hb d_Reader_takeVarint_16 (by decide) ?_
          refine lv_icmp_eq (tgt := 32) hx hb d_Reader_takeVarint_17 (by decide) (fun h_d => absurd h_d (pc_nm1 (by omega))) (fun h_d => ?_)
          refine lv_iload_n hx hb d_Reader_takeVarint_20 rfl (lv_at hl 3 rfl) ?_
          refine lv_bipush (v := nI 28) hx hb d_Reader_takeVarint_21 (by decide) ?_
          refine pc_jne (tgt := 34) hx hb d_Reader_takeVarint_23 (by decide) (by omega) (by omega) (fun h_6 => ?_) (fun h_6 => ?_)
          · skip
            have h7 : k = 4 → bN t w ≤ 7 := by omega
            refine lv_iload_n hx hb d_Reader_takeVarint_34 rfl (lv_at hl 2 rfl) ?_
            refine lv_iload_n hx hb d_Reader_takeVarint_35 rfl (lv_at hl 0 rfl) ?_
            refine lv_bipush (v := nI 127) hx hb d_Reader_takeVarint_36 (by decide) ?_
            refine lv_iand hx hb d_Reader_takeVarint_38 ?_
            refine pc_ti (y := nI ((bN t w) % 128)) (pk_andN (by omega) 7 (by decide)) ?_
            refine lv_iload_n hx hb d_Reader_takeVarint_39 rfl (lv_at hl 3 rfl) ?_
            refine lv_ishl hx hb d_Reader_takeVarint_40 ?_
            refine pc_ti (y := nI (bN t w % 128 * 2 ^ h)) (pc_shl (by omega) (shl_ok (by omega) hh h7)) ?_
            refine lv_ior hx hb d_Reader_takeVarint_41 ?_
            refine pc_ti (y := nI (a + bN t w % 128 * 2 ^ h)) (or_put (by rw [hh]; exact ha)) ?_
            refine lv_istore_n (lv' := [(1, .int (nI (a + bN t w % 128 * 2 ^ h))), (3, .int (nI (bN t w))), (0, .ref o), (2, .int (nI h))]) hx hb d_Reader_takeVarint_42 rfl hl (by decide) rfl (fun ls hl => ?_)
            refine lv_iload_n hx hb d_Reader_takeVarint_43 rfl (lv_at hl 1 rfl) ?_
            refine lv_sipush (v := nI 128) hx hb d_Reader_takeVarint_44 (by decide) ?_
            refine pc_jge (tgt := 64) hx hb d_Reader_takeVarint_47 (by decide) (by omega) (by omega) (fun h_7 => ?_) (fun h_7 => ?_)
            · skip
              have hm1 : bN t w % 128 = bN t w - 128 := by omega
              have hmore := rdV_more (L := bl t n) (k := k) (p := w) (acc := a) (b := bN t w) (by omega) (by rw [bl_len]; omega) (bl_at (by omega)) (by omega) (by omega) ha
              refine lv_iinc (v := nI (h + 7)) (lv' := [(2, .int (nI (h + 7))), (1, .int (nI (a + bN t w % 128 * 2 ^ h))), (3, .int (nI (bN t w))), (0, .ref o)]) hx hb d_Reader_takeVarint_64 hl (k := 3) rfl (pc_inc h 7) (by decide) rfl (fun ls hl => ?_)
              refine lv_goto (tgt := 4) hx hb d_Reader_takeVarint_67 (by decide) ?_
              exact ih_4 (k + 1) (h + 7) (a + bN t w % 128 * 2 ^ h) (w + 1) (by omega) (by omega) (by rw [hm1, hh]; exact hmore.1) (by omega) (by rw [hm1, hh, ← hmore.2]; exact hr2) (by omega) _ _ (hP.sub [0, 1, 2] rfl) (hD.sub [0, 1, 2] (by decide) rfl) hS _ (lv_sub hl [3, 1, 0] rfl)
            · skip
              have hb1 : bN t w % 128 = bN t w := Nat.mod_eq_of_lt (by omega)
              have hlast := rdV_last (L := bl t n) (k := k) (p := w) (acc := a) (b := bN t w) (by omega) (by rw [bl_len]; omega) (bl_at (by omega)) (by omega) ha h7
              refine lv_iload_n hx hb d_Reader_takeVarint_50 rfl (lv_at hl 1 rfl) ?_
              refine pc_zne (tgt := 62) hx hb d_Reader_takeVarint_51 (by decide) (by omega) (fun h_8 => ?_) (fun h_8 => ?_)
              · skip
                refine lv_iload_n hx hb d_Reader_takeVarint_62 rfl (lv_at hl 0 rfl) ?_
                exact hQ _ _ 63 _ (nI (a + bN t w % 128 * 2 ^ h)) (w + 1) d_Reader_takeVarint_63 rfl (Or.inr ⟨a + bN t w % 128 * 2 ^ h, by rw [hb1, hh, ← hr2, hlast.2, if_neg (by omega)], rfl, by rw [hb1, hh]; exact hlast.1, by omega⟩) (hP.sub [0, 1, 2] rfl) (hD.sub [0, 1, 2] (by decide) rfl) hS
              · skip
                refine lv_iload_n hx hb d_Reader_takeVarint_54 rfl (lv_at hl 3 rfl) ?_
                refine pc_zle (tgt := 62) hx hb d_Reader_takeVarint_55 (by decide) (by omega) (fun h_9 => ?_) (fun h_9 => ?_)
                · skip
                  refine lv_iload_n hx hb d_Reader_takeVarint_62 rfl (lv_at hl 0 rfl) ?_
                  exact hQ _ _ 63 _ (nI (a + bN t w % 128 * 2 ^ h)) (w + 1) d_Reader_takeVarint_63 rfl (Or.inr ⟨a + bN t w % 128 * 2 ^ h, by rw [hb1, hh, ← hr2, hlast.2, if_neg (by omega)], rfl, by rw [hb1, hh]; exact hlast.1, by omega⟩) (hP.sub [0, 1, 2] rfl) (hD.sub [0, 1, 2] (by decide) rfl) hS
                · skip
                  refine lv_iconst (v := (-1)) hx hb d_Reader_takeVarint_58 (by decide) ?_
                  refine lv_goto (tgt := 63) hx hb d_Reader_takeVarint_59 (by decide) ?_
                  exact hQ _ _ 63 _ (-1) (w + 1) d_Reader_takeVarint_63 rfl (Or.inl ⟨by first | (rw [← hr2]; exact rdV_short (by rw [bl_len]; omega)) | (rw [← hr2, show 5 - k = 0 by omega]; rfl) | (rw [← hr2, hlast.2, if_pos (by omega)]) | (rw [← hr2, show k = 4 by omega]; exact rdV_over (by rw [bl_len]; omega) (bl_at (by omega)) (by omega)), rfl, by omega⟩) (hP.sub [0, 1, 2] rfl) (hD.sub [0, 1, 2] (by decide) rfl) hS
          · skip
            refine lv_iload_n hx hb d_Reader_takeVarint_26 rfl (lv_at hl 0 rfl) ?_
            refine lv_bipush (v := nI 7) hx hb d_Reader_takeVarint_27 (by decide) ?_
            refine pc_jle (tgt := 34) hx hb d_Reader_takeVarint_29 (by decide) (by omega) (by omega) (fun h_10 => ?_) (fun h_10 => ?_)
            · skip
              have h7 : k = 4 → bN t w ≤ 7 := by omega
              refine lv_iload_n hx hb d_Reader_takeVarint_34 rfl (lv_at hl 2 rfl) ?_
              refine lv_iload_n hx hb d_Reader_takeVarint_35 rfl (lv_at hl 0 rfl) ?_
              refine lv_bipush (v := nI 127) hx hb d_Reader_takeVarint_36 (by decide) ?_
              refine lv_iand hx hb d_Reader_takeVarint_38 ?_
              refine pc_ti (y := nI ((bN t w) % 128)) (pk_andN (by omega) 7 (by decide)) ?_
              refine lv_iload_n hx hb d_Reader_takeVarint_39 rfl (lv_at hl 3 rfl) ?_
              refine lv_ishl hx hb d_Reader_takeVarint_40 ?_
              refine pc_ti (y := nI (bN t w % 128 * 2 ^ h)) (pc_shl (by omega) (shl_ok (by omega) hh h7)) ?_
              refine lv_ior hx hb d_Reader_takeVarint_41 ?_
              refine pc_ti (y := nI (a + bN t w % 128 * 2 ^ h)) (or_put (by rw [hh]; exact ha)) ?_
              refine lv_istore_n (lv' := [(1, .int (nI (a + bN t w % 128 * 2 ^ h))), (3, .int (nI (bN t w))), (0, .ref o), (2, .int (nI h))]) hx hb d_Reader_takeVarint_42 rfl hl (by decide) rfl (fun ls hl => ?_)
              refine lv_iload_n hx hb d_Reader_takeVarint_43 rfl (lv_at hl 1 rfl) ?_
              refine lv_sipush (v := nI 128) hx hb d_Reader_takeVarint_44 (by decide) ?_
              refine pc_jge (tgt := 64) hx hb d_Reader_takeVarint_47 (by decide) (by omega) (by omega) (fun h_11 => ?_) (fun h_11 => ?_)
              · skip
                have hm1 : bN t w % 128 = bN t w - 128 := by omega
                have hmore := rdV_more (L := bl t n) (k := k) (p := w) (acc := a) (b := bN t w) (by omega) (by rw [bl_len]; omega) (bl_at (by omega)) (by omega) (by omega) ha
                refine lv_iinc (v := nI (h + 7)) (lv' := [(2, .int (nI (h + 7))), (1, .int (nI (a + bN t w % 128 * 2 ^ h))), (3, .int (nI (bN t w))), (0, .ref o)]) hx hb d_Reader_takeVarint_64 hl (k := 3) rfl (pc_inc h 7) (by decide) rfl (fun ls hl => ?_)
                refine lv_goto (tgt := 4) hx hb d_Reader_takeVarint_67 (by decide) ?_
                exact ih_4 (k + 1) (h + 7) (a + bN t w % 128 * 2 ^ h) (w + 1) (by omega) (by omega) (by rw [hm1, hh]; exact hmore.1) (by omega) (by rw [hm1, hh, ← hmore.2]; exact hr2) (by omega) _ _ (hP.sub [0, 1, 2] rfl) (hD.sub [0, 1, 2] (by decide) rfl) hS _ (lv_sub hl [3, 1, 0] rfl)
              · skip
                have hb1 : bN t w % 128 = bN t w := Nat.mod_eq_of_lt (by omega)
                have hlast := rdV_last (L := bl t n) (k := k) (p := w) (acc := a) (b := bN t w) (by omega) (by rw [bl_len]; omega) (bl_at (by omega)) (by omega) ha h7
                refine lv_iload_n hx hb d_Reader_takeVarint_50 rfl (lv_at hl 1 rfl) ?_
                refine pc_zne (tgt := 62) hx hb d_Reader_takeVarint_51 (by decide) (by omega) (fun h_12 => ?_) (fun h_12 => ?_)
                · skip
                  refine lv_iload_n hx hb d_Reader_takeVarint_62 rfl (lv_at hl 0 rfl) ?_
                  exact hQ _ _ 63 _ (nI (a + bN t w % 128 * 2 ^ h)) (w + 1) d_Reader_takeVarint_63 rfl (Or.inr ⟨a + bN t w % 128 * 2 ^ h, by rw [hb1, hh, ← hr2, hlast.2, if_neg (by omega)], rfl, by rw [hb1, hh]; exact hlast.1, by omega⟩) (hP.sub [0, 1, 2] rfl) (hD.sub [0, 1, 2] (by decide) rfl) hS
                · skip
                  refine lv_iload_n hx hb d_Reader_takeVarint_54 rfl (lv_at hl 3 rfl) ?_
                  refine pc_zle (tgt := 62) hx hb d_Reader_takeVarint_55 (by decide) (by omega) (fun h_13 => ?_) (fun h_13 => ?_)
                  · skip
                    refine lv_iload_n hx hb d_Reader_takeVarint_62 rfl (lv_at hl 0 rfl) ?_
                    exact hQ _ _ 63 _ (nI (a + bN t w % 128 * 2 ^ h)) (w + 1) d_Reader_takeVarint_63 rfl (Or.inr ⟨a + bN t w % 128 * 2 ^ h, by rw [hb1, hh, ← hr2, hlast.2, if_neg (by omega)], rfl, by rw [hb1, hh]; exact hlast.1, by omega⟩) (hP.sub [0, 1, 2] rfl) (hD.sub [0, 1, 2] (by decide) rfl) hS
                  · skip
                    refine lv_iconst (v := (-1)) hx hb d_Reader_takeVarint_58 (by decide) ?_
                    refine lv_goto (tgt := 63) hx hb d_Reader_takeVarint_59 (by decide) ?_
                    exact hQ _ _ 63 _ (-1) (w + 1) d_Reader_takeVarint_63 rfl (Or.inl ⟨by first | (rw [← hr2]; exact rdV_short (by rw [bl_len]; omega)) | (rw [← hr2, show 5 - k = 0 by omega]; rfl) | (rw [← hr2, hlast.2, if_pos (by omega)]) | (rw [← hr2, show k = 4 by omega]; exact rdV_over (by rw [bl_len]; omega) (bl_at (by omega)) (by omega)), rfl, by omega⟩) (hP.sub [0, 1, 2] rfl) (hD.sub [0, 1, 2] (by decide) rfl) hS
            · skip
              refine lv_iconst (v := (-1)) hx hb d_Reader_takeVarint_32 (by decide) ?_
              exact hQ _ _ 33 _ (-1) (w + 1) d_Reader_takeVarint_33 rfl (Or.inl ⟨by first | (rw [← hr2]; exact rdV_short (by rw [bl_len]; omega)) | (rw [← hr2, show 5 - k = 0 by omega]; rfl) | (rw [← hr2, hlast.2, if_pos (by omega)]) | (rw [← hr2, show k = 4 by omega]; exact rdV_over (by rw [bl_len]; omega) (bl_at (by omega)) (by omega)), rfl, by omega⟩) (hP.sub [0, 1, 2] rfl) (hD.sub [0, 1, 2] (by decide) rfl) hS
  exact lp_4 (5 - 0 + 1) 0 0 0 p0 (by omega) (by omega) (by decide) (by omega) rfl (Nat.lt_succ_self _) _ _ (hP.sub [0, 1, 2] rfl) (hD.sub [0, 1, 2] (by decide) rfl) hS _ (lv_sub hl [2, 1, 0] rfl)
abbrev rm_Reader_takeCharacter : Room := { frames := 2, cells := 0, slots := 0, locals := 42 }
set_option maxHeartbeats 1000000 in
set_option maxRecDepth 100000 in
/-- a character taken, or -1 -/
theorem c_Reader_takeCharacter (l : Launch) (g : pc_G) (o : Nat) (p0 : Nat) (q : Nat) (r : Nat) (n : Nat) (t : Nat → UInt8) (hp : p0 ≤ n) (hn : n ≤ 32768) : pc_Ci (S := Nat) l y_Reader_takeCharacter prog_6_method_6_code 6 .int rm_Reader_takeCharacter g [(o, .inr (4, [.ref q, .int (nI p0)])), (q, .inr (1, [.ref r, .int (nI n)])), (r, .inl (g.2.1, 32768, .inl (bA t)))] [.ref o] (fun rv u => rdRes (chV (bl t n) p0) rv u n) (fun u => [(o, .inr (4, [.ref q, .int (nI u)])), (q, .inr (1, [.ref r, .int (nI n)])), (r, .inl (g.2.1, 32768, .inl (bA t)))]) := by
  refine pc_Ci.of (by decide) (by exact Nat.le_of_ble_eq_true rfl) ?_
  intro p e s m below meth c A Q hx hb hml hown hE hA hQ hP hD ls hl
  have hS : va_S A s.heap s.heap [] := va_S.rf
  have hl : lv_has ls 6 [(0, .ref o)] := hl
  refine lv_aload_n hx hb d_Reader_takeCharacter_0 rfl (lv_at hl 0 rfl) ?_
  refine pc_i (wc := [(o, .inr (4, [.ref q, .int (nI p0)])), (q, .inr (1, [.ref r, .int (nI n)])), (r, .inl (g.2.1, 32768, .inl (bA t)))]) (wr := []) (cells' := 0) (slots' := 0) hP hD hS hA [0, 1, 2] [] rfl rfl (by decide) (by decide) rfl rfl (va_runV (n := 0) (As := []) (rest := []) (C := R_Reader) ⟨hx, hb, hml, hown, hE.hts⟩ (c_Reader_takeByte l g o p0 q r n t (by omega) (by omega) _) ⟨pc_cb hE m_309 m_15 m_306 (by decide +kernel) ⟨by exact Nat.le_of_ble_eq_true rfl, by exact Nat.le_of_ble_eq_true rfl⟩, hE.w m_308, hE.w ms_13⟩ (pc_preV (ci := 4) (q0 := 0) hP hD hE hS hA [0, 1, 2] (by decide) rfl [] rfl rfl) rfl rfl hl.1 rfl (lv_room (by exact Nat.le_of_ble_eq_true rfl)) d_Reader_takeCharacter_1 ⟨by exact Nat.le_of_ble_eq_true rfl, by exact Nat.le_of_ble_eq_true rfl⟩) (fun r_2 u_1 H locs hw hP hD hS => ?_)
  obtain ⟨p2_3, rfl⟩ : ∃ z, z = u_1 := ⟨_, rfl⟩
  have hw_4 := hw
  have hw_4 : (n ≤ p0 ∧ r_2 = -1 ∧ p2_3 = p0) ∨ (p0 < n ∧ r_2 = nI (bN t p0) ∧ p2_3 = p0 + 1) := hw_4
  have hP : va_P g.1 pc_cl [(o, .inr (4, [.ref q, .int (nI p2_3)])), (q, .inr (1, [.ref r, .int (nI n)])), (r, .inl (g.2.1, 32768, .inl (bA t)))] H := hP
  have hD : va_D A [(o, .inr (4, [.ref q, .int (nI p2_3)])), (q, .inr (1, [.ref r, .int (nI n)])), (r, .inl (g.2.1, 32768, .inl (bA t)))] := hD
  rcases hw_4 with ⟨hlt, rfl, hp2⟩ | ⟨hlt, rfl, rfl⟩
  · skip
    refine lv_istore_n (lv' := [(1, .int (-1)), (0, .ref o)]) hx hb d_Reader_takeCharacter_4 rfl hl (by decide) rfl (fun ls hl => ?_)
    refine lv_iload_n hx hb d_Reader_takeCharacter_5 rfl (lv_at hl 0 rfl) ?_
    refine pc_i (wc := []) (wr := [(o, .inr (4, [.ref q, .int (nI p2_3)])), (q, .inr (1, [.ref r, .int (nI n)])), (r, .inl (g.2.1, 32768, .inl (bA t)))]) (cells' := 0) (slots' := 0) hP hD hS hA [] [0, 1, 2] rfl rfl (by decide) (by decide) rfl rfl (va_runSN (n := 1) (As := [.int (-1)]) (rest := []) ⟨hx, hb, hml, hown, hE.hts⟩ (c_Utf8_sizeByFirst0 l g  _) ⟨pc_cn hE m_354 m_17 m_352 (by decide +kernel) ⟨by exact Nat.le_of_ble_eq_true rfl, by exact Nat.le_of_ble_eq_true rfl⟩, hE.w m_353, trivial⟩ (pc_pre hP hD hE hS hA [] (by decide) rfl [.int (-1)]) rfl rfl hl.1 rfl (lv_room (by exact Nat.le_of_ble_eq_true rfl)) d_Reader_takeCharacter_6 ⟨by exact Nat.le_of_ble_eq_true rfl, by exact Nat.le_of_ble_eq_true rfl⟩) (fun r_6 u_5 H locs hw hP hD hS => ?_)
    obtain rfl := hw
    have hP : va_P g.1 pc_cl [(o, .inr (4, [.ref q, .int (nI p2_3)])), (q, .inr (1, [.ref r, .int (nI n)])), (r, .inl (g.2.1, 32768, .inl (bA t)))] H := hP
    have hD : va_D A [(o, .inr (4, [.ref q, .int (nI p2_3)])), (q, .inr (1, [.ref r, .int (nI n)])), (r, .inl (g.2.1, 32768, .inl (bA t)))] := hD
    refine lv_istore_n (lv' := [(2, .int (-1)), (1, .int (-1)), (0, .ref o)]) hx hb d_Reader_takeCharacter_9 rfl hl (by decide) rfl (fun ls hl => ?_)
    refine lv_iload_n hx hb d_Reader_takeCharacter_10 rfl (lv_at hl 0 rfl) ?_
    refine lv_iconst (v := (-1)) hx hb d_Reader_takeCharacter_11 (by decide) ?_
    refine lv_icmp_ne (tgt := 17) hx hb d_Reader_takeCharacter_12 (by decide) (fun h_d => absurd h_d (fun k9 => k9 rfl)) (fun h_d => ?_)
    refine lv_iconst (v := (-1)) hx hb d_Reader_takeCharacter_15 (by decide) ?_
    exact hQ _ _ 16 _ (-1) p2_3 d_Reader_takeCharacter_16 rfl (Or.inl ⟨by first | (exact chV_short (by rw [bl_len]; omega)) | (exact chV_nof (bl_at (by omega)) hs0) | (exact chV_bad (by rw [bl_len]; omega) (bl_at (by omega)) hs0 hend (fun z => absurd ((chI_nI (by omega)).mpr z.1) (by assumption))) | (exact chV_bad (by rw [bl_len]; omega) (bl_at (by omega)) hs0 hend (fun z => absurd z.2 (by assumption))) | (exact chV_fail (by rw [bl_len]; omega) (bl_at (by omega)) hs0 (by rw [← hr2]; exact chR_short (by omega) (by rw [bl_len]; omega))) | (exact chV_fail (by rw [bl_len]; omega) (bl_at (by omega)) hs0 (by rw [← hr2]; exact chR_bad (by omega) (bl_at (by omega)) (by omega))), rfl, by omega⟩) (hP.sub [0, 1, 2] rfl) (hD.sub [0, 1, 2] (by decide) rfl) hS
  · skip
    have hP : va_P g.1 pc_cl [(o, .inr (4, [.ref q, .int (nI (p0 + 1))])), (q, .inr (1, [.ref r, .int (nI n)])), (r, .inl (g.2.1, 32768, .inl (bA t)))] H := hP
    have hD : va_D A [(o, .inr (4, [.ref q, .int (nI (p0 + 1))])), (q, .inr (1, [.ref r, .int (nI n)])), (r, .inl (g.2.1, 32768, .inl (bA t)))] := hD
    have hb8 := bN_lt t p0
    refine lv_istore_n (lv' := [(1, .int (nI (bN t p0))), (0, .ref o)]) hx hb d_Reader_takeCharacter_4 rfl hl (by decide) rfl (fun ls hl => ?_)
    refine lv_iload_n hx hb d_Reader_takeCharacter_5 rfl (lv_at hl 0 rfl) ?_
    refine pc_i (wc := []) (wr := [(o, .inr (4, [.ref q, .int (nI (p0 + 1))])), (q, .inr (1, [.ref r, .int (nI n)])), (r, .inl (g.2.1, 32768, .inl (bA t)))]) (cells' := 0) (slots' := 0) hP hD hS hA [] [0, 1, 2] rfl rfl (by decide) (by decide) rfl rfl (va_runSN (n := 1) (As := [.int (nI (bN t p0))]) (rest := []) ⟨hx, hb, hml, hown, hE.hts⟩ (c_Utf8_sizeByFirst l g (bN t p0) (by omega) _) ⟨pc_cn hE m_354 m_17 m_352 (by decide +kernel) ⟨by exact Nat.le_of_ble_eq_true rfl, by exact Nat.le_of_ble_eq_true rfl⟩, hE.w m_353, trivial⟩ (pc_pre hP hD hE hS hA [] (by decide) rfl [.int (nI (bN t p0))]) rfl rfl hl.1 rfl (lv_room (by exact Nat.le_of_ble_eq_true rfl)) d_Reader_takeCharacter_6 ⟨by exact Nat.le_of_ble_eq_true rfl, by exact Nat.le_of_ble_eq_true rfl⟩) (fun r_8 u_7 H locs hw hP hD hS => ?_)
    have hw_9 := hw
    have hw_9 : (chS (bN t p0) = 0 ∧ r_8 = -1) ∨ (chS (bN t p0) ≠ 0 ∧ r_8 = nI (chS (bN t p0))) := hw_9
    have hP : va_P g.1 pc_cl [(o, .inr (4, [.ref q, .int (nI (p0 + 1))])), (q, .inr (1, [.ref r, .int (nI n)])), (r, .inl (g.2.1, 32768, .inl (bA t)))] H := hP
    have hD : va_D A [(o, .inr (4, [.ref q, .int (nI (p0 + 1))])), (q, .inr (1, [.ref r, .int (nI n)])), (r, .inl (g.2.1, 32768, .inl (bA t)))] := hD
    rcases hw_9 with ⟨hs0, rfl⟩ | ⟨hs0, rfl⟩
    · skip
      refine lv_istore_n (lv' := [(2, .int (-1)), (1, .int (nI (bN t p0))), (0, .ref o)]) hx hb d_Reader_takeCharacter_9 rfl hl (by decide) rfl (fun ls hl => ?_)
      refine lv_iload_n hx hb d_Reader_takeCharacter_10 rfl (lv_at hl 0 rfl) ?_
      refine lv_iconst (v := (-1)) hx hb d_Reader_takeCharacter_11 (by decide) ?_
      refine lv_icmp_ne (tgt := 17) hx hb d_Reader_takeCharacter_12 (by decide) (fun h_d => absurd h_d (fun k9 => k9 rfl)) (fun h_d => ?_)
      refine lv_iconst (v := (-1)) hx hb d_Reader_takeCharacter_15 (by decide) ?_
      exact hQ _ _ 16 _ (-1) (p0 + 1) d_Reader_takeCharacter_16 rfl (Or.inl ⟨by first | (exact chV_short (by rw [bl_len]; omega)) | (exact chV_nof (bl_at (by omega)) hs0) | (exact chV_bad (by rw [bl_len]; omega) (bl_at (by omega)) hs0 hend (fun z => absurd ((chI_nI (by omega)).mpr z.1) (by assumption))) | (exact chV_bad (by rw [bl_len]; omega) (bl_at (by omega)) hs0 hend (fun z => absurd z.2 (by assumption))) | (exact chV_fail (by rw [bl_len]; omega) (bl_at (by omega)) hs0 (by rw [← hr2]; exact chR_short (by omega) (by rw [bl_len]; omega))) | (exact chV_fail (by rw [bl_len]; omega) (bl_at (by omega)) hs0 (by rw [← hr2]; exact chR_bad (by omega) (bl_at (by omega)) (by omega))), rfl, by omega⟩) (hP.sub [0, 1, 2] rfl) (hD.sub [0, 1, 2] (by decide) rfl) hS
    · skip
      have hs4 := chS_in (bN t p0)
      have hcm := chM_le hs0
      have hct := chM_top hb8 hs0
      refine lv_istore_n (lv' := [(2, .int (nI (chS (bN t p0)))), (1, .int (nI (bN t p0))), (0, .ref o)]) hx hb d_Reader_takeCharacter_9 rfl hl (by decide) rfl (fun ls hl => ?_)
      refine lv_iload_n hx hb d_Reader_takeCharacter_10 rfl (lv_at hl 0 rfl) ?_
      refine lv_iconst (v := (-1)) hx hb d_Reader_takeCharacter_11 (by decide) ?_
      refine lv_icmp_ne (tgt := 17) hx hb d_Reader_takeCharacter_12 (by decide) (fun h_d => ?_) (fun h_d => absurd h_d (pc_nm1 (by omega)))
      refine lv_iload_n hx hb d_Reader_takeCharacter_17 rfl (lv_at hl 1 rfl) ?_
      refine lv_iload_n hx hb d_Reader_takeCharacter_18 rfl (lv_at hl 0 rfl) ?_
      refine pc_i (wc := []) (wr := [(o, .inr (4, [.ref q, .int (nI (p0 + 1))])), (q, .inr (1, [.ref r, .int (nI n)])), (r, .inl (g.2.1, 32768, .inl (bA t)))]) (cells' := 0) (slots' := 0) hP hD hS hA [] [0, 1, 2] rfl rfl (by decide) (by decide) rfl rfl (va_runSN (n := 1) (As := [.int (nI (chS (bN t p0)))]) (rest := [.int (nI (bN t p0))]) ⟨hx, hb, hml, hown, hE.hts⟩ (c_Utf8_markOfFirst l g (chS (bN t p0)) (by omega) _) ⟨pc_cn hE m_357 m_17 m_355 (by decide +kernel) ⟨by exact Nat.le_of_ble_eq_true rfl, by exact Nat.le_of_ble_eq_true rfl⟩, hE.w m_356, trivial⟩ (pc_pre hP hD hE hS hA [] (by decide) rfl [.int (nI (chS (bN t p0)))]) rfl rfl hl.1 rfl (lv_room (by exact Nat.le_of_ble_eq_true rfl)) d_Reader_takeCharacter_19 ⟨by exact Nat.le_of_ble_eq_true rfl, by exact Nat.le_of_ble_eq_true rfl⟩) (fun r_11 u_10 H locs hw hP hD hS => ?_)
      obtain rfl := hw
      have hP : va_P g.1 pc_cl [(o, .inr (4, [.ref q, .int (nI (p0 + 1))])), (q, .inr (1, [.ref r, .int (nI n)])), (r, .inl (g.2.1, 32768, .inl (bA t)))] H := hP
      have hD : va_D A [(o, .inr (4, [.ref q, .int (nI (p0 + 1))])), (q, .inr (1, [.ref r, .int (nI n)])), (r, .inl (g.2.1, 32768, .inl (bA t)))] := hD
      refine lv_isub hx hb d_Reader_takeCharacter_22 ?_
      refine pc_ti (y := nI ((bN t p0) - (chM (chS (bN t p0))))) (pk_sub (by omega)) ?_
      refine lv_istore_n (lv' := [(3, .int (nI ((bN t p0) - (chM (chS (bN t p0)))))), (2, .int (nI (chS (bN t p0)))), (1, .int (nI (bN t p0))), (0, .ref o)]) hx hb d_Reader_takeCharacter_23 rfl hl (by decide) rfl (fun ls hl => ?_)
      refine lv_iconst (v := nI 1) hx hb d_Reader_takeCharacter_24 (by decide) ?_
      refine lv_istore (lv' := [(4, .int (nI 1)), (3, .int (nI ((bN t p0) - (chM (chS (bN t p0)))))), (2, .int (nI (chS (bN t p0)))), (1, .int (nI (bN t p0))), (0, .ref o)]) hx hb d_Reader_takeCharacter_25 hl (by decide) rfl (fun ls hl => ?_)
      have lp_27 : ∀ (n9 : Nat) (k : Nat) (a : Nat) (w : Nat) (hk1 : 1 ≤ k) (hks : k ≤ chS (bN t p0)) (hw2 : w = p0 + k) (hwn : w ≤ n) (ha : a < 128 * 64 ^ (k - 1)) (hr2 : chR (bl t n) (chS (bN t p0) - k) w a = chR (bl t n) (chS (bN t p0) - 1) (p0 + 1) (bN t p0 - chM (chS (bN t p0)))) (hmu : 5 - k < n9) (H : Heap) (locs : List Loc) (hP : va_P g.1 pc_cl [(o, .inr (4, [.ref q, .int (nI w)])), (q, .inr (1, [.ref r, .int (nI n)])), (r, .inl (g.2.1, 32768, .inl (bA t)))] H) (hD : va_D A [(o, .inr (4, [.ref q, .int (nI w)])), (q, .inr (1, [.ref r, .int (nI n)])), (r, .inl (g.2.1, 32768, .inl (bA t)))]) (hS : va_S A s.heap H locs) (ls : Array Slot) (hl : lv_has ls 6 [(0, .ref o), (1, .int (nI (bN t p0))), (2, .int (nI (chS (bN t p0)))), (3, .int (nI a)), (4, .int (nI k))]), W p l e rm_Reader_takeCharacter s m ([.ref o] : List Value).toArray below meth c H locs 0 0 Q (F0 m 27 ls []) := by
        intro n9
        induction n9 with
        | zero => intros; omega
        | succ n9 ih_27 =>
          intro k a w hk1 hks hw2 hwn ha hr2 hmu H locs hP hD hS ls hl
          refine lv_iload hx hb d_Reader_takeCharacter_27 (lv_at hl 4 rfl) ?_
          refine lv_iload_n hx hb d_Reader_takeCharacter_29 rfl (lv_at hl 2 rfl) ?_
          refine pc_jge (tgt := 75) hx hb d_Reader_takeCharacter_30 (by decide) (by omega) (by omega) (fun h_12 => ?_) (fun h_12 => ?_)
          · skip
            have hks2 : k = chS (bN t p0) := by omega
            have hend : chR (bl t n) (chS (bN t p0) - 1) (p0 + 1) (bN t p0 - chM (chS (bN t p0))) = some a := by rw [← hr2, show chS (bN t p0) - k = 0 by omega]; rfl
            have hab := ch_bound hk1 (by omega) ha
            have hcw := chW_in a
            refine lv_iload_n hx hb d_Reader_takeCharacter_75 rfl (lv_at hl 3 rfl) ?_
            refine pc_i (wc := []) (wr := [(o, .inr (4, [.ref q, .int (nI w)])), (q, .inr (1, [.ref r, .int (nI n)])), (r, .inl (g.2.1, 32768, .inl (bA t)))]) (cells' := 0) (slots' := 0) hP hD hS hA [] [0, 1, 2] rfl rfl (by decide) (by decide) rfl rfl (va_runSN (n := 1) (As := [.int (nI a)]) (rest := []) ⟨hx, hb, hml, hown, hE.hts⟩ (c_Utf8_isCharacter l g (nI a) _) ⟨pc_cn hE m_360 m_17 m_358 (by decide +kernel) ⟨by exact Nat.le_of_ble_eq_true rfl, by exact Nat.le_of_ble_eq_true rfl⟩, hE.w m_359, trivial⟩ (pc_pre hP hD hE hS hA [] (by decide) rfl [.int (nI a)]) rfl rfl hl.1 rfl (lv_room (by exact Nat.le_of_ble_eq_true rfl)) d_Reader_takeCharacter_76 ⟨by exact Nat.le_of_ble_eq_true rfl, by exact Nat.le_of_ble_eq_true rfl⟩) (fun r_14 u_13 H locs hw hP hD hS => ?_)
            obtain rfl := hw
            have hP : va_P g.1 pc_cl [(o, .inr (4, [.ref q, .int (nI w)])), (q, .inr (1, [.ref r, .int (nI n)])), (r, .inl (g.2.1, 32768, .inl (bA t)))] H := hP
            have hD : va_D A [(o, .inr (4, [.ref q, .int (nI w)])), (q, .inr (1, [.ref r, .int (nI n)])), (r, .inl (g.2.1, 32768, .inl (bA t)))] := hD
            refine pc_beq (tgt := 94) hx hb d_Reader_takeCharacter_79 (by decide) (fun h_15 => ?_) (fun h_15 => ?_)
            · skip
              refine lv_iconst (v := (-1)) hx hb d_Reader_takeCharacter_94 (by decide) ?_
              exact hQ _ _ 95 _ (-1) w d_Reader_takeCharacter_95 rfl (Or.inl ⟨by first | (exact chV_short (by rw [bl_len]; omega)) | (exact chV_nof (bl_at (by omega)) hs0) | (exact chV_bad (by rw [bl_len]; omega) (bl_at (by omega)) hs0 hend (fun z => absurd ((chI_nI (by omega)).mpr z.1) (by assumption))) | (exact chV_bad (by rw [bl_len]; omega) (bl_at (by omega)) hs0 hend (fun z => absurd z.2 (by assumption))) | (exact chV_fail (by rw [bl_len]; omega) (bl_at (by omega)) hs0 (by rw [← hr2]; exact chR_short (by omega) (by rw [bl_len]; omega))) | (exact chV_fail (by rw [bl_len]; omega) (bl_at (by omega)) hs0 (by rw [← hr2]; exact chR_bad (by omega) (bl_at (by omega)) (by omega))), rfl, by omega⟩) (hP.sub [0, 1, 2] rfl) (hD.sub [0, 1, 2] (by decide) rfl) hS
            · skip
              refine lv_iload_n hx hb d_Reader_takeCharacter_82 rfl (lv_at hl 3 rfl) ?_
              refine pc_i (wc := []) (wr := [(o, .inr (4, [.ref q, .int (nI w)])), (q, .inr (1, [.ref r, .int (nI n)])), (r, .inl (g.2.1, 32768, .inl (bA t)))]) (cells' := 0) (slots' := 0) hP hD hS hA [] [0, 1, 2] rfl rfl (by decide) (by decide) rfl rfl (va_runSN (n := 1) (As := [.int (nI a)]) (rest := []) ⟨hx, hb, hml, hown, hE.hts⟩ (c_Utf8_size l g a (by omega) _) ⟨pc_cn hE m_366 m_17 m_364 (by decide +kernel) ⟨by exact Nat.le_of_ble_eq_true rfl, by exact Nat.le_of_ble_eq_true rfl⟩, hE.w m_365, trivial⟩ (pc_pre hP hD hE hS hA [] (by decide) rfl [.int (nI a)]) rfl rfl hl.1 rfl (lv_room (by exact Nat.le_of_ble_eq_true rfl)) d_Reader_takeCharacter_83 ⟨by exact Nat.le_of_ble_eq_true rfl, by exact Nat.le_of_ble_eq_true rfl⟩) (fun r_17 u_16 H locs hw hP hD hS => ?_)
              obtain rfl := hw
              have hP : va_P g.1 pc_cl [(o, .inr (4, [.ref q, .int (nI w)])), (q, .inr (1, [.ref r, .int (nI n)])), (r, .inl (g.2.1, 32768, .inl (bA t)))] H := hP
              have hD : va_D A [(o, .inr (4, [.ref q, .int (nI w)])), (q, .inr (1, [.ref r, .int (nI n)])), (r, .inl (g.2.1, 32768, .inl (bA t)))] := hD
              refine lv_iload_n hx hb d_Reader_takeCharacter_86 rfl (lv_at hl 2 rfl) ?_
              refine pc_jne (tgt := 94) hx hb d_Reader_takeCharacter_87 (by decide) (by omega) (by omega) (fun h_18 => ?_) (fun h_18 => ?_)
              · skip
                refine lv_iconst (v := (-1)) hx hb d_Reader_takeCharacter_94 (by decide) ?_
                exact hQ _ _ 95 _ (-1) w d_Reader_takeCharacter_95 rfl (Or.inl ⟨by first | (exact chV_short (by rw [bl_len]; omega)) | (exact chV_nof (bl_at (by omega)) hs0) | (exact chV_bad (by rw [bl_len]; omega) (bl_at (by omega)) hs0 hend (fun z => absurd ((chI_nI (by omega)).mpr z.1) (by assumption))) | (exact chV_bad (by rw [bl_len]; omega) (bl_at (by omega)) hs0 hend (fun z => absurd z.2 (by assumption))) | (exact chV_fail (by rw [bl_len]; omega) (bl_at (by omega)) hs0 (by rw [← hr2]; exact chR_short (by omega) (by rw [bl_len]; omega))) | (exact chV_fail (by rw [bl_len]; omega) (bl_at (by omega)) hs0 (by rw [← hr2]; exact chR_bad (by omega) (bl_at (by omega)) (by omega))), rfl, by omega⟩) (hP.sub [0, 1, 2] rfl) (hD.sub [0, 1, 2] (by decide) rfl) hS
              · skip
                refine lv_iload_n hx hb d_Reader_takeCharacter_90 rfl (lv_at hl 3 rfl) ?_
                refine lv_goto (tgt := 95) hx hb d_Reader_takeCharacter_91 (by decide) ?_
                exact hQ _ _ 95 _ (nI a) w d_Reader_takeCharacter_95 rfl (Or.inr ⟨a, by rw [chV_ok (by rw [bl_len]; omega) (bl_at (by omega)) hs0 hend ⟨(chI_nI (by omega)).mp (by assumption), by assumption⟩, hw2, hks2], rfl, by omega, by omega⟩) (hP.sub [0, 1, 2] rfl) (hD.sub [0, 1, 2] (by decide) rfl) hS
          · skip
            have hab := ch_bound hk1 (by omega) ha
            refine lv_aload_n hx hb d_Reader_takeCharacter_33 rfl (lv_at hl 0 rfl) ?_
            refine pc_i (wc := [(o, .inr (4, [.ref q, .int (nI w)])), (q, .inr (1, [.ref r, .int (nI n)])), (r, .inl (g.2.1, 32768, .inl (bA t)))]) (wr := []) (cells' := 0) (slots' := 0) hP hD hS hA [0, 1, 2] [] rfl rfl (by decide) (by decide) rfl rfl (va_runV (n := 0) (As := []) (rest := []) (C := R_Reader) ⟨hx, hb, hml, hown, hE.hts⟩ (c_Reader_takeByte l g o w q r n t (by omega) (by omega) _) ⟨pc_cb hE m_309 m_15 m_306 (by decide +kernel) ⟨by exact Nat.le_of_ble_eq_true rfl, by exact Nat.le_of_ble_eq_true rfl⟩, hE.w m_308, hE.w ms_13⟩ (pc_preV (ci := 4) (q0 := 0) hP hD hE hS hA [0, 1, 2] (by decide) rfl [] rfl rfl) rfl rfl hl.1 rfl (lv_room (by exact Nat.le_of_ble_eq_true rfl)) d_Reader_takeCharacter_34 ⟨by exact Nat.le_of_ble_eq_true rfl, by exact Nat.le_of_ble_eq_true rfl⟩) (fun r_20 u_19 H locs hw hP hD hS => ?_)
            obtain ⟨p2_21, rfl⟩ : ∃ z, z = u_19 := ⟨_, rfl⟩
            have hw_22 := hw
            have hw_22 : (n ≤ w ∧ r_20 = -1 ∧ p2_21 = w) ∨ (w < n ∧ r_20 = nI (bN t w) ∧ p2_21 = w + 1) := hw_22
            have hP : va_P g.1 pc_cl [(o, .inr (4, [.ref q, .int (nI p2_21)])), (q, .inr (1, [.ref r, .int (nI n)])), (r, .inl (g.2.1, 32768, .inl (bA t)))] H := hP
            have hD : va_D A [(o, .inr (4, [.ref q, .int (nI p2_21)])), (q, .inr (1, [.ref r, .int (nI n)])), (r, .inl (g.2.1, 32768, .inl (bA t)))] := hD
            rcases hw_22 with ⟨hlt, rfl, hp2⟩ | ⟨hlt, rfl, rfl⟩
            · skip
              refine lv_istore (lv' := [(5, .int (-1)), (0, .ref o), (1, .int (nI (bN t p0))), (2, .int (nI (chS (bN t p0)))), (3, .int (nI a)), (4, .int (nI k))]) hx hb d_Reader_takeCharacter_37 hl (by decide) rfl (fun ls hl => ?_)
              refine lv_iload hx hb d_Reader_takeCharacter_39 (lv_at hl 0 rfl) ?_
              refine lv_sipush (v := nI 128) hx hb d_Reader_takeCharacter_41 (by decide) ?_
              refine lv_icmp_lt (tgt := 55) hx hb d_Reader_takeCharacter_44 (by decide) (fun h_d => ?_) (fun h_d => absurd h_d (fun k9 => k9 (by decide)))
              refine lv_iconst (v := (-1)) hx hb d_Reader_takeCharacter_55 (by decide) ?_
              exact hQ _ _ 56 _ (-1) p2_21 d_Reader_takeCharacter_56 rfl (Or.inl ⟨by first | (exact chV_short (by rw [bl_len]; omega)) | (exact chV_nof (bl_at (by omega)) hs0) | (exact chV_bad (by rw [bl_len]; omega) (bl_at (by omega)) hs0 hend (fun z => absurd ((chI_nI (by omega)).mpr z.1) (by assumption))) | (exact chV_bad (by rw [bl_len]; omega) (bl_at (by omega)) hs0 hend (fun z => absurd z.2 (by assumption))) | (exact chV_fail (by rw [bl_len]; omega) (bl_at (by omega)) hs0 (by rw [← hr2]; exact chR_short (by omega) (by rw [bl_len]; omega))) | (exact chV_fail (by rw [bl_len]; omega) (bl_at (by omega)) hs0 (by rw [← hr2]; exact chR_bad (by omega) (bl_at (by omega)) (by omega))), rfl, by omega⟩) (hP.sub [0, 1, 2] rfl) (hD.sub [0, 1, 2] (by decide) rfl) hS
            · skip
              have hP : va_P g.1 pc_cl [(o, .inr (4, [.ref q, .int (nI (w + 1))])), (q, .inr (1, [.ref r, .int (nI n)])), (r, .inl (g.2.1, 32768, .inl (bA t)))] H := hP
              have hD : va_D A [(o, .inr (4, [.ref q, .int (nI (w + 1))])), (q, .inr (1, [.ref r, .int (nI n)])), (r, .inl (g.2.1, 32768, .inl (bA t)))] := hD
              have hb8 := bN_lt t w
              refine lv_istore (lv' := [(5, .int (nI (bN t w))), (0, .ref o), (1, .int (nI (bN t p0))), (2, .int (nI (chS (bN t p0)))), (3, .int (nI a)), (4, .int (nI k))]) hx hb d_Reader_takeCharacter_37 hl (by decide) rfl (fun ls hl => ?_)
              refine lv_iload hx hb d_Reader_takeCharacter_39 (lv_at hl 0 rfl) ?_
              refine lv_sipush (v := nI 128) hx hb d_Reader_takeCharacter_41 (by decide) ?_
              refine pc_jlt (tgt := 55) hx hb d_Reader_takeCharacter_44 (by decide) (by omega) (by omega) (fun h_23 => ?_) (fun h_23 => ?_)
              · skip
                refine lv_iconst (v := (-1)) hx hb d_Reader_takeCharacter_55 (by decide) ?_
                exact hQ _ _ 56 _ (-1) (w + 1) d_Reader_takeCharacter_56 rfl (Or.inl ⟨by first | (exact chV_short (by rw [bl_len]; omega)) | (exact chV_nof (bl_at (by omega)) hs0) | (exact chV_bad (by rw [bl_len]; omega) (bl_at (by omega)) hs0 hend (fun z => absurd ((chI_nI (by omega)).mpr z.1) (by assumption))) | (exact chV_bad (by rw [bl_len]; omega) (bl_at (by omega)) hs0 hend (fun z => absurd z.2 (by assumption))) | (exact chV_fail (by rw [bl_len]; omega) (bl_at (by omega)) hs0 (by rw [← hr2]; exact chR_short (by omega) (by rw [bl_len]; omega))) | (exact chV_fail (by rw [bl_len]; omega) (bl_at (by omega)) hs0 (by rw [← hr2]; exact chR_bad (by omega) (bl_at (by omega)) (by omega))), rfl, by omega⟩) (hP.sub [0, 1, 2] rfl) (hD.sub [0, 1, 2] (by decide) rfl) hS
              · skip
                refine lv_iload hx hb d_Reader_takeCharacter_47 (lv_at hl 0 rfl) ?_
                refine lv_sipush (v := nI 192) hx hb d_Reader_takeCharacter_49 (by decide) ?_
                refine pc_jlt (tgt := 57) hx hb d_Reader_takeCharacter_52 (by decide) (by omega) (by omega) (fun h_24 => ?_) (fun h_24 => ?_)
                · skip
                  refine lv_iload_n hx hb d_Reader_takeCharacter_57 rfl (lv_at hl 4 rfl) ?_
                  refine lv_bipush (v := nI 64) hx hb d_Reader_takeCharacter_58 (by decide) ?_
                  refine lv_imul hx hb d_Reader_takeCharacter_60 ?_
                  refine pc_ti (y := nI (a * 64)) (pk_mul _ _) ?_
                  refine lv_iload hx hb d_Reader_takeCharacter_61 (lv_at hl 0 rfl) ?_
                  refine lv_sipush (v := nI 128) hx hb d_Reader_takeCharacter_63 (by decide) ?_
                  refine lv_isub hx hb d_Reader_takeCharacter_66 ?_
                  refine pc_ti (y := nI ((bN t w) - 128)) (pk_sub (by omega)) ?_
                  refine lv_iadd hx hb d_Reader_takeCharacter_67 ?_
                  refine pc_ti (y := nI (a * 64 + ((bN t w) - 128))) (nI_add _ _) ?_
                  refine lv_istore_n (lv' := [(3, .int (nI (a * 64 + ((bN t w) - 128)))), (5, .int (nI (bN t w))), (0, .ref o), (1, .int (nI (bN t p0))), (2, .int (nI (chS (bN t p0)))), (4, .int (nI k))]) hx hb d_Reader_takeCharacter_68 rfl hl (by decide) rfl (fun ls hl => ?_)
                  refine lv_iinc (v := nI (k + 1)) (lv' := [(4, .int (nI (k + 1))), (3, .int (nI (a * 64 + ((bN t w) - 128)))), (5, .int (nI (bN t w))), (0, .ref o), (1, .int (nI (bN t p0))), (2, .int (nI (chS (bN t p0))))]) hx hb d_Reader_takeCharacter_69 hl (k := 5) rfl (pc_inc k 1) (by decide) rfl (fun ls hl => ?_)
                  refine lv_goto (tgt := 27) hx hb d_Reader_takeCharacter_72 (by decide) ?_
                  exact ih_27 (k + 1) (a * 64 + ((bN t w) - 128)) (w + 1) (by omega) (by omega) (by omega) (by omega) (ch_grow hk1 (by omega) ha) (by rw [← chR_more (by omega) (by rw [bl_len]; omega) (bl_at (by omega)) (by omega) (by omega)]; exact hr2) (by omega) _ _ (hP.sub [0, 1, 2] rfl) (hD.sub [0, 1, 2] (by decide) rfl) hS _ (lv_sub hl [3, 4, 5, 1, 0] rfl)
                · skip
                  refine lv_iconst (v := (-1)) hx hb d_Reader_takeCharacter_55 (by decide) ?_
                  exact hQ _ _ 56 _ (-1) (w + 1) d_Reader_takeCharacter_56 rfl (Or.inl ⟨by first | (exact chV_short (by rw [bl_len]; omega)) | (exact chV_nof (bl_at (by omega)) hs0) | (exact chV_bad (by rw [bl_len]; omega) (bl_at (by omega)) hs0 hend (fun z => absurd ((chI_nI (by omega)).mpr z.1) (by assumption))) | (exact chV_bad (by rw [bl_len]; omega) (bl_at (by omega)) hs0 hend (fun z => absurd z.2 (by assumption))) | (exact chV_fail (by rw [bl_len]; omega) (bl_at (by omega)) hs0 (by rw [← hr2]; exact chR_short (by omega) (by rw [bl_len]; omega))) | (exact chV_fail (by rw [bl_len]; omega) (bl_at (by omega)) hs0 (by rw [← hr2]; exact chR_bad (by omega) (bl_at (by omega)) (by omega))), rfl, by omega⟩) (hP.sub [0, 1, 2] rfl) (hD.sub [0, 1, 2] (by decide) rfl) hS
      exact lp_27 (5 - 1 + 1) 1 ((bN t p0) - (chM (chS (bN t p0)))) (p0 + 1) (by omega) (by omega) (by omega) (by omega) (by simpa using hct) rfl (Nat.lt_succ_self _) _ _ (hP.sub [0, 1, 2] rfl) (hD.sub [0, 1, 2] (by decide) rfl) hS _ (lv_sub hl [4, 3, 2, 1, 0] rfl)
abbrev rm_Reader_takeAllVarints : Room := { frames := 3, cells := 0, slots := 0, locals := 65 }
set_option maxHeartbeats 1000000 in
set_option maxRecDepth 100000 in
/-- the whole run read -/
theorem c_Reader_takeAllVarints (l : Launch) (g : pc_G) (o : Nat) (p0 : Nat) (q : Nat) (r : Nat) (n : Nat) (t : Nat → UInt8) (qi : Nat) (ri : Nat) (ni : Int32) (fi : Nat → Int32) (hp : p0 ≤ n) (hn : n ≤ 32768) : pc_Ci (S := Nat × Nat × (Nat → Int32)) l y_Reader_takeAllVarints prog_6_method_7_code 4 .boolean rm_Reader_takeAllVarints g [(o, .inr (4, [.ref q, .int (nI p0)])), (q, .inr (1, [.ref r, .int (nI n)])), (r, .inl (g.2.1, 32768, .inl (bA t))), (qi, .inr (2, [.ref ri, .int ni])), (ri, .inl (g.2.2.1, 32768, .inl fi))] [.ref o, .ref qi] (fun rv u => allRes (numsA (bl t n) (n + 1) p0 []) rv u.2.1 u.2.2) (fun u => [(o, .inr (4, [.ref q, .int (nI u.1)])), (q, .inr (1, [.ref r, .int (nI n)])), (r, .inl (g.2.1, 32768, .inl (bA t))), (qi, .inr (2, [.ref ri, .int (nI u.2.1)])), (ri, .inl (g.2.2.1, 32768, .inl u.2.2))]) := by
  refine pc_Ci.of (by decide) (by exact Nat.le_of_ble_eq_true rfl) ?_
  intro p e s m below meth c A Q hx hb hml hown hE hA hQ hP hD ls hl
  have hS : va_S A s.heap s.heap [] := va_S.rf
  have hl : lv_has ls 4 [(0, .ref o), (1, .ref qi)] := hl
  refine lv_aload_n hx hb d_Reader_takeAllVarints_0 rfl (lv_at hl 1 rfl) ?_
  refine lv_iconst (v := nI 0) hx hb d_Reader_takeAllVarints_1 (by decide) ?_
  refine va_putN (ci := 2) (ty := .int) (C := R_Ints) (T := F_Ints) (N := 2) hx hb hE.hts in_Ints t_Ints tk_Ints nn_Ints hown hE.2.1 hP hD hS 3 rfl rfl 1 (by decide) (hE.w m_78) (fun _ h9 => h9) rfl (by decide +kernel) (by rfl) (by rfl) (by exact Nat.le_of_ble_eq_true rfl) d_Reader_takeAllVarints_2 (fun H locs hP hD hS => ?_)
  have hP : va_P g.1 pc_cl [(o, .inr (4, [.ref q, .int (nI p0)])), (q, .inr (1, [.ref r, .int (nI n)])), (r, .inl (g.2.1, 32768, .inl (bA t))), (qi, .inr (2, [.ref ri, .int (nI 0)])), (ri, .inl (g.2.2.1, 32768, .inl fi))] H := hP
  have hD : va_D A [(o, .inr (4, [.ref q, .int (nI p0)])), (q, .inr (1, [.ref r, .int (nI n)])), (r, .inl (g.2.1, 32768, .inl (bA t))), (qi, .inr (2, [.ref ri, .int (nI 0)])), (ri, .inl (g.2.2.1, 32768, .inl fi))] := hD
  refine lv_iconst (v := nI 0) hx hb d_Reader_takeAllVarints_5 (by decide) ?_
  refine lv_istore_n (lv' := [(2, .int (nI 0)), (0, .ref o), (1, .ref qi)]) hx hb d_Reader_takeAllVarints_6 rfl hl (by decide) rfl (fun ls hl => ?_)
  have lp_7 : ∀ (n9 : Nat) (k : Nat) (w : Nat) (f : Nat → Int32) (fu : Nat) (ns : List Nat) (hwn : w ≤ n) (hkw : k + p0 ≤ w) (hfu : n - w < fu) (hns : k = ns.length) (hf : numsA (bl t n) fu w ns = numsA (bl t n) (n + 1) p0 []) (hold : ∀ j, j < k → f j = nI (ns.getD j 0)) (hmu : n - w < n9) (H : Heap) (locs : List Loc) (hP : va_P g.1 pc_cl [(o, .inr (4, [.ref q, .int (nI w)])), (q, .inr (1, [.ref r, .int (nI n)])), (r, .inl (g.2.1, 32768, .inl (bA t))), (qi, .inr (2, [.ref ri, .int (nI k)])), (ri, .inl (g.2.2.1, 32768, .inl f))] H) (hD : va_D A [(o, .inr (4, [.ref q, .int (nI w)])), (q, .inr (1, [.ref r, .int (nI n)])), (r, .inl (g.2.1, 32768, .inl (bA t))), (qi, .inr (2, [.ref ri, .int (nI k)])), (ri, .inl (g.2.2.1, 32768, .inl f))]) (hS : va_S A s.heap H locs) (ls : Array Slot) (hl : lv_has ls 4 [(0, .ref o), (1, .ref qi), (2, .int (nI k))]), W p l e rm_Reader_takeAllVarints s m ([.ref o, .ref qi] : List Value).toArray below meth c H locs 0 0 Q (F0 m 7 ls []) := by
    intro n9
    induction n9 with
    | zero => intros; omega
    | succ n9 ih_7 =>
      intro k w f fu ns hwn hkw hfu hns hf hold hmu H locs hP hD hS ls hl
      refine lv_iload_n hx hb d_Reader_takeAllVarints_7 rfl (lv_at hl 2 rfl) ?_
      refine lv_ldc hx hb hown (hE.w m_347) d_Reader_takeAllVarints_8 ?_
      refine pc_ti (y := nI 32768) (by decide) ?_
      refine pc_jge (tgt := 43) hx hb d_Reader_takeAllVarints_10 (by decide) (by omega) (by omega) (fun h_1 => ?_) (fun h_1 => ?_)
      · skip
        refine lv_aload_n hx hb d_Reader_takeAllVarints_43 rfl (lv_at hl 0 rfl) ?_
        refine pc_i (wc := [(o, .inr (4, [.ref q, .int (nI w)])), (q, .inr (1, [.ref r, .int (nI n)])), (r, .inl (g.2.1, 32768, .inl (bA t)))]) (wr := [(qi, .inr (2, [.ref ri, .int (nI k)])), (ri, .inl (g.2.2.1, 32768, .inl f))]) (cells' := 0) (slots' := 0) hP hD hS hA [0, 1, 2] [3, 4] rfl rfl (by decide) (by decide) rfl rfl (va_runV (n := 0) (As := []) (rest := []) (C := R_Reader) ⟨hx, hb, hml, hown, hE.hts⟩ (c_Reader_left l g o w q r n t (by omega) (by omega) _) ⟨pc_cb hE m_313 m_15 m_310 (by decide +kernel) ⟨by exact Nat.le_of_ble_eq_true rfl, by exact Nat.le_of_ble_eq_true rfl⟩, hE.w m_312, hE.w ms_14⟩ (pc_preV (ci := 4) (q0 := 0) hP hD hE hS hA [0, 1, 2] (by decide) rfl [] rfl rfl) rfl rfl hl.1 rfl (lv_room (by exact Nat.le_of_ble_eq_true rfl)) d_Reader_takeAllVarints_44 ⟨by exact Nat.le_of_ble_eq_true rfl, by exact Nat.le_of_ble_eq_true rfl⟩) (fun r_3 u_2 H locs hw hP hD hS => ?_)
        obtain rfl := hw
        have hP : va_P g.1 pc_cl [(qi, .inr (2, [.ref ri, .int (nI k)])), (ri, .inl (g.2.2.1, 32768, .inl f)), (o, .inr (4, [.ref q, .int (nI w)])), (q, .inr (1, [.ref r, .int (nI n)])), (r, .inl (g.2.1, 32768, .inl (bA t)))] H := hP
        have hD : va_D A [(qi, .inr (2, [.ref ri, .int (nI k)])), (ri, .inl (g.2.2.1, 32768, .inl f)), (o, .inr (4, [.ref q, .int (nI w)])), (q, .inr (1, [.ref r, .int (nI n)])), (r, .inl (g.2.1, 32768, .inl (bA t)))] := hD
        refine pc_zne (tgt := 54) hx hb d_Reader_takeAllVarints_47 (by decide) (by omega) (fun h_4 => ?_) (fun h_4 => ?_)
        · skip
          exact absurd h_4 (by omega)
        · skip
          refine lv_iconst (v := nI 1) hx hb d_Reader_takeAllVarints_50 (by decide) ?_
          refine lv_goto (tgt := 55) hx hb d_Reader_takeAllVarints_51 (by decide) ?_
          exact hQ _ _ 55 _ (nI 1) (w, k, f) d_Reader_takeAllVarints_55 rfl (Or.inl ⟨rfl, ns, by rw [← hf]; exact numsA_end (by omega) (by rw [bl_len]; omega), hns, show k ≤ 32768 by omega, hold⟩) (hP.sub [2, 3, 4, 0, 1] rfl) (hD.sub [2, 3, 4, 0, 1] (by decide) rfl) hS
      · skip
        refine lv_aload_n hx hb d_Reader_takeAllVarints_13 rfl (lv_at hl 0 rfl) ?_
        refine pc_i (wc := [(o, .inr (4, [.ref q, .int (nI w)])), (q, .inr (1, [.ref r, .int (nI n)])), (r, .inl (g.2.1, 32768, .inl (bA t)))]) (wr := [(qi, .inr (2, [.ref ri, .int (nI k)])), (ri, .inl (g.2.2.1, 32768, .inl f))]) (cells' := 0) (slots' := 0) hP hD hS hA [0, 1, 2] [3, 4] rfl rfl (by decide) (by decide) rfl rfl (va_runV (n := 0) (As := []) (rest := []) (C := R_Reader) ⟨hx, hb, hml, hown, hE.hts⟩ (c_Reader_left l g o w q r n t (by omega) (by omega) _) ⟨pc_cb hE m_313 m_15 m_310 (by decide +kernel) ⟨by exact Nat.le_of_ble_eq_true rfl, by exact Nat.le_of_ble_eq_true rfl⟩, hE.w m_312, hE.w ms_14⟩ (pc_preV (ci := 4) (q0 := 0) hP hD hE hS hA [0, 1, 2] (by decide) rfl [] rfl rfl) rfl rfl hl.1 rfl (lv_room (by exact Nat.le_of_ble_eq_true rfl)) d_Reader_takeAllVarints_14 ⟨by exact Nat.le_of_ble_eq_true rfl, by exact Nat.le_of_ble_eq_true rfl⟩) (fun r_6 u_5 H locs hw hP hD hS => ?_)
        obtain rfl := hw
        have hP : va_P g.1 pc_cl [(qi, .inr (2, [.ref ri, .int (nI k)])), (ri, .inl (g.2.2.1, 32768, .inl f)), (o, .inr (4, [.ref q, .int (nI w)])), (q, .inr (1, [.ref r, .int (nI n)])), (r, .inl (g.2.1, 32768, .inl (bA t)))] H := hP
        have hD : va_D A [(qi, .inr (2, [.ref ri, .int (nI k)])), (ri, .inl (g.2.2.1, 32768, .inl f)), (o, .inr (4, [.ref q, .int (nI w)])), (q, .inr (1, [.ref r, .int (nI n)])), (r, .inl (g.2.1, 32768, .inl (bA t)))] := hD
        refine pc_zle (tgt := 43) hx hb d_Reader_takeAllVarints_17 (by decide) (by omega) (fun h_7 => ?_) (fun h_7 => ?_)
        · skip
          refine lv_aload_n hx hb d_Reader_takeAllVarints_43 rfl (lv_at hl 0 rfl) ?_
          refine pc_i (wc := [(o, .inr (4, [.ref q, .int (nI w)])), (q, .inr (1, [.ref r, .int (nI n)])), (r, .inl (g.2.1, 32768, .inl (bA t)))]) (wr := [(qi, .inr (2, [.ref ri, .int (nI k)])), (ri, .inl (g.2.2.1, 32768, .inl f))]) (cells' := 0) (slots' := 0) hP hD hS hA [2, 3, 4] [0, 1] rfl rfl (by decide) (by decide) rfl rfl (va_runV (n := 0) (As := []) (rest := []) (C := R_Reader) ⟨hx, hb, hml, hown, hE.hts⟩ (c_Reader_left l g o w q r n t (by omega) (by omega) _) ⟨pc_cb hE m_313 m_15 m_310 (by decide +kernel) ⟨by exact Nat.le_of_ble_eq_true rfl, by exact Nat.le_of_ble_eq_true rfl⟩, hE.w m_312, hE.w ms_14⟩ (pc_preV (ci := 4) (q0 := 2) hP hD hE hS hA [2, 3, 4] (by decide) rfl [] rfl rfl) rfl rfl hl.1 rfl (lv_room (by exact Nat.le_of_ble_eq_true rfl)) d_Reader_takeAllVarints_44 ⟨by exact Nat.le_of_ble_eq_true rfl, by exact Nat.le_of_ble_eq_true rfl⟩) (fun r_9 u_8 H locs hw hP hD hS => ?_)
          obtain rfl := hw
          have hP : va_P g.1 pc_cl [(qi, .inr (2, [.ref ri, .int (nI k)])), (ri, .inl (g.2.2.1, 32768, .inl f)), (o, .inr (4, [.ref q, .int (nI w)])), (q, .inr (1, [.ref r, .int (nI n)])), (r, .inl (g.2.1, 32768, .inl (bA t)))] H := hP
          have hD : va_D A [(qi, .inr (2, [.ref ri, .int (nI k)])), (ri, .inl (g.2.2.1, 32768, .inl f)), (o, .inr (4, [.ref q, .int (nI w)])), (q, .inr (1, [.ref r, .int (nI n)])), (r, .inl (g.2.1, 32768, .inl (bA t)))] := hD
          refine pc_zne (tgt := 54) hx hb d_Reader_takeAllVarints_47 (by decide) (by omega) (fun h_10 => ?_) (fun h_10 => ?_)
          · skip
            exact absurd h_10 (by omega)
          · skip
            refine lv_iconst (v := nI 1) hx hb d_Reader_takeAllVarints_50 (by decide) ?_
            refine lv_goto (tgt := 55) hx hb d_Reader_takeAllVarints_51 (by decide) ?_
            exact hQ _ _ 55 _ (nI 1) (w, k, f) d_Reader_takeAllVarints_55 rfl (Or.inl ⟨rfl, ns, by rw [← hf]; exact numsA_end (by omega) (by rw [bl_len]; omega), hns, show k ≤ 32768 by omega, hold⟩) (hP.sub [2, 3, 4, 0, 1] rfl) (hD.sub [2, 3, 4, 0, 1] (by decide) rfl) hS
        · skip
          refine lv_aload_n hx hb d_Reader_takeAllVarints_20 rfl (lv_at hl 0 rfl) ?_
          refine pc_i (wc := [(o, .inr (4, [.ref q, .int (nI w)])), (q, .inr (1, [.ref r, .int (nI n)])), (r, .inl (g.2.1, 32768, .inl (bA t)))]) (wr := [(qi, .inr (2, [.ref ri, .int (nI k)])), (ri, .inl (g.2.2.1, 32768, .inl f))]) (cells' := 0) (slots' := 0) hP hD hS hA [2, 3, 4] [0, 1] rfl rfl (by decide) (by decide) rfl rfl (va_runV (n := 0) (As := []) (rest := []) (C := R_Reader) ⟨hx, hb, hml, hown, hE.hts⟩ (c_Reader_takeVarint l g o w q r n t (by omega) (by omega) _) ⟨pc_cb hE m_305 m_15 m_446 (by decide +kernel) ⟨by exact Nat.le_of_ble_eq_true rfl, by exact Nat.le_of_ble_eq_true rfl⟩, hE.w m_304, hE.w ms_12⟩ (pc_preV (ci := 4) (q0 := 2) hP hD hE hS hA [2, 3, 4] (by decide) rfl [] rfl rfl) rfl rfl hl.1 rfl (lv_room (by exact Nat.le_of_ble_eq_true rfl)) d_Reader_takeAllVarints_21 ⟨by exact Nat.le_of_ble_eq_true rfl, by exact Nat.le_of_ble_eq_true rfl⟩) (fun r_12 u_11 H locs hw hP hD hS => ?_)
          obtain ⟨p2_13, rfl⟩ : ∃ z, z = u_11 := ⟨_, rfl⟩
          have hw_14 := hw
          have hw_14 : rdRes (readV (bl t n) w) r_12 p2_13 n := hw_14
          have hP : va_P g.1 pc_cl [(qi, .inr (2, [.ref ri, .int (nI k)])), (ri, .inl (g.2.2.1, 32768, .inl f)), (o, .inr (4, [.ref q, .int (nI p2_13)])), (q, .inr (1, [.ref r, .int (nI n)])), (r, .inl (g.2.1, 32768, .inl (bA t)))] H := hP
          have hD : va_D A [(qi, .inr (2, [.ref ri, .int (nI k)])), (ri, .inl (g.2.2.1, 32768, .inl f)), (o, .inr (4, [.ref q, .int (nI p2_13)])), (q, .inr (1, [.ref r, .int (nI n)])), (r, .inl (g.2.1, 32768, .inl (bA t)))] := hD
          rcases hw_14 with ⟨hno, rfl, hp2⟩ | ⟨v, hyes, rfl, hv31, hp2⟩
          · skip
            refine lv_istore_n (lv' := [(3, .int (-1)), (0, .ref o), (1, .ref qi), (2, .int (nI k))]) hx hb d_Reader_takeAllVarints_24 rfl hl (by decide) rfl (fun ls hl => ?_)
            refine lv_iload_n hx hb d_Reader_takeAllVarints_25 rfl (lv_at hl 0 rfl) ?_
            refine lv_iconst (v := (-1)) hx hb d_Reader_takeAllVarints_26 (by decide) ?_
            refine lv_icmp_ne (tgt := 32) hx hb d_Reader_takeAllVarints_27 (by decide) (fun h_d => absurd h_d (fun k9 => k9 rfl)) (fun h_d => ?_)
            refine lv_iconst (v := nI 0) hx hb d_Reader_takeAllVarints_30 (by decide) ?_
            exact hQ _ _ 31 _ (nI 0) (p2_13, k, f) d_Reader_takeAllVarints_31 rfl (Or.inr ⟨rfl, by rw [← hf]; exact numsA_bad (by rw [bl_len]; omega) hno⟩) (hP.sub [2, 3, 4, 0, 1] rfl) (hD.sub [2, 3, 4, 0, 1] (by decide) rfl) hS
          · skip
            have hin := readV_in hyes
            refine lv_istore_n (lv' := [(3, .int (nI v)), (0, .ref o), (1, .ref qi), (2, .int (nI k))]) hx hb d_Reader_takeAllVarints_24 rfl hl (by decide) rfl (fun ls hl => ?_)
            refine lv_iload_n hx hb d_Reader_takeAllVarints_25 rfl (lv_at hl 0 rfl) ?_
            refine lv_iconst (v := (-1)) hx hb d_Reader_takeAllVarints_26 (by decide) ?_
            refine lv_icmp_ne (tgt := 32) hx hb d_Reader_takeAllVarints_27 (by decide) (fun h_d => ?_) (fun h_d => absurd h_d (pc_nm1 (by omega)))
            obtain ⟨fu9, rfl⟩ : ∃ z, fu = z + 1 := ⟨fu - 1, by omega⟩
            refine lv_aload_n hx hb d_Reader_takeAllVarints_32 rfl (lv_at hl 2 rfl) ?_
            refine lv_iload_n hx hb d_Reader_takeAllVarints_33 rfl (lv_at hl 0 rfl) ?_
            refine pc_v (wc := [(qi, .inr (2, [.ref ri, .int (nI k)])), (ri, .inl (g.2.2.1, 32768, .inl f))]) (wr := [(o, .inr (4, [.ref q, .int (nI p2_13)])), (q, .inr (1, [.ref r, .int (nI n)])), (r, .inl (g.2.1, 32768, .inl (bA t)))]) (cells' := 0) (slots' := 0) hP hD hS hA [0, 1] [2, 3, 4] rfl rfl (by decide) (by decide) rfl rfl (va_runVN (n := 1) (As := [.int (nI v)]) (rest := []) (C := R_Ints) ⟨hx, hb, hml, hown, hE.hts⟩ (c_Ints_add l g qi ri k f (nI v) (by omega) _) ⟨pc_cn hE m_371 m_4 m_368 (by decide +kernel) ⟨by exact Nat.le_of_ble_eq_true rfl, by exact Nat.le_of_ble_eq_true rfl⟩, hE.w m_370, hE.w ms_19⟩ (pc_preV (ci := 2) (q0 := 0) hP hD hE hS hA [0, 1] (by decide) rfl [.int (nI v)] rfl rfl) rfl rfl hl.1 rfl (lv_room (by exact Nat.le_of_ble_eq_true rfl)) d_Reader_takeAllVarints_34 ⟨by exact Nat.le_of_ble_eq_true rfl, by exact Nat.le_of_ble_eq_true rfl⟩) (fun u_15 H locs hw hP hD hS => ?_)
            have hP : va_P g.1 pc_cl [(o, .inr (4, [.ref q, .int (nI p2_13)])), (q, .inr (1, [.ref r, .int (nI n)])), (r, .inl (g.2.1, 32768, .inl (bA t))), (qi, .inr (2, [.ref ri, .int (nI (k + 1))])), (ri, .inl (g.2.2.1, 32768, .inl (upd f k (nI v))))] H := hP
            have hD : va_D A [(o, .inr (4, [.ref q, .int (nI p2_13)])), (q, .inr (1, [.ref r, .int (nI n)])), (r, .inl (g.2.1, 32768, .inl (bA t))), (qi, .inr (2, [.ref ri, .int (nI (k + 1))])), (ri, .inl (g.2.2.1, 32768, .inl (upd f k (nI v))))] := hD
            refine lv_iinc (v := nI (k + 1)) (lv' := [(2, .int (nI (k + 1))), (3, .int (nI v)), (0, .ref o), (1, .ref qi)]) hx hb d_Reader_takeAllVarints_37 hl (k := 3) rfl (pc_inc k 1) (by decide) rfl (fun ls hl => ?_)
            refine lv_goto (tgt := 7) hx hb d_Reader_takeAllVarints_40 (by decide) ?_
            exact ih_7 (k + 1) p2_13 (upd f k (nI v)) fu9 (ns ++ [v]) (by omega) (by omega) (by omega) (by simp [hns]) (by rw [← numsA_more (by rw [bl_len]; omega) hyes]; exact hf) (upd_put hns hold) (by omega) _ _ (hP.sub [0, 1, 2, 3, 4] rfl) (hD.sub [0, 1, 2, 3, 4] (by decide) rfl) hS _ (lv_sub hl [2, 3, 0] rfl)
  exact lp_7 (n - p0 + 1) 0 p0 fi (n + 1) ([]) (by omega) (by omega) (by omega) rfl rfl (fun j hj => absurd hj (Nat.not_lt_zero j)) (Nat.lt_succ_self _) _ _ (hP.sub [0, 1, 2, 3, 4] rfl) (hD.sub [0, 1, 2, 3, 4] (by decide) rfl) hS _ (lv_sub hl [1, 2, 0] rfl)
abbrev rm_Reader_takeAllCharacters : Room := { frames := 3, cells := 0, slots := 0, locals := 67 }
set_option maxHeartbeats 1000000 in
set_option maxRecDepth 100000 in
/-- the whole run read -/
theorem c_Reader_takeAllCharacters (l : Launch) (g : pc_G) (o : Nat) (p0 : Nat) (q : Nat) (r : Nat) (n : Nat) (t : Nat → UInt8) (qi : Nat) (ri : Nat) (ni : Int32) (fi : Nat → Int32) (hp : p0 ≤ n) (hn : n ≤ 32768) : pc_Ci (S := Nat × Nat × (Nat → Int32)) l y_Reader_takeAllCharacters prog_6_method_8_code 4 .boolean rm_Reader_takeAllCharacters g [(o, .inr (4, [.ref q, .int (nI p0)])), (q, .inr (1, [.ref r, .int (nI n)])), (r, .inl (g.2.1, 32768, .inl (bA t))), (qi, .inr (2, [.ref ri, .int ni])), (ri, .inl (g.2.2.1, 32768, .inl fi))] [.ref o, .ref qi] (fun rv u => allRes (chsA (bl t n) (n + 1) p0 []) rv u.2.1 u.2.2) (fun u => [(o, .inr (4, [.ref q, .int (nI u.1)])), (q, .inr (1, [.ref r, .int (nI n)])), (r, .inl (g.2.1, 32768, .inl (bA t))), (qi, .inr (2, [.ref ri, .int (nI u.2.1)])), (ri, .inl (g.2.2.1, 32768, .inl u.2.2))]) := by
  refine pc_Ci.of (by decide) (by exact Nat.le_of_ble_eq_true rfl) ?_
  intro p e s m below meth c A Q hx hb hml hown hE hA hQ hP hD ls hl
  have hS : va_S A s.heap s.heap [] := va_S.rf
  have hl : lv_has ls 4 [(0, .ref o), (1, .ref qi)] := hl
  refine lv_aload_n hx hb d_Reader_takeAllCharacters_0 rfl (lv_at hl 1 rfl) ?_
  refine lv_iconst (v := nI 0) hx hb d_Reader_takeAllCharacters_1 (by decide) ?_
  refine va_putN (ci := 2) (ty := .int) (C := R_Ints) (T := F_Ints) (N := 2) hx hb hE.hts in_Ints t_Ints tk_Ints nn_Ints hown hE.2.1 hP hD hS 3 rfl rfl 1 (by decide) (hE.w m_78) (fun _ h9 => h9) rfl (by decide +kernel) (by rfl) (by rfl) (by exact Nat.le_of_ble_eq_true rfl) d_Reader_takeAllCharacters_2 (fun H locs hP hD hS => ?_)
  have hP : va_P g.1 pc_cl [(o, .inr (4, [.ref q, .int (nI p0)])), (q, .inr (1, [.ref r, .int (nI n)])), (r, .inl (g.2.1, 32768, .inl (bA t))), (qi, .inr (2, [.ref ri, .int (nI 0)])), (ri, .inl (g.2.2.1, 32768, .inl fi))] H := hP
  have hD : va_D A [(o, .inr (4, [.ref q, .int (nI p0)])), (q, .inr (1, [.ref r, .int (nI n)])), (r, .inl (g.2.1, 32768, .inl (bA t))), (qi, .inr (2, [.ref ri, .int (nI 0)])), (ri, .inl (g.2.2.1, 32768, .inl fi))] := hD
  refine lv_iconst (v := nI 0) hx hb d_Reader_takeAllCharacters_5 (by decide) ?_
  refine lv_istore_n (lv' := [(2, .int (nI 0)), (0, .ref o), (1, .ref qi)]) hx hb d_Reader_takeAllCharacters_6 rfl hl (by decide) rfl (fun ls hl => ?_)
  have lp_7 : ∀ (n9 : Nat) (k : Nat) (w : Nat) (f : Nat → Int32) (fu : Nat) (ns : List Nat) (hwn : w ≤ n) (hkw : k + p0 ≤ w) (hfu : n - w < fu) (hns : k = ns.length) (hf : chsA (bl t n) fu w ns = chsA (bl t n) (n + 1) p0 []) (hold : ∀ j, j < k → f j = nI (ns.getD j 0)) (hmu : n - w < n9) (H : Heap) (locs : List Loc) (hP : va_P g.1 pc_cl [(o, .inr (4, [.ref q, .int (nI w)])), (q, .inr (1, [.ref r, .int (nI n)])), (r, .inl (g.2.1, 32768, .inl (bA t))), (qi, .inr (2, [.ref ri, .int (nI k)])), (ri, .inl (g.2.2.1, 32768, .inl f))] H) (hD : va_D A [(o, .inr (4, [.ref q, .int (nI w)])), (q, .inr (1, [.ref r, .int (nI n)])), (r, .inl (g.2.1, 32768, .inl (bA t))), (qi, .inr (2, [.ref ri, .int (nI k)])), (ri, .inl (g.2.2.1, 32768, .inl f))]) (hS : va_S A s.heap H locs) (ls : Array Slot) (hl : lv_has ls 4 [(0, .ref o), (1, .ref qi), (2, .int (nI k))]), W p l e rm_Reader_takeAllCharacters s m ([.ref o, .ref qi] : List Value).toArray below meth c H locs 0 0 Q (F0 m 7 ls []) := by
    intro n9
    induction n9 with
    | zero => intros; omega
    | succ n9 ih_7 =>
      intro k w f fu ns hwn hkw hfu hns hf hold hmu H locs hP hD hS ls hl
      refine lv_iload_n hx hb d_Reader_takeAllCharacters_7 rfl (lv_at hl 2 rfl) ?_
      refine lv_ldc hx hb hown (hE.w m_347) d_Reader_takeAllCharacters_8 ?_
      refine pc_ti (y := nI 32768) (by decide) ?_
      refine pc_jge (tgt := 43) hx hb d_Reader_takeAllCharacters_10 (by decide) (by omega) (by omega) (fun h_1 => ?_) (fun h_1 => ?_)
      · skip
        refine lv_aload_n hx hb d_Reader_takeAllCharacters_43 rfl (lv_at hl 0 rfl) ?_
        refine pc_i (wc := [(o, .inr (4, [.ref q, .int (nI w)])), (q, .inr (1, [.ref r, .int (nI n)])), (r, .inl (g.2.1, 32768, .inl (bA t)))]) (wr := [(qi, .inr (2, [.ref ri, .int (nI k)])), (ri, .inl (g.2.2.1, 32768, .inl f))]) (cells' := 0) (slots' := 0) hP hD hS hA [0, 1, 2] [3, 4] rfl rfl (by decide) (by decide) rfl rfl (va_runV (n := 0) (As := []) (rest := []) (C := R_Reader) ⟨hx, hb, hml, hown, hE.hts⟩ (c_Reader_left l g o w q r n t (by omega) (by omega) _) ⟨pc_cb hE m_313 m_15 m_310 (by decide +kernel) ⟨by exact Nat.le_of_ble_eq_true rfl, by exact Nat.le_of_ble_eq_true rfl⟩, hE.w m_312, hE.w ms_14⟩ (pc_preV (ci := 4) (q0 := 0) hP hD hE hS hA [0, 1, 2] (by decide) rfl [] rfl rfl) rfl rfl hl.1 rfl (lv_room (by exact Nat.le_of_ble_eq_true rfl)) d_Reader_takeAllCharacters_44 ⟨by exact Nat.le_of_ble_eq_true rfl, by exact Nat.le_of_ble_eq_true rfl⟩) (fun r_3 u_2 H locs hw hP hD hS => ?_)
        obtain rfl := hw
        have hP : va_P g.1 pc_cl [(qi, .inr (2, [.ref ri, .int (nI k)])), (ri, .inl (g.2.2.1, 32768, .inl f)), (o, .inr (4, [.ref q, .int (nI w)])), (q, .inr (1, [.ref r, .int (nI n)])), (r, .inl (g.2.1, 32768, .inl (bA t)))] H := hP
        have hD : va_D A [(qi, .inr (2, [.ref ri, .int (nI k)])), (ri, .inl (g.2.2.1, 32768, .inl f)), (o, .inr (4, [.ref q, .int (nI w)])), (q, .inr (1, [.ref r, .int (nI n)])), (r, .inl (g.2.1, 32768, .inl (bA t)))] := hD
        refine pc_zne (tgt := 54) hx hb d_Reader_takeAllCharacters_47 (by decide) (by omega) (fun h_4 => ?_) (fun h_4 => ?_)
        · skip
          exact absurd h_4 (by omega)
        · skip
          refine lv_iconst (v := nI 1) hx hb d_Reader_takeAllCharacters_50 (by decide) ?_
          refine lv_goto (tgt := 55) hx hb d_Reader_takeAllCharacters_51 (by decide) ?_
          exact hQ _ _ 55 _ (nI 1) (w, k, f) d_Reader_takeAllCharacters_55 rfl (Or.inl ⟨rfl, ns, by rw [← hf]; exact chsA_end (by omega) (by rw [bl_len]; omega), hns, show k ≤ 32768 by omega, hold⟩) (hP.sub [2, 3, 4, 0, 1] rfl) (hD.sub [2, 3, 4, 0, 1] (by decide) rfl) hS
      · skip
        refine lv_aload_n hx hb d_Reader_takeAllCharacters_13 rfl (lv_at hl 0 rfl) ?_
        refine pc_i (wc := [(o, .inr (4, [.ref q, .int (nI w)])), (q, .inr (1, [.ref r, .int (nI n)])), (r, .inl (g.2.1, 32768, .inl (bA t)))]) (wr := [(qi, .inr (2, [.ref ri, .int (nI k)])), (ri, .inl (g.2.2.1, 32768, .inl f))]) (cells' := 0) (slots' := 0) hP hD hS hA [0, 1, 2] [3, 4] rfl rfl (by decide) (by decide) rfl rfl (va_runV (n := 0) (As := []) (rest := []) (C := R_Reader) ⟨hx, hb, hml, hown, hE.hts⟩ (c_Reader_left l g o w q r n t (by omega) (by omega) _) ⟨pc_cb hE m_313 m_15 m_310 (by decide +kernel) ⟨by exact Nat.le_of_ble_eq_true rfl, by exact Nat.le_of_ble_eq_true rfl⟩, hE.w m_312, hE.w ms_14⟩ (pc_preV (ci := 4) (q0 := 0) hP hD hE hS hA [0, 1, 2] (by decide) rfl [] rfl rfl) rfl rfl hl.1 rfl (lv_room (by exact Nat.le_of_ble_eq_true rfl)) d_Reader_takeAllCharacters_14 ⟨by exact Nat.le_of_ble_eq_true rfl, by exact Nat.le_of_ble_eq_true rfl⟩) (fun r_6 u_5 H locs hw hP hD hS => ?_)
        obtain rfl := hw
        have hP : va_P g.1 pc_cl [(qi, .inr (2, [.ref ri, .int (nI k)])), (ri, .inl (g.2.2.1, 32768, .inl f)), (o, .inr (4, [.ref q, .int (nI w)])), (q, .inr (1, [.ref r, .int (nI n)])), (r, .inl (g.2.1, 32768, .inl (bA t)))] H := hP
        have hD : va_D A [(qi, .inr (2, [.ref ri, .int (nI k)])), (ri, .inl (g.2.2.1, 32768, .inl f)), (o, .inr (4, [.ref q, .int (nI w)])), (q, .inr (1, [.ref r, .int (nI n)])), (r, .inl (g.2.1, 32768, .inl (bA t)))] := hD
        refine pc_zle (tgt := 43) hx hb d_Reader_takeAllCharacters_17 (by decide) (by omega) (fun h_7 => ?_) (fun h_7 => ?_)
        · skip
          refine lv_aload_n hx hb d_Reader_takeAllCharacters_43 rfl (lv_at hl 0 rfl) ?_
          refine pc_i (wc := [(o, .inr (4, [.ref q, .int (nI w)])), (q, .inr (1, [.ref r, .int (nI n)])), (r, .inl (g.2.1, 32768, .inl (bA t)))]) (wr := [(qi, .inr (2, [.ref ri, .int (nI k)])), (ri, .inl (g.2.2.1, 32768, .inl f))]) (cells' := 0) (slots' := 0) hP hD hS hA [2, 3, 4] [0, 1] rfl rfl (by decide) (by decide) rfl rfl (va_runV (n := 0) (As := []) (rest := []) (C := R_Reader) ⟨hx, hb, hml, hown, hE.hts⟩ (c_Reader_left l g o w q r n t (by omega) (by omega) _) ⟨pc_cb hE m_313 m_15 m_310 (by decide +kernel) ⟨by exact Nat.le_of_ble_eq_true rfl, by exact Nat.le_of_ble_eq_true rfl⟩, hE.w m_312, hE.w ms_14⟩ (pc_preV (ci := 4) (q0 := 2) hP hD hE hS hA [2, 3, 4] (by decide) rfl [] rfl rfl) rfl rfl hl.1 rfl (lv_room (by exact Nat.le_of_ble_eq_true rfl)) d_Reader_takeAllCharacters_44 ⟨by exact Nat.le_of_ble_eq_true rfl, by exact Nat.le_of_ble_eq_true rfl⟩) (fun r_9 u_8 H locs hw hP hD hS => ?_)
          obtain rfl := hw
          have hP : va_P g.1 pc_cl [(qi, .inr (2, [.ref ri, .int (nI k)])), (ri, .inl (g.2.2.1, 32768, .inl f)), (o, .inr (4, [.ref q, .int (nI w)])), (q, .inr (1, [.ref r, .int (nI n)])), (r, .inl (g.2.1, 32768, .inl (bA t)))] H := hP
          have hD : va_D A [(qi, .inr (2, [.ref ri, .int (nI k)])), (ri, .inl (g.2.2.1, 32768, .inl f)), (o, .inr (4, [.ref q, .int (nI w)])), (q, .inr (1, [.ref r, .int (nI n)])), (r, .inl (g.2.1, 32768, .inl (bA t)))] := hD
          refine pc_zne (tgt := 54) hx hb d_Reader_takeAllCharacters_47 (by decide) (by omega) (fun h_10 => ?_) (fun h_10 => ?_)
          · skip
            exact absurd h_10 (by omega)
          · skip
            refine lv_iconst (v := nI 1) hx hb d_Reader_takeAllCharacters_50 (by decide) ?_
            refine lv_goto (tgt := 55) hx hb d_Reader_takeAllCharacters_51 (by decide) ?_
            exact hQ _ _ 55 _ (nI 1) (w, k, f) d_Reader_takeAllCharacters_55 rfl (Or.inl ⟨rfl, ns, by rw [← hf]; exact chsA_end (by omega) (by rw [bl_len]; omega), hns, show k ≤ 32768 by omega, hold⟩) (hP.sub [2, 3, 4, 0, 1] rfl) (hD.sub [2, 3, 4, 0, 1] (by decide) rfl) hS
        · skip
          refine lv_aload_n hx hb d_Reader_takeAllCharacters_20 rfl (lv_at hl 0 rfl) ?_
          refine pc_i (wc := [(o, .inr (4, [.ref q, .int (nI w)])), (q, .inr (1, [.ref r, .int (nI n)])), (r, .inl (g.2.1, 32768, .inl (bA t)))]) (wr := [(qi, .inr (2, [.ref ri, .int (nI k)])), (ri, .inl (g.2.2.1, 32768, .inl f))]) (cells' := 0) (slots' := 0) hP hD hS hA [2, 3, 4] [0, 1] rfl rfl (by decide) (by decide) rfl rfl (va_runV (n := 0) (As := []) (rest := []) (C := R_Reader) ⟨hx, hb, hml, hown, hE.hts⟩ (c_Reader_takeCharacter l g o w q r n t (by omega) (by omega) _) ⟨pc_cb hE m_351 m_15 m_348 (by decide +kernel) ⟨by exact Nat.le_of_ble_eq_true rfl, by exact Nat.le_of_ble_eq_true rfl⟩, hE.w m_350, hE.w ms_18⟩ (pc_preV (ci := 4) (q0 := 2) hP hD hE hS hA [2, 3, 4] (by decide) rfl [] rfl rfl) rfl rfl hl.1 rfl (lv_room (by exact Nat.le_of_ble_eq_true rfl)) d_Reader_takeAllCharacters_21 ⟨by exact Nat.le_of_ble_eq_true rfl, by exact Nat.le_of_ble_eq_true rfl⟩) (fun r_12 u_11 H locs hw hP hD hS => ?_)
          obtain ⟨p2_13, rfl⟩ : ∃ z, z = u_11 := ⟨_, rfl⟩
          have hw_14 := hw
          have hw_14 : rdRes (chV (bl t n) w) r_12 p2_13 n := hw_14
          have hP : va_P g.1 pc_cl [(qi, .inr (2, [.ref ri, .int (nI k)])), (ri, .inl (g.2.2.1, 32768, .inl f)), (o, .inr (4, [.ref q, .int (nI p2_13)])), (q, .inr (1, [.ref r, .int (nI n)])), (r, .inl (g.2.1, 32768, .inl (bA t)))] H := hP
          have hD : va_D A [(qi, .inr (2, [.ref ri, .int (nI k)])), (ri, .inl (g.2.2.1, 32768, .inl f)), (o, .inr (4, [.ref q, .int (nI p2_13)])), (q, .inr (1, [.ref r, .int (nI n)])), (r, .inl (g.2.1, 32768, .inl (bA t)))] := hD
          rcases hw_14 with ⟨hno, rfl, hp2⟩ | ⟨v, hyes, rfl, hv31, hp2⟩
          · skip
            refine lv_istore_n (lv' := [(3, .int (-1)), (0, .ref o), (1, .ref qi), (2, .int (nI k))]) hx hb d_Reader_takeAllCharacters_24 rfl hl (by decide) rfl (fun ls hl => ?_)
            refine lv_iload_n hx hb d_Reader_takeAllCharacters_25 rfl (lv_at hl 0 rfl) ?_
            refine lv_iconst (v := (-1)) hx hb d_Reader_takeAllCharacters_26 (by decide) ?_
            refine lv_icmp_ne (tgt := 32) hx hb d_Reader_takeAllCharacters_27 (by decide) (fun h_d => absurd h_d (fun k9 => k9 rfl)) (fun h_d => ?_)
            refine lv_iconst (v := nI 0) hx hb d_Reader_takeAllCharacters_30 (by decide) ?_
            exact hQ _ _ 31 _ (nI 0) (p2_13, k, f) d_Reader_takeAllCharacters_31 rfl (Or.inr ⟨rfl, by rw [← hf]; exact chsA_bad (by rw [bl_len]; omega) hno⟩) (hP.sub [2, 3, 4, 0, 1] rfl) (hD.sub [2, 3, 4, 0, 1] (by decide) rfl) hS
          · skip
            have hin := chV_in hyes
            refine lv_istore_n (lv' := [(3, .int (nI v)), (0, .ref o), (1, .ref qi), (2, .int (nI k))]) hx hb d_Reader_takeAllCharacters_24 rfl hl (by decide) rfl (fun ls hl => ?_)
            refine lv_iload_n hx hb d_Reader_takeAllCharacters_25 rfl (lv_at hl 0 rfl) ?_
            refine lv_iconst (v := (-1)) hx hb d_Reader_takeAllCharacters_26 (by decide) ?_
            refine lv_icmp_ne (tgt := 32) hx hb d_Reader_takeAllCharacters_27 (by decide) (fun h_d => ?_) (fun h_d => absurd h_d (pc_nm1 (by omega)))
            obtain ⟨fu9, rfl⟩ : ∃ z, fu = z + 1 := ⟨fu - 1, by omega⟩
            refine lv_aload_n hx hb d_Reader_takeAllCharacters_32 rfl (lv_at hl 2 rfl) ?_
            refine lv_iload_n hx hb d_Reader_takeAllCharacters_33 rfl (lv_at hl 0 rfl) ?_
            refine pc_v (wc := [(qi, .inr (2, [.ref ri, .int (nI k)])), (ri, .inl (g.2.2.1, 32768, .inl f))]) (wr := [(o, .inr (4, [.ref q, .int (nI p2_13)])), (q, .inr (1, [.ref r, .int (nI n)])), (r, .inl (g.2.1, 32768, .inl (bA t)))]) (cells' := 0) (slots' := 0) hP hD hS hA [0, 1] [2, 3, 4] rfl rfl (by decide) (by decide) rfl rfl (va_runVN (n := 1) (As := [.int (nI v)]) (rest := []) (C := R_Ints) ⟨hx, hb, hml, hown, hE.hts⟩ (c_Ints_add l g qi ri k f (nI v) (by omega) _) ⟨pc_cn hE m_371 m_4 m_368 (by decide +kernel) ⟨by exact Nat.le_of_ble_eq_true rfl, by exact Nat.le_of_ble_eq_true rfl⟩, hE.w m_370, hE.w ms_19⟩ (pc_preV (ci := 2) (q0 := 0) hP hD hE hS hA [0, 1] (by decide) rfl [.int (nI v)] rfl rfl) rfl rfl hl.1 rfl (lv_room (by exact Nat.le_of_ble_eq_true rfl)) d_Reader_takeAllCharacters_34 ⟨by exact Nat.le_of_ble_eq_true rfl, by exact Nat.le_of_ble_eq_true rfl⟩) (fun u_15 H locs hw hP hD hS => ?_)
            have hP : va_P g.1 pc_cl [(o, .inr (4, [.ref q, .int (nI p2_13)])), (q, .inr (1, [.ref r, .int (nI n)])), (r, .inl (g.2.1, 32768, .inl (bA t))), (qi, .inr (2, [.ref ri, .int (nI (k + 1))])), (ri, .inl (g.2.2.1, 32768, .inl (upd f k (nI v))))] H := hP
            have hD : va_D A [(o, .inr (4, [.ref q, .int (nI p2_13)])), (q, .inr (1, [.ref r, .int (nI n)])), (r, .inl (g.2.1, 32768, .inl (bA t))), (qi, .inr (2, [.ref ri, .int (nI (k + 1))])), (ri, .inl (g.2.2.1, 32768, .inl (upd f k (nI v))))] := hD
            refine lv_iinc (v := nI (k + 1)) (lv' := [(2, .int (nI (k + 1))), (3, .int (nI v)), (0, .ref o), (1, .ref qi)]) hx hb d_Reader_takeAllCharacters_37 hl (k := 3) rfl (pc_inc k 1) (by decide) rfl (fun ls hl => ?_)
            refine lv_goto (tgt := 7) hx hb d_Reader_takeAllCharacters_40 (by decide) ?_
            exact ih_7 (k + 1) p2_13 (upd f k (nI v)) fu9 (ns ++ [v]) (by omega) (by omega) (by omega) (by simp [hns]) (by rw [← chsA_more (by rw [bl_len]; omega) hyes]; exact hf) (upd_put hns hold) (by omega) _ _ (hP.sub [0, 1, 2, 3, 4] rfl) (hD.sub [0, 1, 2, 3, 4] (by decide) rfl) hS _ (lv_sub hl [2, 3, 0] rfl)
  exact lp_7 (n - p0 + 1) 0 p0 fi (n + 1) ([]) (by omega) (by omega) (by omega) rfl rfl (fun j hj => absurd hj (Nat.not_lt_zero j)) (Nat.lt_succ_self _) _ _ (hP.sub [0, 1, 2, 3, 4] rfl) (hD.sub [0, 1, 2, 3, 4] (by decide) rfl) hS _ (lv_sub hl [1, 2, 0] rfl)
