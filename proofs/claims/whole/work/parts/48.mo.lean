theorem ta_3 : tx_all R_Mo 39 "java/lang/IllegalArgumentException" tx_up = true := by decide +kernel
theorem ta_4 : tx_all R_Mo 100 "java/util/NoSuchElementException" tx_up = true := by decide +kernel
theorem ta_5 : tx_all R_Mo 36 "java/lang/IllegalStateException" tx_up = true := by decide +kernel
abbrev rm_Mo_init : Room := { frames := 1, cells := 6, slots := 196608, locals := 12 }
set_option maxHeartbeats 1000000 in
set_option maxRecDepth 100000 in
/-- a new reference -/
theorem c_Mo_init (l : Launch) (g : pc_G) (y : Nat) : pc_Cv (S := Nat × Nat × Nat × Nat × Nat × Nat) l y_Mo_init prog_11_method_1_code 1 rm_Mo_init g [(y, .inr (5, [.null, .null, .null, .int 0, .int 0, .int 0, .null, .null, .null, .int 0, .int 0, .int 0, .int 0]))] [.ref y] (fun u => True) (fun u => [(y, .inr (5, [.ref u.1, .ref u.2.1, .ref u.2.2.1, .int 0, .int 0, .int 0, .ref u.2.2.2.1, .ref u.2.2.2.2.1, .ref u.2.2.2.2.2, .int 0, .int 0, .int 0, .int 0])), (u.1, .inl (g.2.1, 32768, .inl (bA (fun _ => 0)))), (u.2.1, .inl (g.2.1, 32768, .inl (bA (fun _ => 0)))), (u.2.2.1, .inl (g.2.1, 32768, .inl (bA (fun _ => 0)))), (u.2.2.2.1, .inl (g.2.2.1, 32768, .inl (fun _ => 0))), (u.2.2.2.2.1, .inl (g.2.2.1, 32768, .inl (fun _ => 0))), (u.2.2.2.2.2, .inl (g.2.2.1, 32768, .inl (fun _ => 0)))]) := by
  refine pc_Cv.of (by decide) (by exact Nat.le_of_ble_eq_true rfl) ?_
  intro p e s m below meth c A Q hx hb hml hown hE hA hnm hQ hP hD ls hl
  have hS : va_S A s.heap s.heap [] := va_S.rf
  have hl : lv_has ls 1 [(0, .ref y)] := hl
  refine lv_aload_n hx hb d_Mo_init_0 rfl (lv_at hl 0 rfl) ?_
  refine W.objInit hx hb hown (hE.w m_488) (hE.w m_26) (hE.w m_27) rfl (by rw [hml]; exact hl.1) rfl d_Mo_init_1 (by exact Nat.le_of_ble_eq_true rfl) (by exact Nat.le_of_ble_eq_true rfl) ?_
  refine W.eq (g2 := F0 m 4 ls []) rfl ?_
  refine lv_aload_n hx hb d_Mo_init_4 rfl (lv_at hl 0 rfl) ?_
  refine lv_ldc hx hb hown (hE.w m_489) d_Mo_init_5 ?_
  refine pc_ti (y := nI 32768) (by decide) ?_
  refine pc_newa (atype := .byte) (ty := .byte) (a0 := (32768, .inl (bA (fun _ => 0)))) hx hb (hE.w m_46) rfl hE.2.1 hP hD hS hA 0 rfl (fun cA => pc_z8 cA 32768) (nI_pos (by omega)) (nI_clamp (by omega)) (by show 32768 * 1 ≤ 536870912; omega) (by exact Nat.le_of_ble_eq_true rfl) (by exact Nat.le_of_ble_eq_true rfl) d_Mo_init_7 (fun q_1 H hP hD hS => ?_)
  have hP : va_P g.1 pc_cl [(y, .inr (5, [.null, .null, .null, .int 0, .int 0, .int 0, .null, .null, .null, .int 0, .int 0, .int 0, .int 0])), (q_1, .inl (g.2.1, 32768, .inl (bA (fun _ => 0))))] H := hP
  have hD : va_D A [(y, .inr (5, [.null, .null, .null, .int 0, .int 0, .int 0, .null, .null, .null, .int 0, .int 0, .int 0, .int 0])), (q_1, .inl (g.2.1, 32768, .inl (bA (fun _ => 0))))] := hD
  refine W.cs (cells' := 1) (slots' := 32768) rfl rfl ?_
  refine va_putF (ci := 5) (ty := .array .byte) (C := R_Mo) (T := F_Mo) (N := 13) hx hb hE.hts in_Mo t_Mo tk_Mo nn_Mo hown hE.2.1 hP hD hS 0 rfl rfl 0 (by decide) (hE.w m_490) (fun _ h9 => h9) rfl (hnm "<init>" rfl) rfl (by decide +kernel) (by rfl) (by rfl) (by exact Nat.le_of_ble_eq_true rfl) d_Mo_init_9 (fun H locs hP hD hS => ?_)
  have hP : va_P g.1 pc_cl [(y, .inr (5, [.ref q_1, .null, .null, .int 0, .int 0, .int 0, .null, .null, .null, .int 0, .int 0, .int 0, .int 0])), (q_1, .inl (g.2.1, 32768, .inl (bA (fun _ => 0))))] H := hP
  have hD : va_D A [(y, .inr (5, [.ref q_1, .null, .null, .int 0, .int 0, .int 0, .null, .null, .null, .int 0, .int 0, .int 0, .int 0])), (q_1, .inl (g.2.1, 32768, .inl (bA (fun _ => 0))))] := hD
  refine lv_aload_n hx hb d_Mo_init_12 rfl (lv_at hl 0 rfl) ?_
  refine lv_ldc hx hb hown (hE.w m_489) d_Mo_init_13 ?_
  refine pc_ti (y := nI 32768) (by decide) ?_
  refine pc_newa (atype := .byte) (ty := .byte) (a0 := (32768, .inl (bA (fun _ => 0)))) hx hb (hE.w m_46) rfl hE.2.1 hP hD hS hA 0 rfl (fun cA => pc_z8 cA 32768) (nI_pos (by omega)) (nI_clamp (by omega)) (by show 32768 * 1 ≤ 536870912; omega) (by exact Nat.le_of_ble_eq_true rfl) (by exact Nat.le_of_ble_eq_true rfl) d_Mo_init_15 (fun q_2 H hP hD hS => ?_)
  have hP : va_P g.1 pc_cl [(y, .inr (5, [.ref q_1, .null, .null, .int 0, .int 0, .int 0, .null, .null, .null, .int 0, .int 0, .int 0, .int 0])), (q_1, .inl (g.2.1, 32768, .inl (bA (fun _ => 0)))), (q_2, .inl (g.2.1, 32768, .inl (bA (fun _ => 0))))] H := hP
  have hD : va_D A [(y, .inr (5, [.ref q_1, .null, .null, .int 0, .int 0, .int 0, .null, .null, .null, .int 0, .int 0, .int 0, .int 0])), (q_1, .inl (g.2.1, 32768, .inl (bA (fun _ => 0)))), (q_2, .inl (g.2.1, 32768, .inl (bA (fun _ => 0))))] := hD
  refine W.cs (cells' := 2) (slots' := 65536) rfl rfl ?_
  refine va_putF (ci := 5) (ty := .array .byte) (C := R_Mo) (T := F_Mo) (N := 13) hx hb hE.hts in_Mo t_Mo tk_Mo nn_Mo hown hE.2.1 hP hD hS 0 rfl rfl 1 (by decide) (hE.w m_491) (fun _ h9 => h9) rfl (hnm "<init>" rfl) rfl (by decide +kernel) (by rfl) (by rfl) (by exact Nat.le_of_ble_eq_true rfl) d_Mo_init_17 (fun H locs hP hD hS => ?_)
  have hP : va_P g.1 pc_cl [(y, .inr (5, [.ref q_1, .ref q_2, .null, .int 0, .int 0, .int 0, .null, .null, .null, .int 0, .int 0, .int 0, .int 0])), (q_1, .inl (g.2.1, 32768, .inl (bA (fun _ => 0)))), (q_2, .inl (g.2.1, 32768, .inl (bA (fun _ => 0))))] H := hP
  have hD : va_D A [(y, .inr (5, [.ref q_1, .ref q_2, .null, .int 0, .int 0, .int 0, .null, .null, .null, .int 0, .int 0, .int 0, .int 0])), (q_1, .inl (g.2.1, 32768, .inl (bA (fun _ => 0)))), (q_2, .inl (g.2.1, 32768, .inl (bA (fun _ => 0))))] := hD
  refine lv_aload_n hx hb d_Mo_init_20 rfl (lv_at hl 0 rfl) ?_
  refine lv_ldc hx hb hown (hE.w m_489) d_Mo_init_21 ?_
  refine pc_ti (y := nI 32768) (by decide) ?_
  refine pc_newa (atype := .byte) (ty := .byte) (a0 := (32768, .inl (bA (fun _ => 0)))) hx hb (hE.w m_46) rfl hE.2.1 hP hD hS hA 0 rfl (fun cA => pc_z8 cA 32768) (nI_pos (by omega)) (nI_clamp (by omega)) (by show 32768 * 1 ≤ 536870912; omega) (by exact Nat.le_of_ble_eq_true rfl) (by exact Nat.le_of_ble_eq_true rfl) d_Mo_init_23 (fun q_3 H hP hD hS => ?_)
  have hP : va_P g.1 pc_cl [(y, .inr (5, [.ref q_1, .ref q_2, .null, .int 0, .int 0, .int 0, .null, .null, .null, .int 0, .int 0, .int 0, .int 0])), (q_1, .inl (g.2.1, 32768, .inl (bA (fun _ => 0)))), (q_2, .inl (g.2.1, 32768, .inl (bA (fun _ => 0)))), (q_3, .inl (g.2.1, 32768, .inl (bA (fun _ => 0))))] H := hP
  have hD : va_D A [(y, .inr (5, [.ref q_1, .ref q_2, .null, .int 0, .int 0, .int 0, .null, .null, .null, .int 0, .int 0, .int 0, .int 0])), (q_1, .inl (g.2.1, 32768, .inl (bA (fun _ => 0)))), (q_2, .inl (g.2.1, 32768, .inl (bA (fun _ => 0)))), (q_3, .inl (g.2.1, 32768, .inl (bA (fun _ => 0))))] := hD
  refine W.cs (cells' := 3) (slots' := 98304) rfl rfl ?_
  refine va_putF (ci := 5) (ty := .array .byte) (C := R_Mo) (T := F_Mo) (N := 13) hx hb hE.hts in_Mo t_Mo tk_Mo nn_Mo hown hE.2.1 hP hD hS 0 rfl rfl 2 (by decide) (hE.w m_492) (fun _ h9 => h9) rfl (hnm "<init>" rfl) rfl (by decide +kernel) (by rfl) (by rfl) (by exact Nat.le_of_ble_eq_true rfl) d_Mo_init_25 (fun H locs hP hD hS => ?_)
  have hP : va_P g.1 pc_cl [(y, .inr (5, [.ref q_1, .ref q_2, .ref q_3, .int 0, .int 0, .int 0, .null, .null, .null, .int 0, .int 0, .int 0, .int 0])), (q_1, .inl (g.2.1, 32768, .inl (bA (fun _ => 0)))), (q_2, .inl (g.2.1, 32768, .inl (bA (fun _ => 0)))), (q_3, .inl (g.2.1, 32768, .inl (bA (fun _ => 0))))] H := hP
  have hD : va_D A [(y, .inr (5, [.ref q_1, .ref q_2, .ref q_3, .int 0, .int 0, .int 0, .null, .null, .null, .int 0, .int 0, .int 0, .int 0])), (q_1, .inl (g.2.1, 32768, .inl (bA (fun _ => 0)))), (q_2, .inl (g.2.1, 32768, .inl (bA (fun _ => 0)))), (q_3, .inl (g.2.1, 32768, .inl (bA (fun _ => 0))))] := hD
  refine lv_aload_n hx hb d_Mo_init_28 rfl (lv_at hl 0 rfl) ?_
  refine lv_ldc hx hb hown (hE.w m_489) d_Mo_init_29 ?_
  refine pc_ti (y := nI 32768) (by decide) ?_
  refine pc_newa (atype := .int) (ty := .int) (a0 := (32768, .inl (fun _ => 0))) hx hb (hE.w m_66) rfl hE.2.1 hP hD hS hA 1 rfl (fun cA => pc_z32 cA 32768) (nI_pos (by omega)) (nI_clamp (by omega)) (by show 32768 * 4 ≤ 536870912; omega) (by exact Nat.le_of_ble_eq_true rfl) (by exact Nat.le_of_ble_eq_true rfl) d_Mo_init_31 (fun q_4 H hP hD hS => ?_)
  have hP : va_P g.1 pc_cl [(y, .inr (5, [.ref q_1, .ref q_2, .ref q_3, .int 0, .int 0, .int 0, .null, .null, .null, .int 0, .int 0, .int 0, .int 0])), (q_1, .inl (g.2.1, 32768, .inl (bA (fun _ => 0)))), (q_2, .inl (g.2.1, 32768, .inl (bA (fun _ => 0)))), (q_3, .inl (g.2.1, 32768, .inl (bA (fun _ => 0)))), (q_4, .inl (g.2.2.1, 32768, .inl (fun _ => 0)))] H := hP
  have hD : va_D A [(y, .inr (5, [.ref q_1, .ref q_2, .ref q_3, .int 0, .int 0, .int 0, .null, .null, .null, .int 0, .int 0, .int 0, .int 0])), (q_1, .inl (g.2.1, 32768, .inl (bA (fun _ => 0)))), (q_2, .inl (g.2.1, 32768, .inl (bA (fun _ => 0)))), (q_3, .inl (g.2.1, 32768, .inl (bA (fun _ => 0)))), (q_4, .inl (g.2.2.1, 32768, .inl (fun _ => 0)))] := hD
  refine W.cs (cells' := 4) (slots' := 131072) rfl rfl ?_
  refine va_putF (ci := 5) (ty := .array .int) (C := R_Mo) (T := F_Mo) (N := 13) hx hb hE.hts in_Mo t_Mo tk_Mo nn_Mo hown hE.2.1 hP hD hS 0 rfl rfl 6 (by decide) (hE.w m_496) (fun _ h9 => h9) rfl (hnm "<init>" rfl) rfl (by decide +kernel) (by rfl) (by rfl) (by exact Nat.le_of_ble_eq_true rfl) d_Mo_init_33 (fun H locs hP hD hS => ?_)
  have hP : va_P g.1 pc_cl [(y, .inr (5, [.ref q_1, .ref q_2, .ref q_3, .int 0, .int 0, .int 0, .ref q_4, .null, .null, .int 0, .int 0, .int 0, .int 0])), (q_1, .inl (g.2.1, 32768, .inl (bA (fun _ => 0)))), (q_2, .inl (g.2.1, 32768, .inl (bA (fun _ => 0)))), (q_3, .inl (g.2.1, 32768, .inl (bA (fun _ => 0)))), (q_4, .inl (g.2.2.1, 32768, .inl (fun _ => 0)))] H := hP
  have hD : va_D A [(y, .inr (5, [.ref q_1, .ref q_2, .ref q_3, .int 0, .int 0, .int 0, .ref q_4, .null, .null, .int 0, .int 0, .int 0, .int 0])), (q_1, .inl (g.2.1, 32768, .inl (bA (fun _ => 0)))), (q_2, .inl (g.2.1, 32768, .inl (bA (fun _ => 0)))), (q_3, .inl (g.2.1, 32768, .inl (bA (fun _ => 0)))), (q_4, .inl (g.2.2.1, 32768, .inl (fun _ => 0)))] := hD
  refine lv_aload_n hx hb d_Mo_init_36 rfl (lv_at hl 0 rfl) ?_
  refine lv_ldc hx hb hown (hE.w m_489) d_Mo_init_37 ?_
  refine pc_ti (y := nI 32768) (by decide) ?_
  refine pc_newa (atype := .int) (ty := .int) (a0 := (32768, .inl (fun _ => 0))) hx hb (hE.w m_66) rfl hE.2.1 hP hD hS hA 1 rfl (fun cA => pc_z32 cA 32768) (nI_pos (by omega)) (nI_clamp (by omega)) (by show 32768 * 4 ≤ 536870912; omega) (by exact Nat.le_of_ble_eq_true rfl) (by exact Nat.le_of_ble_eq_true rfl) d_Mo_init_39 (fun q_5 H hP hD hS => ?_)
  have hP : va_P g.1 pc_cl [(y, .inr (5, [.ref q_1, .ref q_2, .ref q_3, .int 0, .int 0, .int 0, .ref q_4, .null, .null, .int 0, .int 0, .int 0, .int 0])), (q_1, .inl (g.2.1, 32768, .inl (bA (fun _ => 0)))), (q_2, .inl (g.2.1, 32768, .inl (bA (fun _ => 0)))), (q_3, .inl (g.2.1, 32768, .inl (bA (fun _ => 0)))), (q_4, .inl (g.2.2.1, 32768, .inl (fun _ => 0))), (q_5, .inl (g.2.2.1, 32768, .inl (fun _ => 0)))] H := hP
  have hD : va_D A [(y, .inr (5, [.ref q_1, .ref q_2, .ref q_3, .int 0, .int 0, .int 0, .ref q_4, .null, .null, .int 0, .int 0, .int 0, .int 0])), (q_1, .inl (g.2.1, 32768, .inl (bA (fun _ => 0)))), (q_2, .inl (g.2.1, 32768, .inl (bA (fun _ => 0)))), (q_3, .inl (g.2.1, 32768, .inl (bA (fun _ => 0)))), (q_4, .inl (g.2.2.1, 32768, .inl (fun _ => 0))), (q_5, .inl (g.2.2.1, 32768, .inl (fun _ => 0)))] := hD
  refine W.cs (cells' := 5) (slots' := 163840) rfl rfl ?_
  refine va_putF (ci := 5) (ty := .array .int) (C := R_Mo) (T := F_Mo) (N := 13) hx hb hE.hts in_Mo t_Mo tk_Mo nn_Mo hown hE.2.1 hP hD hS 0 rfl rfl 7 (by decide) (hE.w m_497) (fun _ h9 => h9) rfl (hnm "<init>" rfl) rfl (by decide +kernel) (by rfl) (by rfl) (by exact Nat.le_of_ble_eq_true rfl) d_Mo_init_41 (fun H locs hP hD hS => ?_)
  have hP : va_P g.1 pc_cl [(y, .inr (5, [.ref q_1, .ref q_2, .ref q_3, .int 0, .int 0, .int 0, .ref q_4, .ref q_5, .null, .int 0, .int 0, .int 0, .int 0])), (q_1, .inl (g.2.1, 32768, .inl (bA (fun _ => 0)))), (q_2, .inl (g.2.1, 32768, .inl (bA (fun _ => 0)))), (q_3, .inl (g.2.1, 32768, .inl (bA (fun _ => 0)))), (q_4, .inl (g.2.2.1, 32768, .inl (fun _ => 0))), (q_5, .inl (g.2.2.1, 32768, .inl (fun _ => 0)))] H := hP
  have hD : va_D A [(y, .inr (5, [.ref q_1, .ref q_2, .ref q_3, .int 0, .int 0, .int 0, .ref q_4, .ref q_5, .null, .int 0, .int 0, .int 0, .int 0])), (q_1, .inl (g.2.1, 32768, .inl (bA (fun _ => 0)))), (q_2, .inl (g.2.1, 32768, .inl (bA (fun _ => 0)))), (q_3, .inl (g.2.1, 32768, .inl (bA (fun _ => 0)))), (q_4, .inl (g.2.2.1, 32768, .inl (fun _ => 0))), (q_5, .inl (g.2.2.1, 32768, .inl (fun _ => 0)))] := hD
  refine lv_aload_n hx hb d_Mo_init_44 rfl (lv_at hl 0 rfl) ?_
  refine lv_ldc hx hb hown (hE.w m_489) d_Mo_init_45 ?_
  refine pc_ti (y := nI 32768) (by decide) ?_
  refine pc_newa (atype := .int) (ty := .int) (a0 := (32768, .inl (fun _ => 0))) hx hb (hE.w m_66) rfl hE.2.1 hP hD hS hA 1 rfl (fun cA => pc_z32 cA 32768) (nI_pos (by omega)) (nI_clamp (by omega)) (by show 32768 * 4 ≤ 536870912; omega) (by exact Nat.le_of_ble_eq_true rfl) (by exact Nat.le_of_ble_eq_true rfl) d_Mo_init_47 (fun q_6 H hP hD hS => ?_)
  have hP : va_P g.1 pc_cl [(y, .inr (5, [.ref q_1, .ref q_2, .ref q_3, .int 0, .int 0, .int 0, .ref q_4, .ref q_5, .null, .int 0, .int 0, .int 0, .int 0])), (q_1, .inl (g.2.1, 32768, .inl (bA (fun _ => 0)))), (q_2, .inl (g.2.1, 32768, .inl (bA (fun _ => 0)))), (q_3, .inl (g.2.1, 32768, .inl (bA (fun _ => 0)))), (q_4, .inl (g.2.2.1, 32768, .inl (fun _ => 0))), (q_5, .inl (g.2.2.1, 32768, .inl (fun _ => 0))), (q_6, .inl (g.2.2.1, 32768, .inl (fun _ => 0)))] H := hP
  have hD : va_D A [(y, .inr (5, [.ref q_1, .ref q_2, .ref q_3, .int 0, .int 0, .int 0, .ref q_4, .ref q_5, .null, .int 0, .int 0, .int 0, .int 0])), (q_1, .inl (g.2.1, 32768, .inl (bA (fun _ => 0)))), (q_2, .inl (g.2.1, 32768, .inl (bA (fun _ => 0)))), (q_3, .inl (g.2.1, 32768, .inl (bA (fun _ => 0)))), (q_4, .inl (g.2.2.1, 32768, .inl (fun _ => 0))), (q_5, .inl (g.2.2.1, 32768, .inl (fun _ => 0))), (q_6, .inl (g.2.2.1, 32768, .inl (fun _ => 0)))] := hD
  refine W.cs (cells' := 6) (slots' := 196608) rfl rfl ?_
  refine va_putF (ci := 5) (ty := .array .int) (C := R_Mo) (T := F_Mo) (N := 13) hx hb hE.hts in_Mo t_Mo tk_Mo nn_Mo hown hE.2.1 hP hD hS 0 rfl rfl 8 (by decide) (hE.w m_498) (fun _ h9 => h9) rfl (hnm "<init>" rfl) rfl (by decide +kernel) (by rfl) (by rfl) (by exact Nat.le_of_ble_eq_true rfl) d_Mo_init_49 (fun H locs hP hD hS => ?_)
  have hP : va_P g.1 pc_cl [(y, .inr (5, [.ref q_1, .ref q_2, .ref q_3, .int 0, .int 0, .int 0, .ref q_4, .ref q_5, .ref q_6, .int 0, .int 0, .int 0, .int 0])), (q_1, .inl (g.2.1, 32768, .inl (bA (fun _ => 0)))), (q_2, .inl (g.2.1, 32768, .inl (bA (fun _ => 0)))), (q_3, .inl (g.2.1, 32768, .inl (bA (fun _ => 0)))), (q_4, .inl (g.2.2.1, 32768, .inl (fun _ => 0))), (q_5, .inl (g.2.2.1, 32768, .inl (fun _ => 0))), (q_6, .inl (g.2.2.1, 32768, .inl (fun _ => 0)))] H := hP
  have hD : va_D A [(y, .inr (5, [.ref q_1, .ref q_2, .ref q_3, .int 0, .int 0, .int 0, .ref q_4, .ref q_5, .ref q_6, .int 0, .int 0, .int 0, .int 0])), (q_1, .inl (g.2.1, 32768, .inl (bA (fun _ => 0)))), (q_2, .inl (g.2.1, 32768, .inl (bA (fun _ => 0)))), (q_3, .inl (g.2.1, 32768, .inl (bA (fun _ => 0)))), (q_4, .inl (g.2.2.1, 32768, .inl (fun _ => 0))), (q_5, .inl (g.2.2.1, 32768, .inl (fun _ => 0))), (q_6, .inl (g.2.2.1, 32768, .inl (fun _ => 0)))] := hD
  exact hQ _ _ 52 _ (q_1, q_2, q_3, q_4, q_5, q_6) d_Mo_init_52 trivial (hP.sub [0, 1, 2, 3, 4, 5, 6] rfl) (hD.sub [0, 1, 2, 3, 4, 5, 6] (by decide) rfl) hS
abbrev rm_Mo_end0 : Room := { frames := 6, cells := 1, slots := 6, locals := 81 }
set_option maxHeartbeats 1000000 in
set_option maxRecDepth 100000 in
/-- end -/
theorem c_Mo_end0 (l : Launch) (htr : l.stackTraces = false) (g : pc_G) (y : Nat) (ta : Nat) (oa : Nat) (ma : Nat) (ca : Nat) (na : Nat) (la : Nat) (vo : Int32) (vm : Int32) (vc : Int32) (vk : Int32) (va : Int32) (vt : Int32) (n : Nat) (k : Int32) (hn : n ≤ 32768) : pc_X (S := Nat) l y_Mo_end0 (.code y_Mo_end0 prog_11_method_3_code 3 (some .int)) (some .int) rm_Mo_end0 g [(y, .inr (5, [.ref ta, .ref oa, .ref ma, .int (nI n), .int vo, .int vm, .ref ca, .ref na, .ref la, .int vc, .int vk, .int va, .int vt]))] [.ref y, .int k] (fun rv u => (rv = .inl (nI (n - iN k)) ∧ ¬ k < 0 ∧ iN k ≤ n ∧ u = iN k) ∨ (rv = .inr "java/lang/IllegalArgumentException" ∧ (k < 0 ∨ n < iN k) ∧ u = n)) (fun u => [(y, .inr (5, [.ref ta, .ref oa, .ref ma, .int (nI u), .int vo, .int vm, .ref ca, .ref na, .ref la, .int vc, .int vk, .int va, .int vt]))]) := by
  refine pc_X.of (cc := prog_11_method_3_code) (nL := 3) (rt := (some .int)) (hh := []) (by decide) tx_wd.plain (by exact Nat.le_of_ble_eq_true rfl) htr ?_
  intro p e s m below meth c A Q hx hb hml hown hE hA htab hR hT hO hP hD ls hl
  have hS : va_S A s.heap s.heap [] := va_S.rf
  have hl : lv_has ls 3 [(0, .ref y), (1, .int k)] := hl
  refine lv_iload_n hx hb d_Mo_end0_0 rfl (lv_at hl 1 rfl) ?_
  refine lv_if_lt (tgt := 12) hx hb d_Mo_end0_1 (by decide) (fun h_1 => ?_) (fun h_1 => ?_)
  · skip
    exact hT "java/lang/IllegalArgumentException" 37 39 _ _ 0 0 12 _ n (by decide) m_548 m_10 ta_3 (hl.1.trans hml.symm) d_Mo_end0_12 d_Mo_end0_15 d_Mo_end0_16 d_Mo_end0_19 (by decide) ⟨by exact Nat.le_of_ble_eq_true rfl, by exact Nat.le_of_ble_eq_true rfl, by exact Nat.le_of_ble_eq_true rfl, by exact Nat.le_of_ble_eq_true rfl⟩ (Or.inr (⟨rfl, by first | exact Or.inl (by assumption) | exact Or.inr (by omega), rfl⟩)) (hP.sub [0] rfl) (hD.sub [0] (by decide) rfl) hS
  · skip
    have hk31 := iN_lt h_1
    have hl : lv_has ls 3 [(0, .ref y), (1, .int (nI (iN k)))] := by rw [← show k = nI (iN k) from (nI_iN k).symm]; exact hl
    refine lv_iload_n hx hb d_Mo_end0_4 rfl (lv_at hl 1 rfl) ?_
    refine lv_aload_n hx hb d_Mo_end0_5 rfl (lv_at hl 0 rfl) ?_
    refine va_get (ci := 5) (C := R_Mo) (T := F_Mo) (N := 13) hx hb hE.hts in_Mo hown hE.2.1 hP 0 rfl rfl 3 (by decide) (hE.w m_493) (fun _ h9 => h9) rfl d_Mo_end0_6 ?_
    refine pc_jle (tgt := 20) hx hb d_Mo_end0_9 (by decide) (by omega) (by omega) (fun h_2 => ?_) (fun h_2 => ?_)
    · skip
      refine lv_aload_n hx hb d_Mo_end0_20 rfl (lv_at hl 0 rfl) ?_
      refine va_get (ci := 5) (C := R_Mo) (T := F_Mo) (N := 13) hx hb hE.hts in_Mo hown hE.2.1 hP 0 rfl rfl 3 (by decide) (hE.w m_493) (fun _ h9 => h9) rfl d_Mo_end0_21 ?_
      refine lv_iload_n hx hb d_Mo_end0_24 rfl (lv_at hl 1 rfl) ?_
      refine lv_isub hx hb d_Mo_end0_25 ?_
      refine pc_ti (y := nI (n - (iN k))) (pk_sub (by omega)) ?_
      refine lv_istore_n (lv' := [(2, .int (nI (n - (iN k)))), (0, .ref y), (1, .int (nI (iN k)))]) hx hb d_Mo_end0_26 rfl hl (by decide) rfl (fun ls hl => ?_)
      refine lv_aload_n hx hb d_Mo_end0_27 rfl (lv_at hl 1 rfl) ?_
      refine lv_iload_n hx hb d_Mo_end0_28 rfl (lv_at hl 2 rfl) ?_
      refine va_put (ci := 5) (ty := .int) (C := R_Mo) (T := F_Mo) (N := 13) hx hb hE.hts in_Mo t_Mo tk_Mo nn_Mo hown hE.2.1 hP hD hS 0 rfl rfl 3 (by decide) (hE.w m_493) (fun _ h9 => h9) rfl (by decide +kernel) (by rfl) (by rfl) (by exact Nat.le_of_ble_eq_true rfl) d_Mo_end0_29 (fun H locs hP hD hS => ?_)
      have hP : va_P g.1 pc_cl [(y, .inr (5, [.ref ta, .ref oa, .ref ma, .int (nI (iN k)), .int vo, .int vm, .ref ca, .ref na, .ref la, .int vc, .int vk, .int va, .int vt]))] H := hP
      have hD : va_D A [(y, .inr (5, [.ref ta, .ref oa, .ref ma, .int (nI (iN k)), .int vo, .int vm, .ref ca, .ref na, .ref la, .int vc, .int vk, .int va, .int vt]))] := hD
      refine lv_iload_n hx hb d_Mo_end0_32 rfl (lv_at hl 0 rfl) ?_
      refine W.widen (k := rm_Mo_end0.cells) (n := rm_Mo_end0.slots) (by exact Nat.le_of_ble_eq_true rfl) (by exact Nat.le_of_ble_eq_true rfl) ?_
      exact hR _ _ 33 _ (nI (n - (iN k))) (iN k) d_Mo_end0_33 rfl (Or.inl (⟨rfl, iN_pos hk31, by omega, rfl⟩)) (hP.sub [0] rfl) (hD.sub [0] (by decide) rfl) hS
    · skip
      exact hT "java/lang/IllegalArgumentException" 37 39 _ _ 0 0 12 _ n (by decide) m_548 m_10 ta_3 (hl.1.trans hml.symm) d_Mo_end0_12 d_Mo_end0_15 d_Mo_end0_16 d_Mo_end0_19 (by decide) ⟨by exact Nat.le_of_ble_eq_true rfl, by exact Nat.le_of_ble_eq_true rfl, by exact Nat.le_of_ble_eq_true rfl, by exact Nat.le_of_ble_eq_true rfl⟩ (Or.inr (⟨rfl, by first | exact Or.inl (by assumption) | exact Or.inr (by omega), rfl⟩)) (hP.sub [0] rfl) (hD.sub [0] (by decide) rfl) hS
abbrev rm_Mo_code0 : Room := { frames := 6, cells := 1, slots := 6, locals := 81 }
set_option maxHeartbeats 1000000 in
set_option maxRecDepth 100000 in
/-- code0 -/
theorem c_Mo_code0 (l : Launch) (htr : l.stackTraces = false) (g : pc_G) (y : Nat) (ta : Nat) (oa : Nat) (ma : Nat) (ca : Nat) (na : Nat) (la : Nat) (vn : Int32) (vo : Int32) (vm : Int32) (vk : Int32) (va : Int32) (vt : Int32) (n : Nat) (f : Nat → Int32) (k : Int32) (hn : n ≤ 32768) : pc_X (S := Unit) l y_Mo_code0 (.code y_Mo_code0 prog_11_method_17_code 2 (some .int)) (some .int) rm_Mo_code0 g [(y, .inr (5, [.ref ta, .ref oa, .ref ma, .int vn, .int vo, .int vm, .ref ca, .ref na, .ref la, .int (nI n), .int vk, .int va, .int vt])), (ca, .inl (g.2.2.1, 32768, .inl f))] [.ref y, .int k] (fun rv _ => (rv = .inl (f (iN k)) ∧ ¬ k < 0 ∧ iN k < n) ∨ (rv = .inr "java/util/NoSuchElementException" ∧ (k < 0 ∨ n ≤ iN k))) (fun _ => [(y, .inr (5, [.ref ta, .ref oa, .ref ma, .int vn, .int vo, .int vm, .ref ca, .ref na, .ref la, .int (nI n), .int vk, .int va, .int vt])), (ca, .inl (g.2.2.1, 32768, .inl f))]) := by
  refine pc_X.of (cc := prog_11_method_17_code) (nL := 2) (rt := (some .int)) (hh := []) (by decide) tx_wd.plain (by exact Nat.le_of_ble_eq_true rfl) htr ?_
  intro p e s m below meth c A Q hx hb hml hown hE hA htab hR hT hO hP hD ls hl
  have hS : va_S A s.heap s.heap [] := va_S.rf
  have hl : lv_has ls 2 [(0, .ref y), (1, .int k)] := hl
  refine lv_iload_n hx hb d_Mo_code0_0 rfl (lv_at hl 1 rfl) ?_
  refine lv_if_lt (tgt := 12) hx hb d_Mo_code0_1 (by decide) (fun h_1 => ?_) (fun h_1 => ?_)
  · skip
    exact hT "java/util/NoSuchElementException" 98 100 _ _ 0 0 12 _ () (by decide) m_626 m_18 ta_4 (hl.1.trans hml.symm) d_Mo_code0_12 d_Mo_code0_15 d_Mo_code0_16 d_Mo_code0_19 (by decide) ⟨by exact Nat.le_of_ble_eq_true rfl, by exact Nat.le_of_ble_eq_true rfl, by exact Nat.le_of_ble_eq_true rfl, by exact Nat.le_of_ble_eq_true rfl⟩ (Or.inr (⟨rfl, by first | exact Or.inl (by assumption) | exact Or.inr (by omega)⟩)) (hP.sub [0, 1] rfl) (hD.sub [0, 1] (by decide) rfl) hS
  · skip
    have hk31 := iN_lt h_1
    have hl : lv_has ls 2 [(0, .ref y), (1, .int (nI (iN k)))] := by rw [← show k = nI (iN k) from (nI_iN k).symm]; exact hl
    refine lv_iload_n hx hb d_Mo_code0_4 rfl (lv_at hl 1 rfl) ?_
    refine lv_aload_n hx hb d_Mo_code0_5 rfl (lv_at hl 0 rfl) ?_
    refine va_get (ci := 5) (C := R_Mo) (T := F_Mo) (N := 13) hx hb hE.hts in_Mo hown hE.2.1 hP 0 rfl rfl 9 (by decide) (hE.w m_499) (fun _ h9 => h9) rfl d_Mo_code0_6 ?_
    refine pc_jlt (tgt := 20) hx hb d_Mo_code0_9 (by decide) (by omega) (by omega) (fun h_2 => ?_) (fun h_2 => ?_)
    · skip
      refine lv_aload_n hx hb d_Mo_code0_20 rfl (lv_at hl 0 rfl) ?_
      refine va_get (ci := 5) (C := R_Mo) (T := F_Mo) (N := 13) hx hb hE.hts in_Mo hown hE.2.1 hP 0 rfl rfl 6 (by decide) (hE.w m_496) (fun _ h9 => h9) rfl d_Mo_code0_21 ?_
      refine lv_iload_n hx hb d_Mo_code0_24 rfl (lv_at hl 1 rfl) ?_
      refine pc_iald hx hb hE.2.1 hP 1 1 rfl rfl (by omega) (by omega) d_Mo_code0_25 ?_
      refine W.widen (k := rm_Mo_code0.cells) (n := rm_Mo_code0.slots) (by exact Nat.le_of_ble_eq_true rfl) (by exact Nat.le_of_ble_eq_true rfl) ?_
      exact hR _ _ 26 _ (f (iN k)) () d_Mo_code0_26 rfl (Or.inl (⟨rfl, iN_pos hk31, by omega⟩)) (hP.sub [0, 1] rfl) (hD.sub [0, 1] (by decide) rfl) hS
    · skip
      exact hT "java/util/NoSuchElementException" 98 100 _ _ 0 0 12 _ () (by decide) m_626 m_18 ta_4 (hl.1.trans hml.symm) d_Mo_code0_12 d_Mo_code0_15 d_Mo_code0_16 d_Mo_code0_19 (by decide) ⟨by exact Nat.le_of_ble_eq_true rfl, by exact Nat.le_of_ble_eq_true rfl, by exact Nat.le_of_ble_eq_true rfl, by exact Nat.le_of_ble_eq_true rfl⟩ (Or.inr (⟨rfl, by first | exact Or.inl (by assumption) | exact Or.inr (by omega)⟩)) (hP.sub [0, 1] rfl) (hD.sub [0, 1] (by decide) rfl) hS
abbrev rm_Mo_number0 : Room := { frames := 6, cells := 1, slots := 6, locals := 81 }
set_option maxHeartbeats 1000000 in
set_option maxRecDepth 100000 in
/-- number0 -/
theorem c_Mo_number0 (l : Launch) (htr : l.stackTraces = false) (g : pc_G) (y : Nat) (ta : Nat) (oa : Nat) (ma : Nat) (ca : Nat) (na : Nat) (la : Nat) (vn : Int32) (vo : Int32) (vm : Int32) (vc : Int32) (va : Int32) (vt : Int32) (n : Nat) (f : Nat → Int32) (k : Int32) (hn : n ≤ 32768) : pc_X (S := Unit) l y_Mo_number0 (.code y_Mo_number0 prog_11_method_24_code 2 (some .int)) (some .int) rm_Mo_number0 g [(y, .inr (5, [.ref ta, .ref oa, .ref ma, .int vn, .int vo, .int vm, .ref ca, .ref na, .ref la, .int vc, .int (nI n), .int va, .int vt])), (na, .inl (g.2.2.1, 32768, .inl f))] [.ref y, .int k] (fun rv _ => (rv = .inl (f (iN k)) ∧ ¬ k < 0 ∧ iN k < n) ∨ (rv = .inr "java/util/NoSuchElementException" ∧ (k < 0 ∨ n ≤ iN k))) (fun _ => [(y, .inr (5, [.ref ta, .ref oa, .ref ma, .int vn, .int vo, .int vm, .ref ca, .ref na, .ref la, .int vc, .int (nI n), .int va, .int vt])), (na, .inl (g.2.2.1, 32768, .inl f))]) := by
  refine pc_X.of (cc := prog_11_method_24_code) (nL := 2) (rt := (some .int)) (hh := []) (by decide) tx_wd.plain (by exact Nat.le_of_ble_eq_true rfl) htr ?_
  intro p e s m below meth c A Q hx hb hml hown hE hA htab hR hT hO hP hD ls hl
  have hS : va_S A s.heap s.heap [] := va_S.rf
  have hl : lv_has ls 2 [(0, .ref y), (1, .int k)] := hl
  refine lv_iload_n hx hb d_Mo_number0_0 rfl (lv_at hl 1 rfl) ?_
  refine lv_if_lt (tgt := 12) hx hb d_Mo_number0_1 (by decide) (fun h_1 => ?_) (fun h_1 => ?_)
  · skip
    exact hT "java/util/NoSuchElementException" 98 100 _ _ 0 0 12 _ () (by decide) m_626 m_18 ta_4 (hl.1.trans hml.symm) d_Mo_number0_12 d_Mo_number0_15 d_Mo_number0_16 d_Mo_number0_19 (by decide) ⟨by exact Nat.le_of_ble_eq_true rfl, by exact Nat.le_of_ble_eq_true rfl, by exact Nat.le_of_ble_eq_true rfl, by exact Nat.le_of_ble_eq_true rfl⟩ (Or.inr (⟨rfl, by first | exact Or.inl (by assumption) | exact Or.inr (by omega)⟩)) (hP.sub [0, 1] rfl) (hD.sub [0, 1] (by decide) rfl) hS
  · skip
    have hk31 := iN_lt h_1
    have hl : lv_has ls 2 [(0, .ref y), (1, .int (nI (iN k)))] := by rw [← show k = nI (iN k) from (nI_iN k).symm]; exact hl
    refine lv_iload_n hx hb d_Mo_number0_4 rfl (lv_at hl 1 rfl) ?_
    refine lv_aload_n hx hb d_Mo_number0_5 rfl (lv_at hl 0 rfl) ?_
    refine va_get (ci := 5) (C := R_Mo) (T := F_Mo) (N := 13) hx hb hE.hts in_Mo hown hE.2.1 hP 0 rfl rfl 10 (by decide) (hE.w m_500) (fun _ h9 => h9) rfl d_Mo_number0_6 ?_
    refine pc_jlt (tgt := 20) hx hb d_Mo_number0_9 (by decide) (by omega) (by omega) (fun h_2 => ?_) (fun h_2 => ?_)
    · skip
      refine lv_aload_n hx hb d_Mo_number0_20 rfl (lv_at hl 0 rfl) ?_
      refine va_get (ci := 5) (C := R_Mo) (T := F_Mo) (N := 13) hx hb hE.hts in_Mo hown hE.2.1 hP 0 rfl rfl 7 (by decide) (hE.w m_497) (fun _ h9 => h9) rfl d_Mo_number0_21 ?_
      refine lv_iload_n hx hb d_Mo_number0_24 rfl (lv_at hl 1 rfl) ?_
      refine pc_iald hx hb hE.2.1 hP 1 1 rfl rfl (by omega) (by omega) d_Mo_number0_25 ?_
      refine W.widen (k := rm_Mo_number0.cells) (n := rm_Mo_number0.slots) (by exact Nat.le_of_ble_eq_true rfl) (by exact Nat.le_of_ble_eq_true rfl) ?_
      exact hR _ _ 26 _ (f (iN k)) () d_Mo_number0_26 rfl (Or.inl (⟨rfl, iN_pos hk31, by omega⟩)) (hP.sub [0, 1] rfl) (hD.sub [0, 1] (by decide) rfl) hS
    · skip
      exact hT "java/util/NoSuchElementException" 98 100 _ _ 0 0 12 _ () (by decide) m_626 m_18 ta_4 (hl.1.trans hml.symm) d_Mo_number0_12 d_Mo_number0_15 d_Mo_number0_16 d_Mo_number0_19 (by decide) ⟨by exact Nat.le_of_ble_eq_true rfl, by exact Nat.le_of_ble_eq_true rfl, by exact Nat.le_of_ble_eq_true rfl, by exact Nat.le_of_ble_eq_true rfl⟩ (Or.inr (⟨rfl, by first | exact Or.inl (by assumption) | exact Or.inr (by omega)⟩)) (hP.sub [0, 1] rfl) (hD.sub [0, 1] (by decide) rfl) hS
abbrev rm_Mo_zigzag0 : Room := { frames := 6, cells := 1, slots := 6, locals := 81 }
set_option maxHeartbeats 1000000 in
set_option maxRecDepth 100000 in
/-- zigzag -/
theorem c_Mo_zigzag0 (l : Launch) (htr : l.stackTraces = false) (g : pc_G) (y : Nat) (ta : Nat) (oa : Nat) (ma : Nat) (ca : Nat) (na : Nat) (la : Nat) (vn : Int32) (vo : Int32) (vm : Int32) (vc : Int32) (vk : Int32) (va : Int32) (vt : Int32) (k : Int32) : pc_X (S := Unit) l y_Mo_zigzag0 (.code y_Mo_zigzag0 prog_11_method_21_code 2 (some .int)) (some .int) rm_Mo_zigzag0 g [(y, .inr (5, [.ref ta, .ref oa, .ref ma, .int vn, .int vo, .int vm, .ref ca, .ref na, .ref la, .int vc, .int vk, .int va, .int vt]))] [.ref y, .int k] (fun rv _ => (rv = .inl (nI 2 * k) ∧ ¬ k < (-1073741823) ∧ k ≤ nI 1073741823 ∧ ¬ k < 0) ∨ (rv = .inl (((-2) * k) - nI 1) ∧ ¬ k < (-1073741823) ∧ k ≤ nI 1073741823 ∧ k < 0) ∨ (rv = .inr "java/lang/IllegalArgumentException" ∧ (k < (-1073741823) ∨ ¬ k ≤ nI 1073741823))) (fun _ => [(y, .inr (5, [.ref ta, .ref oa, .ref ma, .int vn, .int vo, .int vm, .ref ca, .ref na, .ref la, .int vc, .int vk, .int va, .int vt]))]) := by
  refine pc_X.of (cc := prog_11_method_21_code) (nL := 2) (rt := (some .int)) (hh := []) (by decide) tx_wd.plain (by exact Nat.le_of_ble_eq_true rfl) htr ?_
  intro p e s m below meth c A Q hx hb hml hown hE hA htab hR hT hO hP hD ls hl
  have hS : va_S A s.heap s.heap [] := va_S.rf
  have hl : lv_has ls 2 [(0, .ref y), (1, .int k)] := hl
  refine lv_iload_n hx hb d_Mo_zigzag0_0 rfl (lv_at hl 1 rfl) ?_
  refine lv_ldc hx hb hown (hE.w m_660) d_Mo_zigzag0_1 ?_
  refine lv_icmp_lt (tgt := 12) hx hb d_Mo_zigzag0_3 (by decide) (fun h_1 => ?_) (fun h_1 => ?_)
  · skip
    exact hT "java/lang/IllegalArgumentException" 37 39 _ _ 0 0 12 _ () (by decide) m_548 m_10 ta_3 (hl.1.trans hml.symm) d_Mo_zigzag0_12 d_Mo_zigzag0_15 d_Mo_zigzag0_16 d_Mo_zigzag0_19 (by decide) ⟨by exact Nat.le_of_ble_eq_true rfl, by exact Nat.le_of_ble_eq_true rfl, by exact Nat.le_of_ble_eq_true rfl, by exact Nat.le_of_ble_eq_true rfl⟩ (Or.inr (Or.inr (⟨rfl, by first | exact Or.inl (by assumption) | exact Or.inr (by assumption)⟩))) (hP.sub [0] rfl) (hD.sub [0] (by decide) rfl) hS
  · skip
    refine lv_iload_n hx hb d_Mo_zigzag0_6 rfl (lv_at hl 1 rfl) ?_
    refine lv_ldc hx hb hown (hE.w m_661) d_Mo_zigzag0_7 ?_
    refine pc_ti (y := nI 1073741823) (by decide) ?_
    refine lv_icmp_le (tgt := 20) hx hb d_Mo_zigzag0_9 (by decide) (fun h_2 => ?_) (fun h_2 => ?_)
    · skip
      refine lv_iload_n hx hb d_Mo_zigzag0_20 rfl (lv_at hl 1 rfl) ?_
      refine lv_if_lt (tgt := 30) hx hb d_Mo_zigzag0_21 (by decide) (fun h_3 => ?_) (fun h_3 => ?_)
      · skip
        refine lv_bipush (v := (-2)) hx hb d_Mo_zigzag0_30 (by decide) ?_
        refine lv_iload_n hx hb d_Mo_zigzag0_32 rfl (lv_at hl 1 rfl) ?_
        refine lv_imul hx hb d_Mo_zigzag0_33 ?_
        refine lv_iconst (v := nI 1) hx hb d_Mo_zigzag0_34 (by decide) ?_
        refine lv_isub hx hb d_Mo_zigzag0_35 ?_
        refine W.widen (k := rm_Mo_zigzag0.cells) (n := rm_Mo_zigzag0.slots) (by exact Nat.le_of_ble_eq_true rfl) (by exact Nat.le_of_ble_eq_true rfl) ?_
        exact hR _ _ 36 _ (((-2) * k) - (nI 1)) () d_Mo_zigzag0_36 rfl (Or.inr (Or.inl (⟨rfl, by assumption, by assumption, by assumption⟩))) (hP.sub [0] rfl) (hD.sub [0] (by decide) rfl) hS
      · skip
        refine lv_iconst (v := nI 2) hx hb d_Mo_zigzag0_24 (by decide) ?_
        refine lv_iload_n hx hb d_Mo_zigzag0_25 rfl (lv_at hl 1 rfl) ?_
        refine lv_imul hx hb d_Mo_zigzag0_26 ?_
        refine lv_goto (tgt := 36) hx hb d_Mo_zigzag0_27 (by decide) ?_
        refine W.widen (k := rm_Mo_zigzag0.cells) (n := rm_Mo_zigzag0.slots) (by exact Nat.le_of_ble_eq_true rfl) (by exact Nat.le_of_ble_eq_true rfl) ?_
        exact hR _ _ 36 _ ((nI 2) * k) () d_Mo_zigzag0_36 rfl (Or.inl (⟨rfl, by assumption, by assumption, by assumption⟩)) (hP.sub [0] rfl) (hD.sub [0] (by decide) rfl) hS
    · skip
      exact hT "java/lang/IllegalArgumentException" 37 39 _ _ 0 0 12 _ () (by decide) m_548 m_10 ta_3 (hl.1.trans hml.symm) d_Mo_zigzag0_12 d_Mo_zigzag0_15 d_Mo_zigzag0_16 d_Mo_zigzag0_19 (by decide) ⟨by exact Nat.le_of_ble_eq_true rfl, by exact Nat.le_of_ble_eq_true rfl, by exact Nat.le_of_ble_eq_true rfl, by exact Nat.le_of_ble_eq_true rfl⟩ (Or.inr (Or.inr (⟨rfl, by first | exact Or.inl (by assumption) | exact Or.inr (by assumption)⟩))) (hP.sub [0] rfl) (hD.sub [0] (by decide) rfl) hS
abbrev rm_Mo_unzigzag0 : Room := { frames := 6, cells := 1, slots := 6, locals := 81 }
set_option maxHeartbeats 1000000 in
set_option maxRecDepth 100000 in
/-- unzigzag -/
theorem c_Mo_unzigzag0 (l : Launch) (htr : l.stackTraces = false) (g : pc_G) (y : Nat) (ta : Nat) (oa : Nat) (ma : Nat) (ca : Nat) (na : Nat) (la : Nat) (vn : Int32) (vo : Int32) (vm : Int32) (vc : Int32) (vk : Int32) (va : Int32) (vt : Int32) (k : Int32) : pc_X (S := Unit) l y_Mo_unzigzag0 (.code y_Mo_unzigzag0 prog_11_method_22_code 2 (some .int)) (some .int) rm_Mo_unzigzag0 g [(y, .inr (5, [.ref ta, .ref oa, .ref ma, .int vn, .int vo, .int vm, .ref ca, .ref na, .ref la, .int vc, .int vk, .int va, .int vt]))] [.ref y, .int k] (fun rv _ => (rv = .inl (nI (iN k / 2)) ∧ ¬ k < 0 ∧ iN k % 2 = 0) ∨ (rv = .inl ((-(nI (iN k / 2))) - nI 1) ∧ ¬ k < 0 ∧ iN k % 2 ≠ 0) ∨ (rv = .inr "java/lang/IllegalArgumentException" ∧ k < 0)) (fun _ => [(y, .inr (5, [.ref ta, .ref oa, .ref ma, .int vn, .int vo, .int vm, .ref ca, .ref na, .ref la, .int vc, .int vk, .int va, .int vt]))]) := by
  refine pc_X.of (cc := prog_11_method_22_code) (nL := 2) (rt := (some .int)) (hh := []) (by decide) tx_wd.plain (by exact Nat.le_of_ble_eq_true rfl) htr ?_
  intro p e s m below meth c A Q hx hb hml hown hE hA htab hR hT hO hP hD ls hl
  have hS : va_S A s.heap s.heap [] := va_S.rf
  have hl : lv_has ls 2 [(0, .ref y), (1, .int k)] := hl
  refine lv_iload_n hx hb d_Mo_unzigzag0_0 rfl (lv_at hl 1 rfl) ?_
  refine lv_if_ge (tgt := 12) hx hb d_Mo_unzigzag0_1 (by decide) (fun h_1 => ?_) (fun h_1 => ?_)
  · skip
    have hk31 := iN_lt (fun z9 => absurd h_1 (Int32.not_le.mpr z9))
    have hl : lv_has ls 2 [(0, .ref y), (1, .int (nI (iN k)))] := by rw [← show k = nI (iN k) from (nI_iN k).symm]; exact hl
    refine lv_iload_n hx hb d_Mo_unzigzag0_12 rfl (lv_at hl 1 rfl) ?_
    refine lv_iconst (v := nI 2) hx hb d_Mo_unzigzag0_13 (by decide) ?_
    refine lv_irem hx hb d_Mo_unzigzag0_14 (by decide) ?_
    refine pc_ti (y := nI ((iN k) % 2)) (pk_rem (by omega) (by omega) (by omega)) ?_
    refine pc_zne (tgt := 24) hx hb d_Mo_unzigzag0_15 (by decide) (by omega) (fun h_2 => ?_) (fun h_2 => ?_)
    · skip
      refine lv_iload_n hx hb d_Mo_unzigzag0_24 rfl (lv_at hl 1 rfl) ?_
      refine lv_iconst (v := nI 2) hx hb d_Mo_unzigzag0_25 (by decide) ?_
      refine lv_idiv hx hb d_Mo_unzigzag0_26 (by decide) ?_
      refine pc_ti (y := nI ((iN k) / 2)) (pk_div (by omega) (by omega) (by omega)) ?_
      refine lv_ineg hx hb d_Mo_unzigzag0_27 ?_
      refine lv_iconst (v := nI 1) hx hb d_Mo_unzigzag0_28 (by decide) ?_
      refine lv_isub hx hb d_Mo_unzigzag0_29 ?_
      refine W.widen (k := rm_Mo_unzigzag0.cells) (n := rm_Mo_unzigzag0.slots) (by exact Nat.le_of_ble_eq_true rfl) (by exact Nat.le_of_ble_eq_true rfl) ?_
      exact hR _ _ 30 _ ((-(nI ((iN k) / 2))) - (nI 1)) () d_Mo_unzigzag0_30 rfl (Or.inr (Or.inl (⟨rfl, iN_pos hk31, by omega⟩))) (hP.sub [0] rfl) (hD.sub [0] (by decide) rfl) hS
    · skip
      refine lv_iload_n hx hb d_Mo_unzigzag0_18 rfl (lv_at hl 1 rfl) ?_
      refine lv_iconst (v := nI 2) hx hb d_Mo_unzigzag0_19 (by decide) ?_
      refine lv_idiv hx hb d_Mo_unzigzag0_20 (by decide) ?_
      refine pc_ti (y := nI ((iN k) / 2)) (pk_div (by omega) (by omega) (by omega)) ?_
      refine lv_goto (tgt := 30) hx hb d_Mo_unzigzag0_21 (by decide) ?_
      refine W.widen (k := rm_Mo_unzigzag0.cells) (n := rm_Mo_unzigzag0.slots) (by exact Nat.le_of_ble_eq_true rfl) (by exact Nat.le_of_ble_eq_true rfl) ?_
      exact hR _ _ 30 _ (nI ((iN k) / 2)) () d_Mo_unzigzag0_30 rfl (Or.inl (⟨rfl, iN_pos hk31, by omega⟩)) (hP.sub [0] rfl) (hD.sub [0] (by decide) rfl) hS
  · skip
    exact hT "java/lang/IllegalArgumentException" 37 39 _ _ 0 0 4 _ () (by decide) m_548 m_10 ta_3 (hl.1.trans hml.symm) d_Mo_unzigzag0_4 d_Mo_unzigzag0_7 d_Mo_unzigzag0_8 d_Mo_unzigzag0_11 (by decide) ⟨by exact Nat.le_of_ble_eq_true rfl, by exact Nat.le_of_ble_eq_true rfl, by exact Nat.le_of_ble_eq_true rfl, by exact Nat.le_of_ble_eq_true rfl⟩ (Or.inr (Or.inr (⟨rfl, Int32.not_le.mp (by assumption)⟩))) (hP.sub [0] rfl) (hD.sub [0] (by decide) rfl) hS
abbrev rm_Mo_octet0 : Room := { frames := 6, cells := 1, slots := 6, locals := 81 }
set_option maxHeartbeats 1000000 in
set_option maxRecDepth 100000 in
/-- octet -/
theorem c_Mo_octet0 (l : Launch) (htr : l.stackTraces = false) (g : pc_G) (y : Nat) (ta : Nat) (oa : Nat) (ma : Nat) (ca : Nat) (na : Nat) (la : Nat) (vn : Int32) (vm : Int32) (vc : Int32) (vk : Int32) (va : Int32) (vt : Int32) (n : Nat) (t : Nat → UInt8) (k : Int32) (hn : n ≤ 32768) : pc_X (S := Unit) l y_Mo_octet0 (.code y_Mo_octet0 prog_11_method_26_code 2 (some .int)) (some .int) rm_Mo_octet0 g [(y, .inr (5, [.ref ta, .ref oa, .ref ma, .int vn, .int (nI n), .int vm, .ref ca, .ref na, .ref la, .int vc, .int vk, .int va, .int vt])), (oa, .inl (g.2.1, 32768, .inl (bA t)))] [.ref y, .int k] (fun rv _ => (rv = .inl (nI n) ∧ k = -1) ∨ (rv = .inl (nI (bN t (iN k))) ∧ ¬ k < 0 ∧ iN k < n) ∨ (rv = .inr "java/util/NoSuchElementException" ∧ (k < (-1) ∨ (¬ k < 0 ∧ n ≤ iN k)))) (fun _ => [(y, .inr (5, [.ref ta, .ref oa, .ref ma, .int vn, .int (nI n), .int vm, .ref ca, .ref na, .ref la, .int vc, .int vk, .int va, .int vt])), (oa, .inl (g.2.1, 32768, .inl (bA t)))]) := by
  refine pc_X.of (cc := prog_11_method_26_code) (nL := 2) (rt := (some .int)) (hh := []) (by decide) tx_wd.plain (by exact Nat.le_of_ble_eq_true rfl) htr ?_
  intro p e s m below meth c A Q hx hb hml hown hE hA htab hR hT hO hP hD ls hl
  have hS : va_S A s.heap s.heap [] := va_S.rf
  have hl : lv_has ls 2 [(0, .ref y), (1, .int k)] := hl
  refine lv_iload_n hx hb d_Mo_octet0_0 rfl (lv_at hl 1 rfl) ?_
  refine lv_iconst (v := (-1)) hx hb d_Mo_octet0_1 (by decide) ?_
  refine lv_icmp_lt (tgt := 13) hx hb d_Mo_octet0_2 (by decide) (fun h_1 => ?_) (fun h_1 => ?_)
  · skip
    exact hT "java/util/NoSuchElementException" 98 100 _ _ 0 0 13 _ () (by decide) m_626 m_18 ta_4 (hl.1.trans hml.symm) d_Mo_octet0_13 d_Mo_octet0_16 d_Mo_octet0_17 d_Mo_octet0_20 (by decide) ⟨by exact Nat.le_of_ble_eq_true rfl, by exact Nat.le_of_ble_eq_true rfl, by exact Nat.le_of_ble_eq_true rfl, by exact Nat.le_of_ble_eq_true rfl⟩ (Or.inr (Or.inr (⟨rfl, by first | exact Or.inl (by assumption) | exact Or.inr ⟨hkp, by omega⟩⟩))) (hP.sub [0, 1] rfl) (hD.sub [0, 1] (by decide) rfl) hS
  · skip
    rcases m1_or h_1 with hkm | hkp
    · skip
      refine lv_iload_n hx hb d_Mo_octet0_5 rfl (lv_at hl 1 rfl) ?_
      refine lv_aload_n hx hb d_Mo_octet0_6 rfl (lv_at hl 0 rfl) ?_
      refine va_get (ci := 5) (C := R_Mo) (T := F_Mo) (N := 13) hx hb hE.hts in_Mo hown hE.2.1 hP 0 rfl rfl 4 (by decide) (hE.w m_494) (fun _ h9 => h9) rfl d_Mo_octet0_7 ?_
      refine lv_icmp_lt (tgt := 21) hx hb d_Mo_octet0_10 (by decide) (fun h_d => ?_) (fun h_d => absurd h_d (fun z9 => z9 (by rw [hkm]; exact m1_ltN (by omega))))
      refine lv_iload_n hx hb d_Mo_octet0_21 rfl (lv_at hl 1 rfl) ?_
      refine lv_if_ge (tgt := 32) hx hb d_Mo_octet0_22 (by decide) (fun h_d => absurd h_d (by rw [hkm]; decide)) (fun h_d => ?_)
      refine lv_aload_n hx hb d_Mo_octet0_25 rfl (lv_at hl 0 rfl) ?_
      refine va_get (ci := 5) (C := R_Mo) (T := F_Mo) (N := 13) hx hb hE.hts in_Mo hown hE.2.1 hP 0 rfl rfl 4 (by decide) (hE.w m_494) (fun _ h9 => h9) rfl d_Mo_octet0_26 ?_
      refine lv_goto (tgt := 42) hx hb d_Mo_octet0_29 (by decide) ?_
      refine W.widen (k := rm_Mo_octet0.cells) (n := rm_Mo_octet0.slots) (by exact Nat.le_of_ble_eq_true rfl) (by exact Nat.le_of_ble_eq_true rfl) ?_
      exact hR _ _ 42 _ (nI n) () d_Mo_octet0_42 rfl (Or.inl (⟨rfl, hkm⟩)) (hP.sub [0, 1] rfl) (hD.sub [0, 1] (by decide) rfl) hS
    · skip
      have hk31 := iN_lt hkp
      have hl : lv_has ls 2 [(0, .ref y), (1, .int (nI (iN k)))] := by rw [← show k = nI (iN k) from (nI_iN k).symm]; exact hl
      refine lv_iload_n hx hb d_Mo_octet0_5 rfl (lv_at hl 1 rfl) ?_
      refine lv_aload_n hx hb d_Mo_octet0_6 rfl (lv_at hl 0 rfl) ?_
      refine va_get (ci := 5) (C := R_Mo) (T := F_Mo) (N := 13) hx hb hE.hts in_Mo hown hE.2.1 hP 0 rfl rfl 4 (by decide) (hE.w m_494) (fun _ h9 => h9) rfl d_Mo_octet0_7 ?_
      refine pc_jlt (tgt := 21) hx hb d_Mo_octet0_10 (by decide) (by omega) (by omega) (fun h_2 => ?_) (fun h_2 => ?_)
      · skip
        refine lv_iload_n hx hb d_Mo_octet0_21 rfl (lv_at hl 1 rfl) ?_
        refine pc_zge (tgt := 32) hx hb d_Mo_octet0_22 (by decide) (by omega) (fun h_d => ?_) (fun h_d => absurd h_d (not_false))
        refine lv_aload_n hx hb d_Mo_octet0_32 rfl (lv_at hl 0 rfl) ?_
        refine va_get (ci := 5) (C := R_Mo) (T := F_Mo) (N := 13) hx hb hE.hts in_Mo hown hE.2.1 hP 0 rfl rfl 1 (by decide) (hE.w m_491) (fun _ h9 => h9) rfl d_Mo_octet0_33 ?_
        refine lv_iload_n hx hb d_Mo_octet0_36 rfl (lv_at hl 1 rfl) ?_
        refine pc_bald hx hb hE.2.1 hP 1 0 rfl rfl (by omega) (by omega) d_Mo_octet0_37 ?_
        refine lv_sipush (v := nI 255) hx hb d_Mo_octet0_38 (by decide) ?_
        refine lv_iand hx hb d_Mo_octet0_41 ?_
        refine pc_ti (y := nI (bN t (iN k))) (bA_and _ _) ?_
        refine W.widen (k := rm_Mo_octet0.cells) (n := rm_Mo_octet0.slots) (by exact Nat.le_of_ble_eq_true rfl) (by exact Nat.le_of_ble_eq_true rfl) ?_
        exact hR _ _ 42 _ (nI (bN t (iN k))) () d_Mo_octet0_42 rfl (Or.inr (Or.inl (⟨rfl, hkp, by omega⟩))) (hP.sub [0, 1] rfl) (hD.sub [0, 1] (by decide) rfl) hS
      · skip
        exact hT "java/util/NoSuchElementException" 98 100 _ _ 0 0 13 _ () (by decide) m_626 m_18 ta_4 (hl.1.trans hml.symm) d_Mo_octet0_13 d_Mo_octet0_16 d_Mo_octet0_17 d_Mo_octet0_20 (by decide) ⟨by exact Nat.le_of_ble_eq_true rfl, by exact Nat.le_of_ble_eq_true rfl, by exact Nat.le_of_ble_eq_true rfl, by exact Nat.le_of_ble_eq_true rfl⟩ (Or.inr (Or.inr (⟨rfl, by first | exact Or.inl (by assumption) | exact Or.inr ⟨hkp, by omega⟩⟩))) (hP.sub [0, 1] rfl) (hD.sub [0, 1] (by decide) rfl) hS
abbrev rm_Mo_back0 : Room := { frames := 6, cells := 1, slots := 6, locals := 81 }
set_option maxHeartbeats 1000000 in
set_option maxRecDepth 100000 in
/-- back -/
theorem c_Mo_back0 (l : Launch) (htr : l.stackTraces = false) (g : pc_G) (y : Nat) (ta : Nat) (oa : Nat) (ma : Nat) (ca : Nat) (na : Nat) (la : Nat) (vm : Int32) (vc : Int32) (vk : Int32) (va : Int32) (vt : Int32) (n : Nat) (no : Nat) (t : Nat → UInt8) (to : Nat → UInt8) (hn : n ≤ 32768) (hno : no ≤ 32768) : pc_X (S := Nat × (Nat → UInt8) × Nat) l y_Mo_back0 (.code y_Mo_back0 prog_11_method_27_code 1 (some .int)) (some .int) rm_Mo_back0 g [(y, .inr (5, [.ref ta, .ref oa, .ref ma, .int (nI n), .int (nI no), .int vm, .ref ca, .ref na, .ref la, .int vc, .int vk, .int va, .int vt])), (ta, .inl (g.2.1, 32768, .inl (bA t))), (oa, .inl (g.2.1, 32768, .inl (bA to)))] [.ref y] (fun rv u => (rv = .inl (nI u.1) ∧ n + no ≤ 32768 ∧ u.1 = n + no ∧ bl u.2.1 u.1 = bl t n ++ bl to no ∧ u.2.2 = 0) ∨ (rv = .inr "java/lang/IllegalStateException" ∧ 32768 < n + no ∧ u.1 = n ∧ u.2.1 = t ∧ u.2.2 = no)) (fun u => [(y, .inr (5, [.ref ta, .ref oa, .ref ma, .int (nI u.1), .int (nI u.2.2), .int vm, .ref ca, .ref na, .ref la, .int vc, .int vk, .int va, .int vt])), (ta, .inl (g.2.1, 32768, .inl (bA u.2.1))), (oa, .inl (g.2.1, 32768, .inl (bA to)))]) := by
  refine pc_X.of (cc := prog_11_method_27_code) (nL := 1) (rt := (some .int)) (hh := []) (by decide) tx_wd.plain (by exact Nat.le_of_ble_eq_true rfl) htr ?_
  intro p e s m below meth c A Q hx hb hml hown hE hA htab hR hT hO hP hD ls hl
  have hS : va_S A s.heap s.heap [] := va_S.rf
  have hl : lv_has ls 1 [(0, .ref y)] := hl
  refine lv_aload_n hx hb d_Mo_back0_0 rfl (lv_at hl 0 rfl) ?_
  refine va_get (ci := 5) (C := R_Mo) (T := F_Mo) (N := 13) hx hb hE.hts in_Mo hown hE.2.1 hP 0 rfl rfl 3 (by decide) (hE.w m_493) (fun _ h9 => h9) rfl d_Mo_back0_1 ?_
  refine lv_aload_n hx hb d_Mo_back0_4 rfl (lv_at hl 0 rfl) ?_
  refine va_get (ci := 5) (C := R_Mo) (T := F_Mo) (N := 13) hx hb hE.hts in_Mo hown hE.2.1 hP 0 rfl rfl 4 (by decide) (hE.w m_494) (fun _ h9 => h9) rfl d_Mo_back0_5 ?_
  refine lv_iadd hx hb d_Mo_back0_8 ?_
  refine pc_ti (y := nI (n + no)) (nI_add _ _) ?_
  refine lv_ldc hx hb hown (hE.w m_489) d_Mo_back0_9 ?_
  refine pc_ti (y := nI 32768) (by decide) ?_
  refine pc_jle (tgt := 22) hx hb d_Mo_back0_11 (by decide) (by omega) (by omega) (fun h_1 => ?_) (fun h_1 => ?_)
  · skip
    refine lv_aload_n hx hb d_Mo_back0_22 rfl (lv_at hl 0 rfl) ?_
    refine va_get (ci := 5) (C := R_Mo) (T := F_Mo) (N := 13) hx hb hE.hts in_Mo hown hE.2.1 hP 0 rfl rfl 1 (by decide) (hE.w m_491) (fun _ h9 => h9) rfl d_Mo_back0_23 ?_
    refine lv_iconst (v := nI 0) hx hb d_Mo_back0_26 (by decide) ?_
    refine lv_aload_n hx hb d_Mo_back0_27 rfl (lv_at hl 0 rfl) ?_
    refine va_get (ci := 5) (C := R_Mo) (T := F_Mo) (N := 13) hx hb hE.hts in_Mo hown hE.2.1 hP 0 rfl rfl 0 (by decide) (hE.w m_490) (fun _ h9 => h9) rfl d_Mo_back0_28 ?_
    refine lv_aload_n hx hb d_Mo_back0_31 rfl (lv_at hl 0 rfl) ?_
    refine va_get (ci := 5) (C := R_Mo) (T := F_Mo) (N := 13) hx hb hE.hts in_Mo hown hE.2.1 hP 0 rfl rfl 3 (by decide) (hE.w m_493) (fun _ h9 => h9) rfl d_Mo_back0_32 ?_
    refine lv_aload_n hx hb d_Mo_back0_35 rfl (lv_at hl 0 rfl) ?_
    refine va_get (ci := 5) (C := R_Mo) (T := F_Mo) (N := 13) hx hb hE.hts in_Mo hown hE.2.1 hP 0 rfl rfl 4 (by decide) (hE.w m_494) (fun _ h9 => h9) rfl d_Mo_back0_36 ?_
    refine pc_copyb hx hb (hml.trans hl.1.symm) hown (hE.w m_582) (hE.w m_266) (hE.w m_265) (hE.w m_14) hE.2.1 hP hD hS 2 1 rfl rfl (by omega) (by omega) (by omega) (by omega) (by exact Nat.le_of_ble_eq_true rfl) (by exact Nat.le_of_ble_eq_true rfl) d_Mo_back0_39 (fun H locs hP hD hS => ?_)
    have hP : va_P g.1 pc_cl [(y, .inr (5, [.ref ta, .ref oa, .ref ma, .int (nI n), .int (nI no), .int vm, .ref ca, .ref na, .ref la, .int vc, .int vk, .int va, .int vt])), (ta, .inl (g.2.1, 32768, .inl (bA (va_cpy to t 0 n no)))), (oa, .inl (g.2.1, 32768, .inl (bA to)))] H := hP
    have hD : va_D A [(y, .inr (5, [.ref ta, .ref oa, .ref ma, .int (nI n), .int (nI no), .int vm, .ref ca, .ref na, .ref la, .int vc, .int vk, .int va, .int vt])), (ta, .inl (g.2.1, 32768, .inl (bA (va_cpy to t 0 n no)))), (oa, .inl (g.2.1, 32768, .inl (bA to)))] := hD
    refine lv_aload_n hx hb d_Mo_back0_42 rfl (lv_at hl 0 rfl) ?_
    refine lv_dup hx hb d_Mo_back0_43 rfl ?_
    refine va_get (ci := 5) (C := R_Mo) (T := F_Mo) (N := 13) hx hb hE.hts in_Mo hown hE.2.1 hP 0 rfl rfl 3 (by decide) (hE.w m_493) (fun _ h9 => h9) rfl d_Mo_back0_44 ?_
    refine lv_aload_n hx hb d_Mo_back0_47 rfl (lv_at hl 0 rfl) ?_
    refine va_get (ci := 5) (C := R_Mo) (T := F_Mo) (N := 13) hx hb hE.hts in_Mo hown hE.2.1 hP 0 rfl rfl 4 (by decide) (hE.w m_494) (fun _ h9 => h9) rfl d_Mo_back0_48 ?_
    refine lv_iadd hx hb d_Mo_back0_51 ?_
    refine pc_ti (y := nI (n + no)) (nI_add _ _) ?_
    refine va_put (ci := 5) (ty := .int) (C := R_Mo) (T := F_Mo) (N := 13) hx hb hE.hts in_Mo t_Mo tk_Mo nn_Mo hown hE.2.1 hP hD hS 0 rfl rfl 3 (by decide) (hE.w m_493) (fun _ h9 => h9) rfl (by decide +kernel) (by rfl) (by rfl) (by exact Nat.le_of_ble_eq_true rfl) d_Mo_back0_52 (fun H locs hP hD hS => ?_)
    have hP : va_P g.1 pc_cl [(y, .inr (5, [.ref ta, .ref oa, .ref ma, .int (nI (n + no)), .int (nI no), .int vm, .ref ca, .ref na, .ref la, .int vc, .int vk, .int va, .int vt])), (ta, .inl (g.2.1, 32768, .inl (bA (va_cpy to t 0 n no)))), (oa, .inl (g.2.1, 32768, .inl (bA to)))] H := hP
    have hD : va_D A [(y, .inr (5, [.ref ta, .ref oa, .ref ma, .int (nI (n + no)), .int (nI no), .int vm, .ref ca, .ref na, .ref la, .int vc, .int vk, .int va, .int vt])), (ta, .inl (g.2.1, 32768, .inl (bA (va_cpy to t 0 n no)))), (oa, .inl (g.2.1, 32768, .inl (bA to)))] := hD
    refine lv_aload_n hx hb d_Mo_back0_55 rfl (lv_at hl 0 rfl) ?_
    refine lv_iconst (v := nI 0) hx hb d_Mo_back0_56 (by decide) ?_
    refine va_put (ci := 5) (ty := .int) (C := R_Mo) (T := F_Mo) (N := 13) hx hb hE.hts in_Mo t_Mo tk_Mo nn_Mo hown hE.2.1 hP hD hS 0 rfl rfl 4 (by decide) (hE.w m_494) (fun _ h9 => h9) rfl (by decide +kernel) (by rfl) (by rfl) (by exact Nat.le_of_ble_eq_true rfl) d_Mo_back0_57 (fun H locs hP hD hS => ?_)
    have hP : va_P g.1 pc_cl [(y, .inr (5, [.ref ta, .ref oa, .ref ma, .int (nI (n + no)), .int (nI 0), .int vm, .ref ca, .ref na, .ref la, .int vc, .int vk, .int va, .int vt])), (ta, .inl (g.2.1, 32768, .inl (bA (va_cpy to t 0 n no)))), (oa, .inl (g.2.1, 32768, .inl (bA to)))] H := hP
    have hD : va_D A [(y, .inr (5, [.ref ta, .ref oa, .ref ma, .int (nI (n + no)), .int (nI 0), .int vm, .ref ca, .ref na, .ref la, .int vc, .int vk, .int va, .int vt])), (ta, .inl (g.2.1, 32768, .inl (bA (va_cpy to t 0 n no)))), (oa, .inl (g.2.1, 32768, .inl (bA to)))] := hD
    refine lv_aload_n hx hb d_Mo_back0_60 rfl (lv_at hl 0 rfl) ?_
    refine va_get (ci := 5) (C := R_Mo) (T := F_Mo) (N := 13) hx hb hE.hts in_Mo hown hE.2.1 hP 0 rfl rfl 3 (by decide) (hE.w m_493) (fun _ h9 => h9) rfl d_Mo_back0_61 ?_
    refine W.widen (k := rm_Mo_back0.cells) (n := rm_Mo_back0.slots) (by exact Nat.le_of_ble_eq_true rfl) (by exact Nat.le_of_ble_eq_true rfl) ?_
    exact hR _ _ 64 _ (nI (n + no)) (n + no, va_cpy to t 0 n no, 0) d_Mo_back0_64 rfl (Or.inl (⟨rfl, by omega, rfl, bl_back, rfl⟩)) (hP.sub [0, 1, 2] rfl) (hD.sub [0, 1, 2] (by decide) rfl) hS
  · skip
    exact hT "java/lang/IllegalStateException" 34 36 _ _ 0 0 14 _ (n, t, no) (by decide) m_538 m_9 ta_5 (hl.1.trans hml.symm) d_Mo_back0_14 d_Mo_back0_17 d_Mo_back0_18 d_Mo_back0_21 (by decide) ⟨by exact Nat.le_of_ble_eq_true rfl, by exact Nat.le_of_ble_eq_true rfl, by exact Nat.le_of_ble_eq_true rfl, by exact Nat.le_of_ble_eq_true rfl⟩ (Or.inr (⟨rfl, by omega, rfl, rfl, rfl⟩)) (hP.sub [0, 1, 2] rfl) (hD.sub [0, 1, 2] (by decide) rfl) hS
abbrev rm_Mo_room : Room := { frames := 6, cells := 1, slots := 6, locals := 81 }
set_option maxHeartbeats 1000000 in
set_option maxRecDepth 100000 in
/-- room -/
theorem c_Mo_room (l : Launch) (htr : l.stackTraces = false) (g : pc_G) (y : Nat) (ta : Nat) (oa : Nat) (ma : Nat) (ca : Nat) (na : Nat) (la : Nat) (vn : Int32) (vm : Int32) (vc : Int32) (vk : Int32) (va : Int32) (vt : Int32) (n : Nat) (k : Nat) (hn : n ≤ 32768) (hk : k ≤ 5) : pc_X (S := Unit) l y_Mo_room (.code y_Mo_room prog_11_method_18_code 2 none) none rm_Mo_room g [(y, .inr (5, [.ref ta, .ref oa, .ref ma, .int vn, .int (nI n), .int vm, .ref ca, .ref na, .ref la, .int vc, .int vk, .int va, .int vt]))] [.ref y, .int (nI k)] (fun rv _ => (rv = .inl 0 ∧ n + k ≤ 32768) ∨ (rv = .inr "java/lang/IllegalStateException" ∧ 32768 < n + k)) (fun _ => [(y, .inr (5, [.ref ta, .ref oa, .ref ma, .int vn, .int (nI n), .int vm, .ref ca, .ref na, .ref la, .int vc, .int vk, .int va, .int vt]))]) := by
  refine pc_X.of (cc := prog_11_method_18_code) (nL := 2) (rt := none) (hh := []) (by decide) tx_wd.plain (by exact Nat.le_of_ble_eq_true rfl) htr ?_
  intro p e s m below meth c A Q hx hb hml hown hE hA htab hR hT hO hP hD ls hl
  have hS : va_S A s.heap s.heap [] := va_S.rf
  have hl : lv_has ls 2 [(0, .ref y), (1, .int (nI k))] := hl
  refine lv_aload_n hx hb d_Mo_room_0 rfl (lv_at hl 0 rfl) ?_
  refine va_get (ci := 5) (C := R_Mo) (T := F_Mo) (N := 13) hx hb hE.hts in_Mo hown hE.2.1 hP 0 rfl rfl 4 (by decide) (hE.w m_494) (fun _ h9 => h9) rfl d_Mo_room_1 ?_
  refine lv_iload_n hx hb d_Mo_room_4 rfl (lv_at hl 1 rfl) ?_
  refine lv_iadd hx hb d_Mo_room_5 ?_
  refine pc_ti (y := nI (n + k)) (nI_add _ _) ?_
  refine lv_ldc hx hb hown (hE.w m_489) d_Mo_room_6 ?_
  refine pc_ti (y := nI 32768) (by decide) ?_
  refine pc_jle (tgt := 19) hx hb d_Mo_room_8 (by decide) (by omega) (by omega) (fun h_1 => ?_) (fun h_1 => ?_)
  · skip
    refine W.widen (k := rm_Mo_room.cells) (n := rm_Mo_room.slots) (by exact Nat.le_of_ble_eq_true rfl) (by exact Nat.le_of_ble_eq_true rfl) ?_
    exact hR _ _ 19 _ () d_Mo_room_19 (Or.inl (⟨rfl, by omega⟩)) (hP.sub [0] rfl) (hD.sub [0] (by decide) rfl) hS
  · skip
    exact hT "java/lang/IllegalStateException" 34 36 _ _ 0 0 11 _ () (by decide) m_538 m_9 ta_5 (hl.1.trans hml.symm) d_Mo_room_11 d_Mo_room_14 d_Mo_room_15 d_Mo_room_18 (by decide) ⟨by exact Nat.le_of_ble_eq_true rfl, by exact Nat.le_of_ble_eq_true rfl, by exact Nat.le_of_ble_eq_true rfl, by exact Nat.le_of_ble_eq_true rfl⟩ (Or.inr (⟨rfl, by omega⟩)) (hP.sub [0] rfl) (hD.sub [0] (by decide) rfl) hS
abbrev rm_Mo_thrown : Room := { frames := 0, cells := 0, slots := 0, locals := 0 }
set_option maxHeartbeats 1000000 in
set_option maxRecDepth 100000 in
/-- what was thrown -/
theorem c_Mo_thrown (l : Launch) (g : pc_G) (y : Nat) (ta : Nat) (oa : Nat) (ma : Nat) (ca : Nat) (na : Nat) (la : Nat) (vn : Int32) (vo : Int32) (vm : Int32) (vc : Int32) (vk : Int32) (va : Int32) (vt : Int32) : pc_Ci (S := Unit) l y_Mo_thrown prog_11_method_28_code 1 .int rm_Mo_thrown g [(y, .inr (5, [.ref ta, .ref oa, .ref ma, .int vn, .int vo, .int vm, .ref ca, .ref na, .ref la, .int vc, .int vk, .int va, .int vt]))] [.ref y] (fun rv _ => rv = vt) (fun _ => [(y, .inr (5, [.ref ta, .ref oa, .ref ma, .int vn, .int vo, .int vm, .ref ca, .ref na, .ref la, .int vc, .int vk, .int va, .int vt]))]) := by
  refine pc_Ci.of (by decide) (by exact Nat.le_of_ble_eq_true rfl) ?_
  intro p e s m below meth c A Q hx hb hml hown hE hA hQ hP hD ls hl
  have hS : va_S A s.heap s.heap [] := va_S.rf
  have hl : lv_has ls 1 [(0, .ref y)] := hl
  refine lv_aload_n hx hb d_Mo_thrown_0 rfl (lv_at hl 0 rfl) ?_
  refine va_get (ci := 5) (C := R_Mo) (T := F_Mo) (N := 13) hx hb hE.hts in_Mo hown hE.2.1 hP 0 rfl rfl 12 (by decide) (hE.w m_502) (fun _ h9 => h9) rfl d_Mo_thrown_1 ?_
  exact hQ _ _ 4 _ vt () d_Mo_thrown_4 rfl rfl (hP.sub [0] rfl) (hD.sub [0] (by decide) rfl) hS
abbrev rm_Mo_one : Room := { frames := 0, cells := 0, slots := 0, locals := 0 }
set_option maxHeartbeats 1000000 in
set_option maxRecDepth 100000 in
/-- a byte more, if there is room -/
theorem c_Mo_one (l : Launch) (g : pc_G) (y : Nat) (ta : Nat) (oa : Nat) (ma : Nat) (ca : Nat) (na : Nat) (la : Nat) (vn : Int32) (vo : Int32) (vc : Int32) (vk : Int32) (va : Int32) (vt : Int32) (n : Nat) (v : Int32) (b : Nat) (t : Nat → UInt8) (hn : n ≤ 32768) (hv : v.toInt8.toInt32 = sb_b b) : pc_Ci (S := Nat × (Nat → UInt8)) l y_Mo_one prog_11_method_4_code 2 .boolean rm_Mo_one g [(y, .inr (5, [.ref ta, .ref oa, .ref ma, .int vn, .int vo, .int (nI n), .ref ca, .ref na, .ref la, .int vc, .int vk, .int va, .int vt])), (ma, .inl (g.2.1, 32768, .inl (bA t)))] [.ref y, .int v] (fun rv u => rv = bI (n < 32768) ∧ bl u.2 u.1 = (bl t n ++ [b % 256]).take 32768 ∧ u.1 ≤ 32768) (fun u => [(y, .inr (5, [.ref ta, .ref oa, .ref ma, .int vn, .int vo, .int (nI u.1), .ref ca, .ref na, .ref la, .int vc, .int vk, .int va, .int vt])), (ma, .inl (g.2.1, 32768, .inl (bA u.2)))]) := by
  refine pc_Ci.of (by decide) (by exact Nat.le_of_ble_eq_true rfl) ?_
  intro p e s m below meth c A Q hx hb hml hown hE hA hQ hP hD ls hl
  have hS : va_S A s.heap s.heap [] := va_S.rf
  have hl : lv_has ls 2 [(0, .ref y), (1, .int v)] := hl
  refine lv_aload_n hx hb d_Mo_one_0 rfl (lv_at hl 0 rfl) ?_
  refine va_get (ci := 5) (C := R_Mo) (T := F_Mo) (N := 13) hx hb hE.hts in_Mo hown hE.2.1 hP 0 rfl rfl 5 (by decide) (hE.w m_495) (fun _ h9 => h9) rfl d_Mo_one_1 ?_
  refine lv_ldc hx hb hown (hE.w m_489) d_Mo_one_4 ?_
  refine pc_ti (y := nI 32768) (by decide) ?_
  refine pc_jne (tgt := 11) hx hb d_Mo_one_6 (by decide) (by omega) (by omega) (fun h_1 => ?_) (fun h_1 => ?_)
  · skip
    refine lv_aload_n hx hb d_Mo_one_11 rfl (lv_at hl 0 rfl) ?_
    refine va_get (ci := 5) (C := R_Mo) (T := F_Mo) (N := 13) hx hb hE.hts in_Mo hown hE.2.1 hP 0 rfl rfl 2 (by decide) (hE.w m_492) (fun _ h9 => h9) rfl d_Mo_one_12 ?_
    refine lv_aload_n hx hb d_Mo_one_15 rfl (lv_at hl 0 rfl) ?_
    refine va_get (ci := 5) (C := R_Mo) (T := F_Mo) (N := 13) hx hb hE.hts in_Mo hown hE.2.1 hP 0 rfl rfl 5 (by decide) (hE.w m_495) (fun _ h9 => h9) rfl d_Mo_one_16 ?_
    refine lv_iload_n hx hb d_Mo_one_19 rfl (lv_at hl 1 rfl) ?_
    refine lv_i2b (v := v.toInt8.toInt32) hx hb d_Mo_one_20 rfl ?_
    refine pc_ti (y := sb_b b) (hv) ?_
    refine pc_bast hx hb hE.2.1 hP hD hS 1 0 rfl rfl (by omega) (by omega) d_Mo_one_21 (fun H locs hP hD hS => ?_)
    have hP : va_P g.1 pc_cl [(y, .inr (5, [.ref ta, .ref oa, .ref ma, .int vn, .int vo, .int (nI n), .ref ca, .ref na, .ref la, .int vc, .int vk, .int va, .int vt])), (ma, .inl (g.2.1, 32768, .inl (bA (upB t n b))))] H := hP
    have hD : va_D A [(y, .inr (5, [.ref ta, .ref oa, .ref ma, .int vn, .int vo, .int (nI n), .ref ca, .ref na, .ref la, .int vc, .int vk, .int va, .int vt])), (ma, .inl (g.2.1, 32768, .inl (bA (upB t n b))))] := hD
    refine lv_aload_n hx hb d_Mo_one_22 rfl (lv_at hl 0 rfl) ?_
    refine lv_dup hx hb d_Mo_one_23 rfl ?_
    refine va_get (ci := 5) (C := R_Mo) (T := F_Mo) (N := 13) hx hb hE.hts in_Mo hown hE.2.1 hP 0 rfl rfl 5 (by decide) (hE.w m_495) (fun _ h9 => h9) rfl d_Mo_one_24 ?_
    refine lv_iconst (v := nI 1) hx hb d_Mo_one_27 (by decide) ?_
    refine lv_iadd hx hb d_Mo_one_28 ?_
    refine pc_ti (y := nI (n + 1)) (nI_add _ _) ?_
    refine va_put (ci := 5) (ty := .int) (C := R_Mo) (T := F_Mo) (N := 13) hx hb hE.hts in_Mo t_Mo tk_Mo nn_Mo hown hE.2.1 hP hD hS 0 rfl rfl 5 (by decide) (hE.w m_495) (fun _ h9 => h9) rfl (by decide +kernel) (by rfl) (by rfl) (by exact Nat.le_of_ble_eq_true rfl) d_Mo_one_29 (fun H locs hP hD hS => ?_)
    have hP : va_P g.1 pc_cl [(y, .inr (5, [.ref ta, .ref oa, .ref ma, .int vn, .int vo, .int (nI (n + 1)), .ref ca, .ref na, .ref la, .int vc, .int vk, .int va, .int vt])), (ma, .inl (g.2.1, 32768, .inl (bA (upB t n b))))] H := hP
    have hD : va_D A [(y, .inr (5, [.ref ta, .ref oa, .ref ma, .int vn, .int vo, .int (nI (n + 1)), .ref ca, .ref na, .ref la, .int vc, .int vk, .int va, .int vt])), (ma, .inl (g.2.1, 32768, .inl (bA (upB t n b))))] := hD
    refine lv_iconst (v := nI 1) hx hb d_Mo_one_32 (by decide) ?_
    exact hQ _ _ 33 _ (nI 1) (n + 1, upB t n b) d_Mo_one_33 rfl (⟨(bI_t (by omega)).symm, one_yes (by omega), show n + 1 ≤ 32768 by omega⟩) (hP.sub [0, 1] rfl) (hD.sub [0, 1] (by decide) rfl) hS
  · skip
    refine lv_iconst (v := nI 0) hx hb d_Mo_one_9 (by decide) ?_
    exact hQ _ _ 10 _ (nI 0) (n, t) d_Mo_one_10 rfl (⟨(bI_f (by omega)).symm, one_no (by omega), hn⟩) (hP.sub [0, 1] rfl) (hD.sub [0, 1] (by decide) rfl) hS
abbrev rm_Mo_keep : Room := { frames := 1, cells := 0, slots := 0, locals := 40 }
set_option maxHeartbeats 1000000 in
set_option maxRecDepth 100000 in
/-- what was made is out -/
theorem c_Mo_keep (l : Launch) (g : pc_G) (y : Nat) (ta : Nat) (oa : Nat) (ma : Nat) (ca : Nat) (na : Nat) (la : Nat) (vn : Int32) (vc : Int32) (vk : Int32) (va : Int32) (vt : Int32) (n : Nat) (vo : Int32) (t : Nat → UInt8) (u : Nat → UInt8) (hn : n ≤ 32768) : pc_Cv (S := (Nat → UInt8)) l y_Mo_keep prog_11_method_6_code 1 rm_Mo_keep g [(y, .inr (5, [.ref ta, .ref oa, .ref ma, .int vn, .int vo, .int (nI n), .ref ca, .ref na, .ref la, .int vc, .int vk, .int va, .int vt])), (ma, .inl (g.2.1, 32768, .inl (bA t))), (oa, .inl (g.2.1, 32768, .inl (bA u)))] [.ref y] (fun u => bl u n = bl t n) (fun u => [(y, .inr (5, [.ref ta, .ref oa, .ref ma, .int vn, .int (nI n), .int (nI n), .ref ca, .ref na, .ref la, .int vc, .int vk, .int va, .int vt])), (ma, .inl (g.2.1, 32768, .inl (bA t))), (oa, .inl (g.2.1, 32768, .inl (bA u)))]) := by
  refine pc_Cv.of (by decide) (by exact Nat.le_of_ble_eq_true rfl) ?_
  intro p e s m below meth c A Q hx hb hml hown hE hA hnm hQ hP hD ls hl
  have hS : va_S A s.heap s.heap [] := va_S.rf
  have hl : lv_has ls 1 [(0, .ref y)] := hl
  refine lv_aload_n hx hb d_Mo_keep_0 rfl (lv_at hl 0 rfl) ?_
  refine va_get (ci := 5) (C := R_Mo) (T := F_Mo) (N := 13) hx hb hE.hts in_Mo hown hE.2.1 hP 0 rfl rfl 2 (by decide) (hE.w m_492) (fun _ h9 => h9) rfl d_Mo_keep_1 ?_
  refine lv_iconst (v := nI 0) hx hb d_Mo_keep_4 (by decide) ?_
  refine lv_aload_n hx hb d_Mo_keep_5 rfl (lv_at hl 0 rfl) ?_
  refine va_get (ci := 5) (C := R_Mo) (T := F_Mo) (N := 13) hx hb hE.hts in_Mo hown hE.2.1 hP 0 rfl rfl 1 (by decide) (hE.w m_491) (fun _ h9 => h9) rfl d_Mo_keep_6 ?_
  refine lv_iconst (v := nI 0) hx hb d_Mo_keep_9 (by decide) ?_
  refine lv_aload_n hx hb d_Mo_keep_10 rfl (lv_at hl 0 rfl) ?_
  refine va_get (ci := 5) (C := R_Mo) (T := F_Mo) (N := 13) hx hb hE.hts in_Mo hown hE.2.1 hP 0 rfl rfl 5 (by decide) (hE.w m_495) (fun _ h9 => h9) rfl d_Mo_keep_11 ?_
  refine pc_copyb hx hb (hml.trans hl.1.symm) hown (hE.w m_582) (hE.w m_266) (hE.w m_265) (hE.w m_14) hE.2.1 hP hD hS 1 2 rfl rfl (by omega) (by omega) (by omega) (by omega) (by exact Nat.le_of_ble_eq_true rfl) (by exact Nat.le_of_ble_eq_true rfl) d_Mo_keep_14 (fun H locs hP hD hS => ?_)
  have hP : va_P g.1 pc_cl [(y, .inr (5, [.ref ta, .ref oa, .ref ma, .int vn, .int vo, .int (nI n), .ref ca, .ref na, .ref la, .int vc, .int vk, .int va, .int vt])), (ma, .inl (g.2.1, 32768, .inl (bA t))), (oa, .inl (g.2.1, 32768, .inl (bA (va_cpy t u 0 0 n))))] H := hP
  have hD : va_D A [(y, .inr (5, [.ref ta, .ref oa, .ref ma, .int vn, .int vo, .int (nI n), .ref ca, .ref na, .ref la, .int vc, .int vk, .int va, .int vt])), (ma, .inl (g.2.1, 32768, .inl (bA t))), (oa, .inl (g.2.1, 32768, .inl (bA (va_cpy t u 0 0 n))))] := hD
  refine lv_aload_n hx hb d_Mo_keep_17 rfl (lv_at hl 0 rfl) ?_
  refine lv_aload_n hx hb d_Mo_keep_18 rfl (lv_at hl 0 rfl) ?_
  refine va_get (ci := 5) (C := R_Mo) (T := F_Mo) (N := 13) hx hb hE.hts in_Mo hown hE.2.1 hP 0 rfl rfl 5 (by decide) (hE.w m_495) (fun _ h9 => h9) rfl d_Mo_keep_19 ?_
  refine va_put (ci := 5) (ty := .int) (C := R_Mo) (T := F_Mo) (N := 13) hx hb hE.hts in_Mo t_Mo tk_Mo nn_Mo hown hE.2.1 hP hD hS 0 rfl rfl 4 (by decide) (hE.w m_494) (fun _ h9 => h9) rfl (by decide +kernel) (by rfl) (by rfl) (by exact Nat.le_of_ble_eq_true rfl) d_Mo_keep_22 (fun H locs hP hD hS => ?_)
  have hP : va_P g.1 pc_cl [(y, .inr (5, [.ref ta, .ref oa, .ref ma, .int vn, .int (nI n), .int (nI n), .ref ca, .ref na, .ref la, .int vc, .int vk, .int va, .int vt])), (ma, .inl (g.2.1, 32768, .inl (bA t))), (oa, .inl (g.2.1, 32768, .inl (bA (va_cpy t u 0 0 n))))] H := hP
  have hD : va_D A [(y, .inr (5, [.ref ta, .ref oa, .ref ma, .int vn, .int (nI n), .int (nI n), .ref ca, .ref na, .ref la, .int vc, .int vk, .int va, .int vt])), (ma, .inl (g.2.1, 32768, .inl (bA t))), (oa, .inl (g.2.1, 32768, .inl (bA (va_cpy t u 0 0 n))))] := hD
  exact hQ _ _ 25 _ (va_cpy t u 0 0 n) d_Mo_keep_25 bl_keep (hP.sub [0, 1, 2] rfl) (hD.sub [0, 1, 2] (by decide) rfl) hS
abbrev rm_Mo_isCharacter : Room := { frames := 0, cells := 0, slots := 0, locals := 0 }
set_option maxHeartbeats 1000000 in
set_option maxRecDepth 100000 in
/-- is this a character -/
theorem c_Mo_isCharacter (l : Launch) (g : pc_G) (x : Int32) : pc_Ci (S := Unit) l y_Mo_isCharacter prog_11_method_13_code 1 .boolean rm_Mo_isCharacter g [] [.int x] (fun rv _ => rv = bI (chI x)) (fun _ => []) := by
  refine pc_Ci.of (by decide) (by exact Nat.le_of_ble_eq_true rfl) ?_
  intro p e s m below meth c A Q hx hb hml hown hE hA hQ hP hD ls hl
  have hS : va_S A s.heap s.heap [] := va_S.rf
  have hl : lv_has ls 1 [(0, .int x)] := hl
  refine lv_iload_n hx hb d_Mo_isCharacter_0 rfl (lv_at hl 0 rfl) ?_
  refine lv_if_lt (tgt := 26) hx hb d_Mo_isCharacter_1 (by decide) (fun h_1 => ?_) (fun h_1 => ?_)
  · skip
    refine lv_iconst (v := nI 0) hx hb d_Mo_isCharacter_26 (by decide) ?_
    exact hQ _ _ 27 _ (nI 0) () d_Mo_isCharacter_27 rfl ((bI_f (fun z9 => by first | exact absurd (by assumption) z9.1 | exact absurd (by assumption) z9.2.1 | (rcases z9.2.2 with k9 | k9; exact absurd k9 (by assumption); exact absurd k9 (Int32.not_lt.mpr (by assumption))))).symm) (hP.sub [] rfl) (hD.sub [] (by decide) rfl) hS
  · skip
    refine lv_iload_n hx hb d_Mo_isCharacter_4 rfl (lv_at hl 0 rfl) ?_
    refine lv_ldc hx hb hown (hE.w m_615) d_Mo_isCharacter_5 ?_
    refine pc_ti (y := nI 1114111) (by decide) ?_
    refine lv_icmp_gt (tgt := 26) hx hb d_Mo_isCharacter_7 (by decide) (fun h_2 => ?_) (fun h_2 => ?_)
    · skip
      refine lv_iconst (v := nI 0) hx hb d_Mo_isCharacter_26 (by decide) ?_
      exact hQ _ _ 27 _ (nI 0) () d_Mo_isCharacter_27 rfl ((bI_f (fun z9 => by first | exact absurd (by assumption) z9.1 | exact absurd (by assumption) z9.2.1 | (rcases z9.2.2 with k9 | k9; exact absurd k9 (by assumption); exact absurd k9 (Int32.not_lt.mpr (by assumption))))).symm) (hP.sub [] rfl) (hD.sub [] (by decide) rfl) hS
    · skip
      refine lv_iload_n hx hb d_Mo_isCharacter_10 rfl (lv_at hl 0 rfl) ?_
      refine lv_ldc hx hb hown (hE.w m_616) d_Mo_isCharacter_11 ?_
      refine pc_ti (y := nI 55296) (by decide) ?_
      refine lv_icmp_lt (tgt := 22) hx hb d_Mo_isCharacter_13 (by decide) (fun h_3 => ?_) (fun h_3 => ?_)
      · skip
        refine lv_iconst (v := nI 1) hx hb d_Mo_isCharacter_22 (by decide) ?_
        refine lv_goto (tgt := 27) hx hb d_Mo_isCharacter_23 (by decide) ?_
        exact hQ _ _ 27 _ (nI 1) () d_Mo_isCharacter_27 rfl ((bI_t (by refine ⟨by assumption, ?_, ?_⟩ <;> first | assumption | exact Int32.not_lt.mpr (by assumption) | exact Or.inl (by assumption) | exact Or.inr (Int32.not_le.mp (by assumption)))).symm) (hP.sub [] rfl) (hD.sub [] (by decide) rfl) hS
      · skip
        refine lv_iload_n hx hb d_Mo_isCharacter_16 rfl (lv_at hl 0 rfl) ?_
        refine lv_ldc hx hb hown (hE.w m_617) d_Mo_isCharacter_17 ?_
        refine pc_ti (y := nI 57343) (by decide) ?_
        refine lv_icmp_le (tgt := 26) hx hb d_Mo_isCharacter_19 (by decide) (fun h_4 => ?_) (fun h_4 => ?_)
        · skip
          refine lv_iconst (v := nI 0) hx hb d_Mo_isCharacter_26 (by decide) ?_
          exact hQ _ _ 27 _ (nI 0) () d_Mo_isCharacter_27 rfl ((bI_f (fun z9 => by first | exact absurd (by assumption) z9.1 | exact absurd (by assumption) z9.2.1 | (rcases z9.2.2 with k9 | k9; exact absurd k9 (by assumption); exact absurd k9 (Int32.not_lt.mpr (by assumption))))).symm) (hP.sub [] rfl) (hD.sub [] (by decide) rfl) hS
        · skip
          refine lv_iconst (v := nI 1) hx hb d_Mo_isCharacter_22 (by decide) ?_
          refine lv_goto (tgt := 27) hx hb d_Mo_isCharacter_23 (by decide) ?_
          exact hQ _ _ 27 _ (nI 1) () d_Mo_isCharacter_27 rfl ((bI_t (by refine ⟨by assumption, ?_, ?_⟩ <;> first | assumption | exact Int32.not_lt.mpr (by assumption) | exact Or.inl (by assumption) | exact Or.inr (Int32.not_le.mp (by assumption)))).symm) (hP.sub [] rfl) (hD.sub [] (by decide) rfl) hS
abbrev rm_Mo_width : Room := { frames := 0, cells := 0, slots := 0, locals := 0 }
set_option maxHeartbeats 1000000 in
set_option maxRecDepth 100000 in
/-- how many bytes a character takes -/
theorem c_Mo_width (l : Launch) (g : pc_G) (v : Nat) (hv : v < 2 ^ 31) : pc_Ci (S := Unit) l y_Mo_width prog_11_method_14_code 1 .int rm_Mo_width g [] [.int (nI v)] (fun rv _ => rv = nI (chW v)) (fun _ => []) := by
  refine pc_Ci.of (by decide) (by exact Nat.le_of_ble_eq_true rfl) ?_
  intro p e s m below meth c A Q hx hb hml hown hE hA hQ hP hD ls hl
  have hS : va_S A s.heap s.heap [] := va_S.rf
  have hl : lv_has ls 1 [(0, .int (nI v))] := hl
  refine lv_iload_n hx hb d_Mo_width_0 rfl (lv_at hl 0 rfl) ?_
  refine lv_sipush (v := nI 128) hx hb d_Mo_width_1 (by decide) ?_
  refine pc_jge (tgt := 11) hx hb d_Mo_width_4 (by decide) (by omega) (by omega) (fun h_1 => ?_) (fun h_1 => ?_)
  · skip
    refine lv_iload_n hx hb d_Mo_width_11 rfl (lv_at hl 0 rfl) ?_
    refine lv_sipush (v := nI 2048) hx hb d_Mo_width_12 (by decide) ?_
    refine pc_jge (tgt := 22) hx hb d_Mo_width_15 (by decide) (by omega) (by omega) (fun h_2 => ?_) (fun h_2 => ?_)
    · skip
      refine lv_iload_n hx hb d_Mo_width_22 rfl (lv_at hl 0 rfl) ?_
      refine lv_ldc hx hb hown (hE.w m_621) d_Mo_width_23 ?_
      refine pc_ti (y := nI 65536) (by decide) ?_
      refine pc_jge (tgt := 32) hx hb d_Mo_width_25 (by decide) (by omega) (by omega) (fun h_3 => ?_) (fun h_3 => ?_)
      · skip
        refine lv_iconst (v := nI 4) hx hb d_Mo_width_32 (by decide) ?_
        exact hQ _ _ 33 _ (nI 4) () d_Mo_width_33 rfl (by unfold chW; (repeat' split) <;> first | rfl | (exfalso; omega)) (hP.sub [] rfl) (hD.sub [] (by decide) rfl) hS
      · skip
        refine lv_iconst (v := nI 3) hx hb d_Mo_width_28 (by decide) ?_
        refine lv_goto (tgt := 33) hx hb d_Mo_width_29 (by decide) ?_
        exact hQ _ _ 33 _ (nI 3) () d_Mo_width_33 rfl (by unfold chW; (repeat' split) <;> first | rfl | (exfalso; omega)) (hP.sub [] rfl) (hD.sub [] (by decide) rfl) hS
    · skip
      refine lv_iconst (v := nI 2) hx hb d_Mo_width_18 (by decide) ?_
      refine lv_goto (tgt := 33) hx hb d_Mo_width_19 (by decide) ?_
      exact hQ _ _ 33 _ (nI 2) () d_Mo_width_33 rfl (by unfold chW; (repeat' split) <;> first | rfl | (exfalso; omega)) (hP.sub [] rfl) (hD.sub [] (by decide) rfl) hS
  · skip
    refine lv_iconst (v := nI 1) hx hb d_Mo_width_7 (by decide) ?_
    refine lv_goto (tgt := 33) hx hb d_Mo_width_8 (by decide) ?_
    exact hQ _ _ 33 _ (nI 1) () d_Mo_width_33 rfl (by unfold chW; (repeat' split) <;> first | rfl | (exfalso; omega)) (hP.sub [] rfl) (hD.sub [] (by decide) rfl) hS
