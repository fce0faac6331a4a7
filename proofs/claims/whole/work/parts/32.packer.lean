def R_Arr : String := "java/util/Arrays"
def y_Arr_fill : MethodName := ⟨R_Arr, "fill", "([II)V"⟩
theorem d_Arr_fill_0 : decode prog_19_method_103_code 0 = .ok (.iconst 0, 1) := by decide +kernel
theorem d_Arr_fill_1 : decode prog_19_method_103_code 1 = .ok (.istore_n 2, 1) := by decide +kernel
theorem d_Arr_fill_2 : decode prog_19_method_103_code 2 = .ok (.aload_n 0, 1) := by decide +kernel
theorem d_Arr_fill_3 : decode prog_19_method_103_code 3 = .ok (.arraylength, 1) := by decide +kernel
theorem d_Arr_fill_4 : decode prog_19_method_103_code 4 = .ok (.istore_n 3, 1) := by decide +kernel
theorem d_Arr_fill_5 : decode prog_19_method_103_code 5 = .ok (.iload_n 2, 1) := by decide +kernel
theorem d_Arr_fill_6 : decode prog_19_method_103_code 6 = .ok (.iload_n 3, 1) := by decide +kernel
theorem d_Arr_fill_7 : decode prog_19_method_103_code 7 = .ok (.if_icmp .ge 13, 3) := by decide +kernel
theorem d_Arr_fill_10 : decode prog_19_method_103_code 10 = .ok (.aload_n 0, 1) := by decide +kernel
theorem d_Arr_fill_11 : decode prog_19_method_103_code 11 = .ok (.iload_n 2, 1) := by decide +kernel
theorem d_Arr_fill_12 : decode prog_19_method_103_code 12 = .ok (.iload_n 1, 1) := by decide +kernel
theorem d_Arr_fill_13 : decode prog_19_method_103_code 13 = .ok (.iastore, 1) := by decide +kernel
theorem d_Arr_fill_14 : decode prog_19_method_103_code 14 = .ok (.iinc 2 1, 3) := by decide +kernel
theorem d_Arr_fill_17 : decode prog_19_method_103_code 17 = .ok (.goto (-12), 3) := by decide +kernel
theorem d_Arr_fill_20 : decode prog_19_method_103_code 20 = .ok (.return_, 1) := by decide +kernel
abbrev rm_Arr_fill : Room := { frames := 0, cells := 0, slots := 0, locals := 0 }
set_option maxHeartbeats 1000000 in
set_option maxRecDepth 100000 in
/-- Arrays.fill -/
theorem c_Arr_fill (l : Launch) (g : pc_G) (a : Nat) (z : Nat) (f : Nat → Int32) (x : Int32) (hz : z ≤ 65536) : pc_Cv (S := (Nat → Int32)) l y_Arr_fill prog_19_method_103_code 4 rm_Arr_fill g [(a, .inl (g.2.2.1, z, .inl f))] [.ref a, .int x] (fun u => (∀ j, j < z → u j = x)) (fun u => [(a, .inl (g.2.2.1, z, .inl u))]) := by
  refine pc_Cv.of (by decide) (by exact Nat.le_of_ble_eq_true rfl) ?_
  intro p e s m below meth c A Q hx hb hml hown hE hA hnm hQ hP hD ls hl
  have hS : va_S A s.heap s.heap [] := va_S.rf
  have hl : lv_has ls 4 [(0, .ref a), (1, .int x)] := hl
  refine lv_iconst (v := nI 0) hx hb d_Arr_fill_0 (by decide) ?_
  refine lv_istore_n (lv' := [(2, .int (nI 0)), (0, .ref a), (1, .int x)]) hx hb d_Arr_fill_1 rfl hl (by decide) rfl (fun ls hl => ?_)
  refine lv_aload_n hx hb d_Arr_fill_2 rfl (lv_at hl 1 rfl) ?_
  refine va_alen (v := nI z) hx hb hE.2.1 hP 0 1 rfl rfl rfl d_Arr_fill_3 ?_
  refine lv_istore_n (lv' := [(3, .int (nI z)), (2, .int (nI 0)), (0, .ref a), (1, .int x)]) hx hb d_Arr_fill_4 rfl hl (by decide) rfl (fun ls hl => ?_)
  have lp_5 : ∀ (n9 : Nat) (i : Nat) (v : Nat → Int32) (hi : i ≤ z) (hold : ∀ j, j < i → v j = x) (hmu : z - i < n9) (H : Heap) (locs : List Loc) (hP : va_P g.1 pc_cl [(a, .inl (g.2.2.1, z, .inl v))] H) (hD : va_D A [(a, .inl (g.2.2.1, z, .inl v))]) (hS : va_S A s.heap H locs) (ls : Array Slot) (hl : lv_has ls 4 [(0, .ref a), (1, .int x), (2, .int (nI i)), (3, .int (nI z))]), W p l e rm_Arr_fill s m ([.ref a, .int x] : List Value).toArray below meth c H locs 0 0 Q (F0 m 5 ls []) := by
    intro n9
    induction n9 with
    | zero => intros; omega
    | succ n9 ih_5 =>
      intro i v hi hold hmu H locs hP hD hS ls hl
      refine lv_iload_n hx hb d_Arr_fill_5 rfl (lv_at hl 2 rfl) ?_
      refine lv_iload_n hx hb d_Arr_fill_6 rfl (lv_at hl 3 rfl) ?_
      refine pc_jge (tgt := 20) hx hb d_Arr_fill_7 (by decide) (by omega) (by omega) (fun h_1 => ?_) (fun h_1 => ?_)
      · skip
        exact hQ _ _ 20 _ v d_Arr_fill_20 (fun j hj => hold j (by omega)) (hP.sub [0] rfl) (hD.sub [0] (by decide) rfl) hS
      · skip
        refine lv_aload_n hx hb d_Arr_fill_10 rfl (lv_at hl 0 rfl) ?_
        refine lv_iload_n hx hb d_Arr_fill_11 rfl (lv_at hl 2 rfl) ?_
        refine lv_iload_n hx hb d_Arr_fill_12 rfl (lv_at hl 1 rfl) ?_
        refine pc_iast hx hb hE.2.1 hP hD hS 0 1 rfl rfl (by omega) (by omega) d_Arr_fill_13 (fun H locs hP hD hS => ?_)
        have hP : va_P g.1 pc_cl [(a, .inl (g.2.2.1, z, .inl (upd v i x)))] H := hP
        have hD : va_D A [(a, .inl (g.2.2.1, z, .inl (upd v i x)))] := hD
        refine lv_iinc (v := nI (i + 1)) (lv' := [(2, .int (nI (i + 1))), (0, .ref a), (1, .int x), (3, .int (nI z))]) hx hb d_Arr_fill_14 hl (k := 2) rfl (pc_inc i 1) (by decide) rfl (fun ls hl => ?_)
        refine lv_goto (tgt := 5) hx hb d_Arr_fill_17 (by decide) ?_
        exact ih_5 (i + 1) (upd v i x) (by omega) (fun j hj => by by_cases e9 : j = i; (rw [e9, pk_us]); (rw [pk_un e9]; exact hold j (by omega))) (by omega) _ _ (hP.sub [0] rfl) (hD.sub [0] (by decide) rfl) hS _ (lv_sub hl [1, 2, 0, 3] rfl)
  exact lp_5 (z - 0 + 1) 0 f (by omega) (fun j hj => absurd hj (Nat.not_lt_zero j)) (Nat.lt_succ_self _) _ _ (hP.sub [0] rfl) (hD.sub [0] (by decide) rfl) hS _ (lv_sub hl [2, 3, 1, 0] rfl)
abbrev rm_Packer_init : Room := { frames := 1, cells := 2, slots := 8192, locals := 12 }
set_option maxHeartbeats 1000000 in
set_option maxRecDepth 100000 in
/-- a packer -/
theorem c_Packer_init (l : Launch) (g : pc_G) (k : Nat) (x : Int32) (y : Int32) : pc_Cv (S := Nat × Nat) l y_Packer_init prog_5_method_1_code 1 rm_Packer_init g [(k, .inr (3, [.null, .null, .int x, .int y]))] [.ref k] (fun u => True) (fun u => [(k, .inr (3, [.ref u.1, .ref u.2, .int (nI 0), .int (nI 0)])), (u.1, .inl (g.2.2.1, 4096, .inl (fun _ => 0))), (u.2, .inl (g.2.2.1, 4096, .inl (fun _ => 0)))]) := by
  refine pc_Cv.of (by decide) (by exact Nat.le_of_ble_eq_true rfl) ?_
  intro p e s m below meth c A Q hx hb hml hown hE hA hnm hQ hP hD ls hl
  have hS : va_S A s.heap s.heap [] := va_S.rf
  have hl : lv_has ls 1 [(0, .ref k)] := hl
  refine lv_aload_n hx hb d_Packer_init_0 rfl (lv_at hl 0 rfl) ?_
  refine W.objInit hx hb hown (hE.w m_52) (hE.w m_26) (hE.w m_27) rfl (by rw [hml]; exact hl.1) rfl d_Packer_init_1 (by exact Nat.le_of_ble_eq_true rfl) (by exact Nat.le_of_ble_eq_true rfl) ?_
  refine W.eq (g2 := F0 m 4 ls []) rfl ?_
  refine lv_aload_n hx hb d_Packer_init_4 rfl (lv_at hl 0 rfl) ?_
  refine lv_sipush (v := nI 4096) hx hb d_Packer_init_5 (by decide) ?_
  refine pc_newa (atype := .int) (ty := .int) (a0 := (4096, .inl (fun _ => 0))) hx hb (hE.w m_66) rfl hE.2.1 hP hD hS hA 1 rfl (fun cA => pc_z32 cA 4096) (nI_pos (by omega)) (nI_clamp (by omega)) (by show 4096 * 4 ≤ 536870912; omega) (by exact Nat.le_of_ble_eq_true rfl) (by exact Nat.le_of_ble_eq_true rfl) d_Packer_init_8 (fun q_1 H hP hD hS => ?_)
  have hP : va_P g.1 pc_cl [(k, .inr (3, [.null, .null, .int x, .int y])), (q_1, .inl (g.2.2.1, 4096, .inl (fun _ => 0)))] H := hP
  have hD : va_D A [(k, .inr (3, [.null, .null, .int x, .int y])), (q_1, .inl (g.2.2.1, 4096, .inl (fun _ => 0)))] := hD
  refine W.cs (cells' := 1) (slots' := 4096) rfl rfl ?_
  refine va_putF (ci := 3) (ty := .array .int) (C := R_Packer) (T := F_Packer) (N := 4) hx hb hE.hts in_Packer t_Packer tk_Packer nn_Packer hown hE.2.1 hP hD hS 0 rfl rfl 0 (by decide) (hE.w m_53) (fun _ h9 => h9) rfl (hnm "<init>" rfl) rfl (by decide +kernel) (by rfl) (by rfl) (by exact Nat.le_of_ble_eq_true rfl) d_Packer_init_10 (fun H locs hP hD hS => ?_)
  have hP : va_P g.1 pc_cl [(k, .inr (3, [.ref q_1, .null, .int x, .int y])), (q_1, .inl (g.2.2.1, 4096, .inl (fun _ => 0)))] H := hP
  have hD : va_D A [(k, .inr (3, [.ref q_1, .null, .int x, .int y])), (q_1, .inl (g.2.2.1, 4096, .inl (fun _ => 0)))] := hD
  refine lv_aload_n hx hb d_Packer_init_13 rfl (lv_at hl 0 rfl) ?_
  refine lv_sipush (v := nI 4096) hx hb d_Packer_init_14 (by decide) ?_
  refine pc_newa (atype := .int) (ty := .int) (a0 := (4096, .inl (fun _ => 0))) hx hb (hE.w m_66) rfl hE.2.1 hP hD hS hA 1 rfl (fun cA => pc_z32 cA 4096) (nI_pos (by omega)) (nI_clamp (by omega)) (by show 4096 * 4 ≤ 536870912; omega) (by exact Nat.le_of_ble_eq_true rfl) (by exact Nat.le_of_ble_eq_true rfl) d_Packer_init_17 (fun q_2 H hP hD hS => ?_)
  have hP : va_P g.1 pc_cl [(k, .inr (3, [.ref q_1, .null, .int x, .int y])), (q_1, .inl (g.2.2.1, 4096, .inl (fun _ => 0))), (q_2, .inl (g.2.2.1, 4096, .inl (fun _ => 0)))] H := hP
  have hD : va_D A [(k, .inr (3, [.ref q_1, .null, .int x, .int y])), (q_1, .inl (g.2.2.1, 4096, .inl (fun _ => 0))), (q_2, .inl (g.2.2.1, 4096, .inl (fun _ => 0)))] := hD
  refine W.cs (cells' := 2) (slots' := 8192) rfl rfl ?_
  refine va_putF (ci := 3) (ty := .array .int) (C := R_Packer) (T := F_Packer) (N := 4) hx hb hE.hts in_Packer t_Packer tk_Packer nn_Packer hown hE.2.1 hP hD hS 0 rfl rfl 1 (by decide) (hE.w m_54) (fun _ h9 => h9) rfl (hnm "<init>" rfl) rfl (by decide +kernel) (by rfl) (by rfl) (by exact Nat.le_of_ble_eq_true rfl) d_Packer_init_19 (fun H locs hP hD hS => ?_)
  have hP : va_P g.1 pc_cl [(k, .inr (3, [.ref q_1, .ref q_2, .int x, .int y])), (q_1, .inl (g.2.2.1, 4096, .inl (fun _ => 0))), (q_2, .inl (g.2.2.1, 4096, .inl (fun _ => 0)))] H := hP
  have hD : va_D A [(k, .inr (3, [.ref q_1, .ref q_2, .int x, .int y])), (q_1, .inl (g.2.2.1, 4096, .inl (fun _ => 0))), (q_2, .inl (g.2.2.1, 4096, .inl (fun _ => 0)))] := hD
  refine lv_aload_n hx hb d_Packer_init_22 rfl (lv_at hl 0 rfl) ?_
  refine lv_iconst (v := nI 0) hx hb d_Packer_init_23 (by decide) ?_
  refine va_put (ci := 3) (ty := .int) (C := R_Packer) (T := F_Packer) (N := 4) hx hb hE.hts in_Packer t_Packer tk_Packer nn_Packer hown hE.2.1 hP hD hS 0 rfl rfl 2 (by decide) (hE.w m_55) (fun _ h9 => h9) rfl (by decide +kernel) (by rfl) (by rfl) (by exact Nat.le_of_ble_eq_true rfl) d_Packer_init_24 (fun H locs hP hD hS => ?_)
  have hP : va_P g.1 pc_cl [(k, .inr (3, [.ref q_1, .ref q_2, .int (nI 0), .int y])), (q_1, .inl (g.2.2.1, 4096, .inl (fun _ => 0))), (q_2, .inl (g.2.2.1, 4096, .inl (fun _ => 0)))] H := hP
  have hD : va_D A [(k, .inr (3, [.ref q_1, .ref q_2, .int (nI 0), .int y])), (q_1, .inl (g.2.2.1, 4096, .inl (fun _ => 0))), (q_2, .inl (g.2.2.1, 4096, .inl (fun _ => 0)))] := hD
  refine lv_aload_n hx hb d_Packer_init_27 rfl (lv_at hl 0 rfl) ?_
  refine lv_iconst (v := nI 0) hx hb d_Packer_init_28 (by decide) ?_
  refine va_put (ci := 3) (ty := .int) (C := R_Packer) (T := F_Packer) (N := 4) hx hb hE.hts in_Packer t_Packer tk_Packer nn_Packer hown hE.2.1 hP hD hS 0 rfl rfl 3 (by decide) (hE.w m_56) (fun _ h9 => h9) rfl (by decide +kernel) (by rfl) (by rfl) (by exact Nat.le_of_ble_eq_true rfl) d_Packer_init_29 (fun H locs hP hD hS => ?_)
  have hP : va_P g.1 pc_cl [(k, .inr (3, [.ref q_1, .ref q_2, .int (nI 0), .int (nI 0)])), (q_1, .inl (g.2.2.1, 4096, .inl (fun _ => 0))), (q_2, .inl (g.2.2.1, 4096, .inl (fun _ => 0)))] H := hP
  have hD : va_D A [(k, .inr (3, [.ref q_1, .ref q_2, .int (nI 0), .int (nI 0)])), (q_1, .inl (g.2.2.1, 4096, .inl (fun _ => 0))), (q_2, .inl (g.2.2.1, 4096, .inl (fun _ => 0)))] := hD
  exact hQ _ _ 32 _ (q_1, q_2) d_Packer_init_32 trivial (hP.sub [0, 1, 2] rfl) (hD.sub [0, 1, 2] (by decide) rfl) hS
abbrev rm_Packer_bucket : Room := { frames := 1, cells := 0, slots := 0, locals := 21 }
set_option maxHeartbeats 1000000 in
set_option maxRecDepth 100000 in
/-- the bucket of four bytes -/
theorem c_Packer_bucket (l : Launch) (g : pc_G) (q : Nat) (r : Nat) (n : Nat) (t : Nat → UInt8) (p0 : Nat) (hp : p0 + 4 ≤ 32768) : pc_Ci (S := Unit) l y_Packer_bucket prog_5_method_5_code 3 .int rm_Packer_bucket g [(q, .inr (1, [.ref r, .int (nI n)])), (r, .inl (g.2.1, 32768, .inl (bA t)))] [.ref q, .int (nI p0)] (fun rv _ => rv = nI (bkt t p0)) (fun _ => [(q, .inr (1, [.ref r, .int (nI n)])), (r, .inl (g.2.1, 32768, .inl (bA t)))]) := by
  refine pc_Ci.of (by decide) (by exact Nat.le_of_ble_eq_true rfl) ?_
  intro p e s m below meth c A Q hx hb hml hown hE hA hQ hP hD ls hl
  have hS : va_S A s.heap s.heap [] := va_S.rf
  have hl : lv_has ls 3 [(0, .ref q), (1, .int (nI p0))] := hl
  refine lv_aload_n hx hb d_Packer_bucket_0 rfl (lv_at hl 0 rfl) ?_
  refine lv_iload_n hx hb d_Packer_bucket_1 rfl (lv_at hl 1 rfl) ?_
  refine pc_i (wc := [(q, .inr (1, [.ref r, .int (nI n)])), (r, .inl (g.2.1, 32768, .inl (bA t)))]) (wr := []) (cells' := 0) (slots' := 0) hP hD hS hA [0, 1] [] rfl rfl (by decide) (by decide) rfl rfl (va_runVN (n := 1) (As := [.int (nI p0)]) (rest := []) (C := R_Bytes) ⟨hx, hb, hml, hown, hE.hts⟩ (c_Bytes_at l g q r n t p0 (by omega) _) ⟨pc_cn hE m_249 m_2 m_246 (by decide +kernel) ⟨by exact Nat.le_of_ble_eq_true rfl, by exact Nat.le_of_ble_eq_true rfl⟩, hE.w m_248, hE.w ms_6⟩ (pc_preV (ci := 1) (q0 := 0) hP hD hE hS hA [0, 1] (by decide) rfl [.int (nI p0)] rfl rfl) rfl rfl hl.1 rfl (lv_room (by exact Nat.le_of_ble_eq_true rfl)) d_Packer_bucket_2 ⟨by exact Nat.le_of_ble_eq_true rfl, by exact Nat.le_of_ble_eq_true rfl⟩) (fun r_2 u_1 H locs hw hP hD hS => ?_)
  obtain rfl := hw
  have hP : va_P g.1 pc_cl [(q, .inr (1, [.ref r, .int (nI n)])), (r, .inl (g.2.1, 32768, .inl (bA t)))] H := hP
  have hD : va_D A [(q, .inr (1, [.ref r, .int (nI n)])), (r, .inl (g.2.1, 32768, .inl (bA t)))] := hD
  refine lv_bipush (v := nI 24) hx hb d_Packer_bucket_5 (by decide) ?_
  refine lv_ishl hx hb d_Packer_bucket_7 ?_
  refine lv_aload_n hx hb d_Packer_bucket_8 rfl (lv_at hl 0 rfl) ?_
  refine lv_iload_n hx hb d_Packer_bucket_9 rfl (lv_at hl 1 rfl) ?_
  refine lv_iconst (v := nI 1) hx hb d_Packer_bucket_10 (by decide) ?_
  refine lv_iadd hx hb d_Packer_bucket_11 ?_
  refine pc_ti (y := nI (p0 + 1)) (nI_add _ _) ?_
  refine pc_i (wc := [(q, .inr (1, [.ref r, .int (nI n)])), (r, .inl (g.2.1, 32768, .inl (bA t)))]) (wr := []) (cells' := 0) (slots' := 0) hP hD hS hA [0, 1] [] rfl rfl (by decide) (by decide) rfl rfl (va_runVN (n := 1) (As := [.int (nI (p0 + 1))]) (rest := [.int ((nI (bN t p0)) <<< ((nI 24) &&& 31))]) (C := R_Bytes) ⟨hx, hb, hml, hown, hE.hts⟩ (c_Bytes_at l g q r n t (p0 + 1) (by omega) _) ⟨pc_cn hE m_249 m_2 m_246 (by decide +kernel) ⟨by exact Nat.le_of_ble_eq_true rfl, by exact Nat.le_of_ble_eq_true rfl⟩, hE.w m_248, hE.w ms_6⟩ (pc_preV (ci := 1) (q0 := 0) hP hD hE hS hA [0, 1] (by decide) rfl [.int (nI (p0 + 1))] rfl rfl) rfl rfl hl.1 rfl (lv_room (by exact Nat.le_of_ble_eq_true rfl)) d_Packer_bucket_12 ⟨by exact Nat.le_of_ble_eq_true rfl, by exact Nat.le_of_ble_eq_true rfl⟩) (fun r_4 u_3 H locs hw hP hD hS => ?_)
  obtain rfl := hw
  have hP : va_P g.1 pc_cl [(q, .inr (1, [.ref r, .int (nI n)])), (r, .inl (g.2.1, 32768, .inl (bA t)))] H := hP
  have hD : va_D A [(q, .inr (1, [.ref r, .int (nI n)])), (r, .inl (g.2.1, 32768, .inl (bA t)))] := hD
  refine lv_bipush (v := nI 16) hx hb d_Packer_bucket_15 (by decide) ?_
  refine lv_ishl hx hb d_Packer_bucket_17 ?_
  refine lv_ior hx hb d_Packer_bucket_18 ?_
  refine lv_aload_n hx hb d_Packer_bucket_19 rfl (lv_at hl 0 rfl) ?_
  refine lv_iload_n hx hb d_Packer_bucket_20 rfl (lv_at hl 1 rfl) ?_
  refine lv_iconst (v := nI 2) hx hb d_Packer_bucket_21 (by decide) ?_
  refine lv_iadd hx hb d_Packer_bucket_22 ?_
  refine pc_ti (y := nI (p0 + 2)) (nI_add _ _) ?_
  refine pc_i (wc := [(q, .inr (1, [.ref r, .int (nI n)])), (r, .inl (g.2.1, 32768, .inl (bA t)))]) (wr := []) (cells' := 0) (slots' := 0) hP hD hS hA [0, 1] [] rfl rfl (by decide) (by decide) rfl rfl (va_runVN (n := 1) (As := [.int (nI (p0 + 2))]) (rest := [.int (((nI (bN t p0)) <<< ((nI 24) &&& 31)) ||| ((nI (bN t (p0 + 1))) <<< ((nI 16) &&& 31)))]) (C := R_Bytes) ⟨hx, hb, hml, hown, hE.hts⟩ (c_Bytes_at l g q r n t (p0 + 2) (by omega) _) ⟨pc_cn hE m_249 m_2 m_246 (by decide +kernel) ⟨by exact Nat.le_of_ble_eq_true rfl, by exact Nat.le_of_ble_eq_true rfl⟩, hE.w m_248, hE.w ms_6⟩ (pc_preV (ci := 1) (q0 := 0) hP hD hE hS hA [0, 1] (by decide) rfl [.int (nI (p0 + 2))] rfl rfl) rfl rfl hl.1 rfl (lv_room (by exact Nat.le_of_ble_eq_true rfl)) d_Packer_bucket_23 ⟨by exact Nat.le_of_ble_eq_true rfl, by exact Nat.le_of_ble_eq_true rfl⟩) (fun r_6 u_5 H locs hw hP hD hS => ?_)
  obtain rfl := hw
  have hP : va_P g.1 pc_cl [(q, .inr (1, [.ref r, .int (nI n)])), (r, .inl (g.2.1, 32768, .inl (bA t)))] H := hP
  have hD : va_D A [(q, .inr (1, [.ref r, .int (nI n)])), (r, .inl (g.2.1, 32768, .inl (bA t)))] := hD
  refine lv_bipush (v := nI 8) hx hb d_Packer_bucket_26 (by decide) ?_
  refine lv_ishl hx hb d_Packer_bucket_28 ?_
  refine lv_ior hx hb d_Packer_bucket_29 ?_
  refine lv_aload_n hx hb d_Packer_bucket_30 rfl (lv_at hl 0 rfl) ?_
  refine lv_iload_n hx hb d_Packer_bucket_31 rfl (lv_at hl 1 rfl) ?_
  refine lv_iconst (v := nI 3) hx hb d_Packer_bucket_32 (by decide) ?_
  refine lv_iadd hx hb d_Packer_bucket_33 ?_
  refine pc_ti (y := nI (p0 + 3)) (nI_add _ _) ?_
  refine pc_i (wc := [(q, .inr (1, [.ref r, .int (nI n)])), (r, .inl (g.2.1, 32768, .inl (bA t)))]) (wr := []) (cells' := 0) (slots' := 0) hP hD hS hA [0, 1] [] rfl rfl (by decide) (by decide) rfl rfl (va_runVN (n := 1) (As := [.int (nI (p0 + 3))]) (rest := [.int ((((nI (bN t p0)) <<< ((nI 24) &&& 31)) ||| ((nI (bN t (p0 + 1))) <<< ((nI 16) &&& 31))) ||| ((nI (bN t (p0 + 2))) <<< ((nI 8) &&& 31)))]) (C := R_Bytes) ⟨hx, hb, hml, hown, hE.hts⟩ (c_Bytes_at l g q r n t (p0 + 3) (by omega) _) ⟨pc_cn hE m_249 m_2 m_246 (by decide +kernel) ⟨by exact Nat.le_of_ble_eq_true rfl, by exact Nat.le_of_ble_eq_true rfl⟩, hE.w m_248, hE.w ms_6⟩ (pc_preV (ci := 1) (q0 := 0) hP hD hE hS hA [0, 1] (by decide) rfl [.int (nI (p0 + 3))] rfl rfl) rfl rfl hl.1 rfl (lv_room (by exact Nat.le_of_ble_eq_true rfl)) d_Packer_bucket_34 ⟨by exact Nat.le_of_ble_eq_true rfl, by exact Nat.le_of_ble_eq_true rfl⟩) (fun r_8 u_7 H locs hw hP hD hS => ?_)
  obtain rfl := hw
  have hP : va_P g.1 pc_cl [(q, .inr (1, [.ref r, .int (nI n)])), (r, .inl (g.2.1, 32768, .inl (bA t)))] H := hP
  have hD : va_D A [(q, .inr (1, [.ref r, .int (nI n)])), (r, .inl (g.2.1, 32768, .inl (bA t)))] := hD
  refine lv_ior hx hb d_Packer_bucket_37 ?_
  refine lv_istore_n (lv' := [(2, .int (((((nI (bN t p0)) <<< ((nI 24) &&& 31)) ||| ((nI (bN t (p0 + 1))) <<< ((nI 16) &&& 31))) ||| ((nI (bN t (p0 + 2))) <<< ((nI 8) &&& 31))) ||| (nI (bN t (p0 + 3))))), (0, .ref q), (1, .int (nI p0))]) hx hb d_Packer_bucket_38 rfl hl (by decide) rfl (fun ls hl => ?_)
  refine lv_iload_n hx hb d_Packer_bucket_39 rfl (lv_at hl 0 rfl) ?_
  refine lv_ldc hx hb hown (hE.w m_250) d_Packer_bucket_40 ?_
  refine lv_imul hx hb d_Packer_bucket_42 ?_
  refine lv_bipush (v := nI 20) hx hb d_Packer_bucket_43 (by decide) ?_
  refine lv_iushr (v := (((((((nI (bN t p0)) <<< ((nI 24) &&& 31)) ||| ((nI (bN t (p0 + 1))) <<< ((nI 16) &&& 31))) ||| ((nI (bN t (p0 + 2))) <<< ((nI 8) &&& 31))) ||| (nI (bN t (p0 + 3)))) * (-1640531535)).toUInt32 >>> ((nI 20).toUInt32 &&& Int32.toUInt32 31)).toInt32) hx hb d_Packer_bucket_45 rfl ?_
  refine pc_ti (y := nI (bkt t p0)) (ushr20 _) ?_
  exact hQ _ _ 46 _ (nI (bkt t p0)) () d_Packer_bucket_46 rfl rfl (hP.sub [0, 1] rfl) (hD.sub [0, 1] (by decide) rfl) hS
abbrev rm_Packer_remember : Room := { frames := 2, cells := 0, slots := 0, locals := 43 }
set_option maxHeartbeats 1000000 in
set_option maxRecDepth 100000 in
/-- a place remembered -/
theorem c_Packer_remember (l : Launch) (g : pc_G) (k : Nat) (ra : Nat) (rb : Nat) (bc : Int32) (bd : Int32) (fa : Nat → Int32) (fb : Nat → Int32) (q : Nat) (r : Nat) (n : Nat) (t : Nat → UInt8) (p0 : Nat) (hn : n ≤ 32768) (hp : p0 < n) (hI : chOK t n p0 fa fb) : pc_Cv (S := (Nat → Int32) × (Nat → Int32)) l y_Packer_remember prog_5_method_4_code 4 rm_Packer_remember g [(k, .inr (3, [.ref ra, .ref rb, .int bc, .int bd])), (ra, .inl (g.2.2.1, 4096, .inl fa)), (rb, .inl (g.2.2.1, 4096, .inl fb)), (q, .inr (1, [.ref r, .int (nI n)])), (r, .inl (g.2.1, 32768, .inl (bA t)))] [.ref k, .ref q, .int (nI p0)] (fun u => chOK t n (p0 + 1) u.1 u.2) (fun u => [(k, .inr (3, [.ref ra, .ref rb, .int bc, .int bd])), (ra, .inl (g.2.2.1, 4096, .inl u.1)), (rb, .inl (g.2.2.1, 4096, .inl u.2)), (q, .inr (1, [.ref r, .int (nI n)])), (r, .inl (g.2.1, 32768, .inl (bA t)))]) := by
  refine pc_Cv.of (by decide) (by exact Nat.le_of_ble_eq_true rfl) ?_
  intro p e s m below meth c A Q hx hb hml hown hE hA hnm hQ hP hD ls hl
  have hS : va_S A s.heap s.heap [] := va_S.rf
  have hl : lv_has ls 4 [(0, .ref k), (1, .ref q), (2, .int (nI p0))] := hl
  refine lv_aload_n hx hb d_Packer_remember_0 rfl (lv_at hl 1 rfl) ?_
  refine va_getN (ci := 1) (C := R_Bytes) (T := F_Bytes) (N := 2) hx hb hE.hts in_Bytes hown hE.2.1 hP 3 rfl rfl 1 (by decide) (hE.w m_39) (fun _ h9 => h9) rfl d_Packer_remember_1 ?_
  refine lv_iload_n hx hb d_Packer_remember_4 rfl (lv_at hl 2 rfl) ?_
  refine lv_isub hx hb d_Packer_remember_5 ?_
  refine pc_ti (y := nI (n - p0)) (pk_sub (by omega)) ?_
  refine lv_iconst (v := nI 4) hx hb d_Packer_remember_6 (by decide) ?_
  refine pc_jlt (tgt := 39) hx hb d_Packer_remember_7 (by decide) (by omega) (by omega) (fun h_1 => ?_) (fun h_1 => ?_)
  · skip
    exact hQ _ _ 39 _ (fa, fb) d_Packer_remember_39 (by first | exact chOK_put hI (by omega) | exact chOK_skip hI (by omega)) (hP.sub [0, 1, 2, 3, 4] rfl) (hD.sub [0, 1, 2, 3, 4] (by decide) rfl) hS
  · skip
    refine lv_aload_n hx hb d_Packer_remember_10 rfl (lv_at hl 1 rfl) ?_
    refine lv_iload_n hx hb d_Packer_remember_11 rfl (lv_at hl 2 rfl) ?_
    refine pc_i (wc := [(q, .inr (1, [.ref r, .int (nI n)])), (r, .inl (g.2.1, 32768, .inl (bA t)))]) (wr := [(k, .inr (3, [.ref ra, .ref rb, .int bc, .int bd])), (ra, .inl (g.2.2.1, 4096, .inl fa)), (rb, .inl (g.2.2.1, 4096, .inl fb))]) (cells' := 0) (slots' := 0) hP hD hS hA [3, 4] [0, 1, 2] rfl rfl (by decide) (by decide) rfl rfl (va_runS (n := 2) (As := [.ref q, .int (nI p0)]) (rest := []) ⟨hx, hb, hml, hown, hE.hts⟩ (c_Packer_bucket l g q r n t p0 (by omega) _) ⟨pc_cb hE m_245 m_3 m_243 (by decide +kernel) ⟨by exact Nat.le_of_ble_eq_true rfl, by exact Nat.le_of_ble_eq_true rfl⟩, hE.w m_244⟩ (pc_pre hP hD hE hS hA [3, 4] (by decide) rfl [.ref q, .int (nI p0)]) rfl rfl hl.1 rfl (lv_room (by exact Nat.le_of_ble_eq_true rfl)) d_Packer_remember_12 ⟨by exact Nat.le_of_ble_eq_true rfl, by exact Nat.le_of_ble_eq_true rfl⟩) (fun r_3 u_2 H locs hw hP hD hS => ?_)
    obtain rfl := hw
    have hP : va_P g.1 pc_cl [(k, .inr (3, [.ref ra, .ref rb, .int bc, .int bd])), (ra, .inl (g.2.2.1, 4096, .inl fa)), (rb, .inl (g.2.2.1, 4096, .inl fb)), (q, .inr (1, [.ref r, .int (nI n)])), (r, .inl (g.2.1, 32768, .inl (bA t)))] H := hP
    have hD : va_D A [(k, .inr (3, [.ref ra, .ref rb, .int bc, .int bd])), (ra, .inl (g.2.2.1, 4096, .inl fa)), (rb, .inl (g.2.2.1, 4096, .inl fb)), (q, .inr (1, [.ref r, .int (nI n)])), (r, .inl (g.2.1, 32768, .inl (bA t)))] := hD
    refine lv_istore_n (lv' := [(3, .int (nI (bkt t p0))), (0, .ref k), (1, .ref q), (2, .int (nI p0))]) hx hb d_Packer_remember_15 rfl hl (by decide) rfl (fun ls hl => ?_)
    have hbk := bkt_lt t p0
    refine lv_aload_n hx hb d_Packer_remember_16 rfl (lv_at hl 1 rfl) ?_
    refine va_get (ci := 3) (C := R_Packer) (T := F_Packer) (N := 4) hx hb hE.hts in_Packer hown hE.2.1 hP 0 rfl rfl 1 (by decide) (hE.w m_54) (fun _ h9 => h9) rfl d_Packer_remember_17 ?_
    refine lv_iload_n hx hb d_Packer_remember_20 rfl (lv_at hl 3 rfl) ?_
    refine lv_sipush (v := nI 4095) hx hb d_Packer_remember_21 (by decide) ?_
    refine lv_iand hx hb d_Packer_remember_24 ?_
    refine pc_ti (y := nI (p0 % 4096)) (pk_andN (by omega) 12 (by decide)) ?_
    refine lv_aload_n hx hb d_Packer_remember_25 rfl (lv_at hl 1 rfl) ?_
    refine va_get (ci := 3) (C := R_Packer) (T := F_Packer) (N := 4) hx hb hE.hts in_Packer hown hE.2.1 hP 0 rfl rfl 0 (by decide) (hE.w m_53) (fun _ h9 => h9) rfl d_Packer_remember_26 ?_
    refine lv_iload_n hx hb d_Packer_remember_29 rfl (lv_at hl 0 rfl) ?_
    refine pc_iald hx hb hE.2.1 hP 1 1 rfl rfl (by omega) (by omega) d_Packer_remember_30 ?_
    refine pc_iast hx hb hE.2.1 hP hD hS 2 1 rfl rfl (by omega) (by omega) d_Packer_remember_31 (fun H locs hP hD hS => ?_)
    have hP : va_P g.1 pc_cl [(k, .inr (3, [.ref ra, .ref rb, .int bc, .int bd])), (ra, .inl (g.2.2.1, 4096, .inl fa)), (rb, .inl (g.2.2.1, 4096, .inl (upd fb (p0 % 4096) (fa (bkt t p0))))), (q, .inr (1, [.ref r, .int (nI n)])), (r, .inl (g.2.1, 32768, .inl (bA t)))] H := hP
    have hD : va_D A [(k, .inr (3, [.ref ra, .ref rb, .int bc, .int bd])), (ra, .inl (g.2.2.1, 4096, .inl fa)), (rb, .inl (g.2.2.1, 4096, .inl (upd fb (p0 % 4096) (fa (bkt t p0))))), (q, .inr (1, [.ref r, .int (nI n)])), (r, .inl (g.2.1, 32768, .inl (bA t)))] := hD
    refine lv_aload_n hx hb d_Packer_remember_32 rfl (lv_at hl 1 rfl) ?_
    refine va_get (ci := 3) (C := R_Packer) (T := F_Packer) (N := 4) hx hb hE.hts in_Packer hown hE.2.1 hP 0 rfl rfl 0 (by decide) (hE.w m_53) (fun _ h9 => h9) rfl d_Packer_remember_33 ?_
    refine lv_iload_n hx hb d_Packer_remember_36 rfl (lv_at hl 0 rfl) ?_
    refine lv_iload_n hx hb d_Packer_remember_37 rfl (lv_at hl 3 rfl) ?_
    refine pc_iast hx hb hE.2.1 hP hD hS 1 1 rfl rfl (by omega) (by omega) d_Packer_remember_38 (fun H locs hP hD hS => ?_)
    have hP : va_P g.1 pc_cl [(k, .inr (3, [.ref ra, .ref rb, .int bc, .int bd])), (ra, .inl (g.2.2.1, 4096, .inl (upd fa (bkt t p0) (nI p0)))), (rb, .inl (g.2.2.1, 4096, .inl (upd fb (p0 % 4096) (fa (bkt t p0))))), (q, .inr (1, [.ref r, .int (nI n)])), (r, .inl (g.2.1, 32768, .inl (bA t)))] H := hP
    have hD : va_D A [(k, .inr (3, [.ref ra, .ref rb, .int bc, .int bd])), (ra, .inl (g.2.2.1, 4096, .inl (upd fa (bkt t p0) (nI p0)))), (rb, .inl (g.2.2.1, 4096, .inl (upd fb (p0 % 4096) (fa (bkt t p0))))), (q, .inr (1, [.ref r, .int (nI n)])), (r, .inl (g.2.1, 32768, .inl (bA t)))] := hD
    exact hQ _ _ 39 _ (upd fa (bkt t p0) (nI p0), upd fb (p0 % 4096) (fa (bkt t p0))) d_Packer_remember_39 (by first | exact chOK_put hI (by omega) | exact chOK_skip hI (by omega)) (hP.sub [0, 1, 2, 3, 4] rfl) (hD.sub [0, 1, 2, 3, 4] (by decide) rfl) hS
abbrev rm_Packer_writePlain : Room := { frames := 2, cells := 0, slots := 0, locals := 63 }
set_option maxHeartbeats 1000000 in
set_option maxRecDepth 100000 in
/-- a plain piece written, if it fits -/
theorem c_Packer_writePlain (l : Launch) (g : pc_G) (q : Nat) (r : Nat) (n : Nat) (t : Nat → UInt8) (q2 : Nat) (r2 : Nat) (n2 : Nat) (t2 : Nat → UInt8) (a : Nat) (b : Nat) (hn : n ≤ 32768) (hn2 : n2 ≤ 32768) (hab : a ≤ b) (hbn : b ≤ n) : pc_Ci (S := Nat × (Nat → UInt8)) l y_Packer_writePlain prog_5_method_6_code 5 .boolean rm_Packer_writePlain g [(q, .inr (1, [.ref r, .int (nI n)])), (r, .inl (g.2.1, 32768, .inl (bA t))), (q2, .inr (1, [.ref r2, .int (nI n2)])), (r2, .inl (g.2.1, 32768, .inl (bA t2)))] [.ref q, .int (nI a), .int (nI b), .ref q2] (fun rv u => ((rv = 1 ∧ bl u.2 u.1 = bl t2 n2 ++ plL (bl t n) a b ∧ u.1 ≤ 32768) ∨ (rv = 0 ∧ 32768 < n2 + (plL (bl t n) a b).length))) (fun u => [(q, .inr (1, [.ref r, .int (nI n)])), (r, .inl (g.2.1, 32768, .inl (bA t))), (q2, .inr (1, [.ref r2, .int (nI u.1)])), (r2, .inl (g.2.1, 32768, .inl (bA u.2)))]) := by
  refine pc_Ci.of (by decide) (by exact Nat.le_of_ble_eq_true rfl) ?_
  intro p e s m below meth c A Q hx hb hml hown hE hA hQ hP hD ls hl
  have hS : va_S A s.heap s.heap [] := va_S.rf
  have hl : lv_has ls 5 [(0, .ref q), (1, .int (nI a)), (2, .int (nI b)), (3, .ref q2)] := hl
  have hz := vsz_in (2 * (b - a))
  refine lv_iload_n hx hb d_Packer_writePlain_0 rfl (lv_at hl 2 rfl) ?_
  refine lv_iload_n hx hb d_Packer_writePlain_1 rfl (lv_at hl 1 rfl) ?_
  refine lv_isub hx hb d_Packer_writePlain_2 ?_
  refine pc_ti (y := nI (b - a)) (pk_sub (by omega)) ?_
  refine lv_istore (lv' := [(4, .int (nI (b - a))), (0, .ref q), (1, .int (nI a)), (2, .int (nI b)), (3, .ref q2)]) hx hb d_Packer_writePlain_3 hl (by decide) rfl (fun ls hl => ?_)
  refine lv_iload hx hb d_Packer_writePlain_5 (lv_at hl 0 rfl) ?_
  refine pc_zgt (tgt := 12) hx hb d_Packer_writePlain_7 (by decide) (by omega) (fun h_1 => ?_) (fun h_1 => ?_)
  · skip
    refine lv_aload_n hx hb d_Packer_writePlain_12 rfl (lv_at hl 4 rfl) ?_
    refine lv_iconst (v := nI 2) hx hb d_Packer_writePlain_13 (by decide) ?_
    refine lv_iload hx hb d_Packer_writePlain_14 (lv_at hl 0 rfl) ?_
    refine lv_imul hx hb d_Packer_writePlain_16 ?_
    refine pc_ti (y := nI (2 * (b - a))) (pk_mul _ _) ?_
    refine pc_i (wc := []) (wr := [(q, .inr (1, [.ref r, .int (nI n)])), (r, .inl (g.2.1, 32768, .inl (bA t))), (q2, .inr (1, [.ref r2, .int (nI n2)])), (r2, .inl (g.2.1, 32768, .inl (bA t2)))]) (cells' := 0) (slots' := 0) hP hD hS hA [] [0, 1, 2, 3] rfl rfl (by decide) (by decide) rfl rfl (va_runSN (n := 1) (As := [.int (nI (2 * (b - a)))]) (rest := [.ref q2]) ⟨hx, hb, hml, hown, hE.hts⟩ (c_Varints_size l g (2 * (b - a)) (by omega) _) ⟨pc_cn hE m_231 m_12 m_258 (by decide +kernel) ⟨by exact Nat.le_of_ble_eq_true rfl, by exact Nat.le_of_ble_eq_true rfl⟩, hE.w m_230, trivial⟩ (pc_pre hP hD hE hS hA [] (by decide) rfl [.int (nI (2 * (b - a)))]) rfl rfl hl.1 rfl (lv_room (by exact Nat.le_of_ble_eq_true rfl)) d_Packer_writePlain_17 ⟨by exact Nat.le_of_ble_eq_true rfl, by exact Nat.le_of_ble_eq_true rfl⟩) (fun r_3 u_2 H locs hw hP hD hS => ?_)
    obtain rfl := hw
    have hP : va_P g.1 pc_cl [(q, .inr (1, [.ref r, .int (nI n)])), (r, .inl (g.2.1, 32768, .inl (bA t))), (q2, .inr (1, [.ref r2, .int (nI n2)])), (r2, .inl (g.2.1, 32768, .inl (bA t2)))] H := hP
    have hD : va_D A [(q, .inr (1, [.ref r, .int (nI n)])), (r, .inl (g.2.1, 32768, .inl (bA t))), (q2, .inr (1, [.ref r2, .int (nI n2)])), (r2, .inl (g.2.1, 32768, .inl (bA t2)))] := hD
    refine lv_iload hx hb d_Packer_writePlain_20 (lv_at hl 0 rfl) ?_
    refine lv_iadd hx hb d_Packer_writePlain_22 ?_
    refine pc_ti (y := nI (vsz (2 * (b - a)) + (b - a))) (nI_add _ _) ?_
    refine pc_i (wc := [(q2, .inr (1, [.ref r2, .int (nI n2)])), (r2, .inl (g.2.1, 32768, .inl (bA t2)))]) (wr := [(q, .inr (1, [.ref r, .int (nI n)])), (r, .inl (g.2.1, 32768, .inl (bA t)))]) (cells' := 0) (slots' := 0) hP hD hS hA [2, 3] [0, 1] rfl rfl (by decide) (by decide) rfl rfl (va_runVN (n := 1) (As := [.int (nI (vsz (2 * (b - a)) + (b - a)))]) (rest := []) (C := R_Bytes) ⟨hx, hb, hml, hown, hE.hts⟩ (c_Bytes_hasRoomFor l g q2 r2 n2 t2 (vsz (2 * (b - a)) + (b - a)) (by omega) (by omega) _) ⟨pc_cn hE m_117 m_2 m_259 (by decide +kernel) ⟨by exact Nat.le_of_ble_eq_true rfl, by exact Nat.le_of_ble_eq_true rfl⟩, hE.w m_116, hE.w ms_0⟩ (pc_preV (ci := 1) (q0 := 2) hP hD hE hS hA [2, 3] (by decide) rfl [.int (nI (vsz (2 * (b - a)) + (b - a)))] rfl rfl) rfl rfl hl.1 rfl (lv_room (by exact Nat.le_of_ble_eq_true rfl)) d_Packer_writePlain_23 ⟨by exact Nat.le_of_ble_eq_true rfl, by exact Nat.le_of_ble_eq_true rfl⟩) (fun r_5 u_4 H locs hw hP hD hS => ?_)
    obtain rfl := hw
    have hP : va_P g.1 pc_cl [(q, .inr (1, [.ref r, .int (nI n)])), (r, .inl (g.2.1, 32768, .inl (bA t))), (q2, .inr (1, [.ref r2, .int (nI n2)])), (r2, .inl (g.2.1, 32768, .inl (bA t2)))] H := hP
    have hD : va_D A [(q, .inr (1, [.ref r, .int (nI n)])), (r, .inl (g.2.1, 32768, .inl (bA t))), (q2, .inr (1, [.ref r2, .int (nI n2)])), (r2, .inl (g.2.1, 32768, .inl (bA t2)))] := hD
    refine pc_bne (tgt := 31) hx hb d_Packer_writePlain_26 (by decide) (fun h_6 => ?_) (fun h_6 => ?_)
    · skip
      refine lv_iconst (v := nI 2) hx hb d_Packer_writePlain_31 (by decide) ?_
      refine lv_iload hx hb d_Packer_writePlain_32 (lv_at hl 0 rfl) ?_
      refine lv_imul hx hb d_Packer_writePlain_34 ?_
      refine pc_ti (y := nI (2 * (b - a))) (pk_mul _ _) ?_
      refine lv_aload_n hx hb d_Packer_writePlain_35 rfl (lv_at hl 4 rfl) ?_
      refine pc_v (wc := [(q2, .inr (1, [.ref r2, .int (nI n2)])), (r2, .inl (g.2.1, 32768, .inl (bA t2)))]) (wr := [(q, .inr (1, [.ref r, .int (nI n)])), (r, .inl (g.2.1, 32768, .inl (bA t)))]) (cells' := 0) (slots' := 0) hP hD hS hA [2, 3] [0, 1] rfl rfl (by decide) (by decide) rfl rfl (va_runSN (n := 2) (As := [.int (nI (2 * (b - a))), .ref q2]) (rest := []) ⟨hx, hb, hml, hown, hE.hts⟩ (c_Varints_write l g (2 * (b - a)) q2 r2 n2 t2 (by omega) (by omega) _) ⟨pc_cn hE m_228 m_12 m_226 (by decide +kernel) ⟨by exact Nat.le_of_ble_eq_true rfl, by exact Nat.le_of_ble_eq_true rfl⟩, hE.w m_227, trivial⟩ (pc_pre hP hD hE hS hA [2, 3] (by decide) rfl [.int (nI (2 * (b - a))), .ref q2]) rfl rfl hl.1 rfl (lv_room (by exact Nat.le_of_ble_eq_true rfl)) d_Packer_writePlain_36 ⟨by exact Nat.le_of_ble_eq_true rfl, by exact Nat.le_of_ble_eq_true rfl⟩) (fun u_7 H locs hw hP hD hS => ?_)
      obtain ⟨n5, t5⟩ := u_7
      obtain ⟨hn5, ht5⟩ := hw
      have hn5 : n5 = n2 + vsz (2 * (b - a)) := hn5
      have ht5 : bl t5 n5 = bl t2 n2 ++ vL (2 * (b - a)) := ht5
      have hP : va_P g.1 pc_cl [(q, .inr (1, [.ref r, .int (nI n)])), (r, .inl (g.2.1, 32768, .inl (bA t))), (q2, .inr (1, [.ref r2, .int (nI n5)])), (r2, .inl (g.2.1, 32768, .inl (bA t5)))] H := hP
      have hD : va_D A [(q, .inr (1, [.ref r, .int (nI n)])), (r, .inl (g.2.1, 32768, .inl (bA t))), (q2, .inr (1, [.ref r2, .int (nI n5)])), (r2, .inl (g.2.1, 32768, .inl (bA t5)))] := hD
      refine lv_aload_n hx hb d_Packer_writePlain_39 rfl (lv_at hl 4 rfl) ?_
      refine lv_aload_n hx hb d_Packer_writePlain_40 rfl (lv_at hl 1 rfl) ?_
      refine lv_iload_n hx hb d_Packer_writePlain_41 rfl (lv_at hl 2 rfl) ?_
      refine lv_iload hx hb d_Packer_writePlain_42 (lv_at hl 0 rfl) ?_
      refine pc_v (wc := [(q2, .inr (1, [.ref r2, .int (nI n5)])), (r2, .inl (g.2.1, 32768, .inl (bA t5))), (q, .inr (1, [.ref r, .int (nI n)])), (r, .inl (g.2.1, 32768, .inl (bA t)))]) (wr := []) (cells' := 0) (slots' := 0) hP hD hS hA [2, 3, 0, 1] [] rfl rfl (by decide) (by decide) rfl rfl (va_runVN (n := 3) (As := [.ref q, .int (nI a), .int (nI (b - a))]) (rest := []) (C := R_Bytes) ⟨hx, hb, hml, hown, hE.hts⟩ (c_Bytes_addRun l g q2 r2 n5 t5 q r n t a (b - a) (by omega) (by omega) _) ⟨pc_cn hE m_263 m_2 m_260 (by decide +kernel) ⟨by exact Nat.le_of_ble_eq_true rfl, by exact Nat.le_of_ble_eq_true rfl⟩, hE.w m_262, hE.w ms_8⟩ (pc_preV (ci := 1) (q0 := 2) hP hD hE hS hA [2, 3, 0, 1] (by decide) rfl [.ref q, .int (nI a), .int (nI (b - a))] rfl rfl) rfl rfl hl.1 rfl (lv_room (by exact Nat.le_of_ble_eq_true rfl)) d_Packer_writePlain_44 ⟨by exact Nat.le_of_ble_eq_true rfl, by exact Nat.le_of_ble_eq_true rfl⟩) (fun u_9 H locs hw hP hD hS => ?_)
      have hP : va_P g.1 pc_cl [(q2, .inr (1, [.ref r2, .int (nI (n5 + (b - a)))])), (r2, .inl (g.2.1, 32768, .inl (bA (va_cpy t t5 a n5 (b - a))))), (q, .inr (1, [.ref r, .int (nI n)])), (r, .inl (g.2.1, 32768, .inl (bA t)))] H := hP
      have hD : va_D A [(q2, .inr (1, [.ref r2, .int (nI (n5 + (b - a)))])), (r2, .inl (g.2.1, 32768, .inl (bA (va_cpy t t5 a n5 (b - a))))), (q, .inr (1, [.ref r, .int (nI n)])), (r, .inl (g.2.1, 32768, .inl (bA t)))] := hD
      refine lv_iconst (v := nI 1) hx hb d_Packer_writePlain_47 (by decide) ?_
      exact hQ _ _ 48 _ (nI 1) (n5 + (b - a), va_cpy t t5 a n5 (b - a)) d_Packer_writePlain_48 rfl (Or.inl ⟨rfl, by rw [bl_cpy (n := n) (by omega), ht5]; unfold plL; rw [if_neg (by omega), List.append_assoc], show n5 + (b - a) ≤ 32768 by omega⟩) (hP.sub [2, 3, 0, 1] rfl) (hD.sub [2, 3, 0, 1] (by decide) rfl) hS
    · skip
      refine lv_iconst (v := nI 0) hx hb d_Packer_writePlain_29 (by decide) ?_
      exact hQ _ _ 30 _ (nI 0) (n2, t2) d_Packer_writePlain_30 rfl (Or.inr ⟨rfl, by unfold plL; rw [if_neg (by omega), List.length_append, vL_len, List.length_take, List.length_drop, bl_len]; omega⟩) (hP.sub [0, 1, 2, 3] rfl) (hD.sub [0, 1, 2, 3] (by decide) rfl) hS
  · skip
    refine lv_iconst (v := nI 1) hx hb d_Packer_writePlain_10 (by decide) ?_
    exact hQ _ _ 11 _ (nI 1) (n2, t2) d_Packer_writePlain_11 rfl (Or.inl ⟨rfl, by unfold plL; rw [if_pos (by omega), List.append_nil], show n2 ≤ 32768 by omega⟩) (hP.sub [0, 1, 2, 3] rfl) (hD.sub [0, 1, 2, 3] (by decide) rfl) hS
abbrev rm_Packer_writePointer : Room := { frames := 2, cells := 0, slots := 0, locals := 45 }
set_option maxHeartbeats 1000000 in
set_option maxRecDepth 100000 in
/-- a pointer written, if it fits -/
theorem c_Packer_writePointer (l : Launch) (g : pc_G) (k : Nat) (ra : Nat) (rb : Nat) (bc : Nat) (bd : Nat) (q2 : Nat) (r2 : Nat) (n2 : Nat) (t2 : Nat → UInt8) (hc : bc ≤ 64) (hd : bd ≤ 4095) (hn2 : n2 ≤ 32768) : pc_Ci (S := Nat × (Nat → UInt8)) l y_Packer_writePointer prog_5_method_7_code 3 .boolean rm_Packer_writePointer g [(k, .inr (3, [.ref ra, .ref rb, .int (nI bc), .int (nI bd)])), (q2, .inr (1, [.ref r2, .int (nI n2)])), (r2, .inl (g.2.1, 32768, .inl (bA t2)))] [.ref k, .ref q2] (fun rv u => ((rv = 1 ∧ bl u.2 u.1 = bl t2 n2 ++ ptL bc bd ∧ u.1 ≤ 32768) ∨ (rv = 0 ∧ 32768 < n2 + (ptL bc bd).length))) (fun u => [(k, .inr (3, [.ref ra, .ref rb, .int (nI bc), .int (nI bd)])), (q2, .inr (1, [.ref r2, .int (nI u.1)])), (r2, .inl (g.2.1, 32768, .inl (bA u.2)))]) := by
  refine pc_Ci.of (by decide) (by exact Nat.le_of_ble_eq_true rfl) ?_
  intro p e s m below meth c A Q hx hb hml hown hE hA hQ hP hD ls hl
  have hS : va_S A s.heap s.heap [] := va_S.rf
  have hl : lv_has ls 3 [(0, .ref k), (1, .ref q2)] := hl
  have hz := vsz_in (2 * bc + 1)
  have hz2 := vsz_in bd
  refine lv_iconst (v := nI 2) hx hb d_Packer_writePointer_0 (by decide) ?_
  refine lv_aload_n hx hb d_Packer_writePointer_1 rfl (lv_at hl 0 rfl) ?_
  refine va_get (ci := 3) (C := R_Packer) (T := F_Packer) (N := 4) hx hb hE.hts in_Packer hown hE.2.1 hP 0 rfl rfl 2 (by decide) (hE.w m_55) (fun _ h9 => h9) rfl d_Packer_writePointer_2 ?_
  refine lv_imul hx hb d_Packer_writePointer_5 ?_
  refine pc_ti (y := nI (2 * bc)) (pk_mul _ _) ?_
  refine lv_iconst (v := nI 1) hx hb d_Packer_writePointer_6 (by decide) ?_
  refine lv_iadd hx hb d_Packer_writePointer_7 ?_
  refine pc_ti (y := nI (2 * bc + 1)) (nI_add _ _) ?_
  refine lv_istore_n (lv' := [(2, .int (nI (2 * bc + 1))), (0, .ref k), (1, .ref q2)]) hx hb d_Packer_writePointer_8 rfl hl (by decide) rfl (fun ls hl => ?_)
  refine lv_aload_n hx hb d_Packer_writePointer_9 rfl (lv_at hl 2 rfl) ?_
  refine lv_iload_n hx hb d_Packer_writePointer_10 rfl (lv_at hl 0 rfl) ?_
  refine pc_i (wc := []) (wr := [(k, .inr (3, [.ref ra, .ref rb, .int (nI bc), .int (nI bd)])), (q2, .inr (1, [.ref r2, .int (nI n2)])), (r2, .inl (g.2.1, 32768, .inl (bA t2)))]) (cells' := 0) (slots' := 0) hP hD hS hA [] [0, 1, 2] rfl rfl (by decide) (by decide) rfl rfl (va_runSN (n := 1) (As := [.int (nI (2 * bc + 1))]) (rest := [.ref q2]) ⟨hx, hb, hml, hown, hE.hts⟩ (c_Varints_size l g (2 * bc + 1) (by omega) _) ⟨pc_cn hE m_231 m_12 m_258 (by decide +kernel) ⟨by exact Nat.le_of_ble_eq_true rfl, by exact Nat.le_of_ble_eq_true rfl⟩, hE.w m_230, trivial⟩ (pc_pre hP hD hE hS hA [] (by decide) rfl [.int (nI (2 * bc + 1))]) rfl rfl hl.1 rfl (lv_room (by exact Nat.le_of_ble_eq_true rfl)) d_Packer_writePointer_11 ⟨by exact Nat.le_of_ble_eq_true rfl, by exact Nat.le_of_ble_eq_true rfl⟩) (fun r_2 u_1 H locs hw hP hD hS => ?_)
  obtain rfl := hw
  have hP : va_P g.1 pc_cl [(k, .inr (3, [.ref ra, .ref rb, .int (nI bc), .int (nI bd)])), (q2, .inr (1, [.ref r2, .int (nI n2)])), (r2, .inl (g.2.1, 32768, .inl (bA t2)))] H := hP
  have hD : va_D A [(k, .inr (3, [.ref ra, .ref rb, .int (nI bc), .int (nI bd)])), (q2, .inr (1, [.ref r2, .int (nI n2)])), (r2, .inl (g.2.1, 32768, .inl (bA t2)))] := hD
  refine lv_aload_n hx hb d_Packer_writePointer_14 rfl (lv_at hl 1 rfl) ?_
  refine va_get (ci := 3) (C := R_Packer) (T := F_Packer) (N := 4) hx hb hE.hts in_Packer hown hE.2.1 hP 0 rfl rfl 3 (by decide) (hE.w m_56) (fun _ h9 => h9) rfl d_Packer_writePointer_15 ?_
  refine pc_i (wc := []) (wr := [(k, .inr (3, [.ref ra, .ref rb, .int (nI bc), .int (nI bd)])), (q2, .inr (1, [.ref r2, .int (nI n2)])), (r2, .inl (g.2.1, 32768, .inl (bA t2)))]) (cells' := 0) (slots' := 0) hP hD hS hA [] [0, 1, 2] rfl rfl (by decide) (by decide) rfl rfl (va_runSN (n := 1) (As := [.int (nI bd)]) (rest := [.int (nI (vsz (2 * bc + 1))), .ref q2]) ⟨hx, hb, hml, hown, hE.hts⟩ (c_Varints_size l g bd (by omega) _) ⟨pc_cn hE m_231 m_12 m_258 (by decide +kernel) ⟨by exact Nat.le_of_ble_eq_true rfl, by exact Nat.le_of_ble_eq_true rfl⟩, hE.w m_230, trivial⟩ (pc_pre hP hD hE hS hA [] (by decide) rfl [.int (nI bd)]) rfl rfl hl.1 rfl (lv_room (by exact Nat.le_of_ble_eq_true rfl)) d_Packer_writePointer_18 ⟨by exact Nat.le_of_ble_eq_true rfl, by exact Nat.le_of_ble_eq_true rfl⟩) (fun r_4 u_3 H locs hw hP hD hS => ?_)
  obtain rfl := hw
  have hP : va_P g.1 pc_cl [(k, .inr (3, [.ref ra, .ref rb, .int (nI bc), .int (nI bd)])), (q2, .inr (1, [.ref r2, .int (nI n2)])), (r2, .inl (g.2.1, 32768, .inl (bA t2)))] H := hP
  have hD : va_D A [(k, .inr (3, [.ref ra, .ref rb, .int (nI bc), .int (nI bd)])), (q2, .inr (1, [.ref r2, .int (nI n2)])), (r2, .inl (g.2.1, 32768, .inl (bA t2)))] := hD
  refine lv_iadd hx hb d_Packer_writePointer_21 ?_
  refine pc_ti (y := nI (vsz (2 * bc + 1) + (vsz bd))) (nI_add _ _) ?_
  refine pc_i (wc := [(q2, .inr (1, [.ref r2, .int (nI n2)])), (r2, .inl (g.2.1, 32768, .inl (bA t2)))]) (wr := [(k, .inr (3, [.ref ra, .ref rb, .int (nI bc), .int (nI bd)]))]) (cells' := 0) (slots' := 0) hP hD hS hA [1, 2] [0] rfl rfl (by decide) (by decide) rfl rfl (va_runVN (n := 1) (As := [.int (nI (vsz (2 * bc + 1) + (vsz bd)))]) (rest := []) (C := R_Bytes) ⟨hx, hb, hml, hown, hE.hts⟩ (c_Bytes_hasRoomFor l g q2 r2 n2 t2 (vsz (2 * bc + 1) + (vsz bd)) (by omega) (by omega) _) ⟨pc_cn hE m_117 m_2 m_259 (by decide +kernel) ⟨by exact Nat.le_of_ble_eq_true rfl, by exact Nat.le_of_ble_eq_true rfl⟩, hE.w m_116, hE.w ms_0⟩ (pc_preV (ci := 1) (q0 := 1) hP hD hE hS hA [1, 2] (by decide) rfl [.int (nI (vsz (2 * bc + 1) + (vsz bd)))] rfl rfl) rfl rfl hl.1 rfl (lv_room (by exact Nat.le_of_ble_eq_true rfl)) d_Packer_writePointer_22 ⟨by exact Nat.le_of_ble_eq_true rfl, by exact Nat.le_of_ble_eq_true rfl⟩) (fun r_6 u_5 H locs hw hP hD hS => ?_)
  obtain rfl := hw
  have hP : va_P g.1 pc_cl [(k, .inr (3, [.ref ra, .ref rb, .int (nI bc), .int (nI bd)])), (q2, .inr (1, [.ref r2, .int (nI n2)])), (r2, .inl (g.2.1, 32768, .inl (bA t2)))] H := hP
  have hD : va_D A [(k, .inr (3, [.ref ra, .ref rb, .int (nI bc), .int (nI bd)])), (q2, .inr (1, [.ref r2, .int (nI n2)])), (r2, .inl (g.2.1, 32768, .inl (bA t2)))] := hD
  refine pc_bne (tgt := 30) hx hb d_Packer_writePointer_25 (by decide) (fun h_7 => ?_) (fun h_7 => ?_)
  · skip
    refine lv_iload_n hx hb d_Packer_writePointer_30 rfl (lv_at hl 0 rfl) ?_
    refine lv_aload_n hx hb d_Packer_writePointer_31 rfl (lv_at hl 2 rfl) ?_
    refine pc_v (wc := [(q2, .inr (1, [.ref r2, .int (nI n2)])), (r2, .inl (g.2.1, 32768, .inl (bA t2)))]) (wr := [(k, .inr (3, [.ref ra, .ref rb, .int (nI bc), .int (nI bd)]))]) (cells' := 0) (slots' := 0) hP hD hS hA [1, 2] [0] rfl rfl (by decide) (by decide) rfl rfl (va_runSN (n := 2) (As := [.int (nI (2 * bc + 1)), .ref q2]) (rest := []) ⟨hx, hb, hml, hown, hE.hts⟩ (c_Varints_write l g (2 * bc + 1) q2 r2 n2 t2 (by omega) (by omega) _) ⟨pc_cn hE m_228 m_12 m_226 (by decide +kernel) ⟨by exact Nat.le_of_ble_eq_true rfl, by exact Nat.le_of_ble_eq_true rfl⟩, hE.w m_227, trivial⟩ (pc_pre hP hD hE hS hA [1, 2] (by decide) rfl [.int (nI (2 * bc + 1)), .ref q2]) rfl rfl hl.1 rfl (lv_room (by exact Nat.le_of_ble_eq_true rfl)) d_Packer_writePointer_32 ⟨by exact Nat.le_of_ble_eq_true rfl, by exact Nat.le_of_ble_eq_true rfl⟩) (fun u_8 H locs hw hP hD hS => ?_)
    obtain ⟨n5, t5⟩ := u_8
    obtain ⟨hn5, ht5⟩ := hw
    have hn5 : n5 = n2 + vsz (2 * bc + 1) := hn5
    have ht5 : bl t5 n5 = bl t2 n2 ++ vL (2 * bc + 1) := ht5
    have hP : va_P g.1 pc_cl [(k, .inr (3, [.ref ra, .ref rb, .int (nI bc), .int (nI bd)])), (q2, .inr (1, [.ref r2, .int (nI n5)])), (r2, .inl (g.2.1, 32768, .inl (bA t5)))] H := hP
    have hD : va_D A [(k, .inr (3, [.ref ra, .ref rb, .int (nI bc), .int (nI bd)])), (q2, .inr (1, [.ref r2, .int (nI n5)])), (r2, .inl (g.2.1, 32768, .inl (bA t5)))] := hD
    refine lv_aload_n hx hb d_Packer_writePointer_35 rfl (lv_at hl 1 rfl) ?_
    refine va_get (ci := 3) (C := R_Packer) (T := F_Packer) (N := 4) hx hb hE.hts in_Packer hown hE.2.1 hP 0 rfl rfl 3 (by decide) (hE.w m_56) (fun _ h9 => h9) rfl d_Packer_writePointer_36 ?_
    refine lv_aload_n hx hb d_Packer_writePointer_39 rfl (lv_at hl 2 rfl) ?_
    refine pc_v (wc := [(q2, .inr (1, [.ref r2, .int (nI n5)])), (r2, .inl (g.2.1, 32768, .inl (bA t5)))]) (wr := [(k, .inr (3, [.ref ra, .ref rb, .int (nI bc), .int (nI bd)]))]) (cells' := 0) (slots' := 0) hP hD hS hA [1, 2] [0] rfl rfl (by decide) (by decide) rfl rfl (va_runSN (n := 2) (As := [.int (nI bd), .ref q2]) (rest := []) ⟨hx, hb, hml, hown, hE.hts⟩ (c_Varints_write l g bd q2 r2 n5 t5 (by omega) (by omega) _) ⟨pc_cn hE m_228 m_12 m_226 (by decide +kernel) ⟨by exact Nat.le_of_ble_eq_true rfl, by exact Nat.le_of_ble_eq_true rfl⟩, hE.w m_227, trivial⟩ (pc_pre hP hD hE hS hA [1, 2] (by decide) rfl [.int (nI bd), .ref q2]) rfl rfl hl.1 rfl (lv_room (by exact Nat.le_of_ble_eq_true rfl)) d_Packer_writePointer_40 ⟨by exact Nat.le_of_ble_eq_true rfl, by exact Nat.le_of_ble_eq_true rfl⟩) (fun u_10 H locs hw hP hD hS => ?_)
    obtain ⟨n6, t6⟩ := u_10
    obtain ⟨hn6, ht6⟩ := hw
    have hn6 : n6 = n5 + vsz bd := hn6
    have ht6 : bl t6 n6 = bl t5 n5 ++ vL bd := ht6
    have hP : va_P g.1 pc_cl [(k, .inr (3, [.ref ra, .ref rb, .int (nI bc), .int (nI bd)])), (q2, .inr (1, [.ref r2, .int (nI n6)])), (r2, .inl (g.2.1, 32768, .inl (bA t6)))] H := hP
    have hD : va_D A [(k, .inr (3, [.ref ra, .ref rb, .int (nI bc), .int (nI bd)])), (q2, .inr (1, [.ref r2, .int (nI n6)])), (r2, .inl (g.2.1, 32768, .inl (bA t6)))] := hD
    refine lv_iconst (v := nI 1) hx hb d_Packer_writePointer_43 (by decide) ?_
    exact hQ _ _ 44 _ (nI 1) (n6, t6) d_Packer_writePointer_44 rfl (Or.inl ⟨rfl, by rw [ht6, ht5]; unfold ptL; rw [List.append_assoc], show n6 ≤ 32768 by omega⟩) (hP.sub [0, 1, 2] rfl) (hD.sub [0, 1, 2] (by decide) rfl) hS
  · skip
    refine lv_iconst (v := nI 0) hx hb d_Packer_writePointer_28 (by decide) ?_
    exact hQ _ _ 29 _ (nI 0) (n2, t2) d_Packer_writePointer_29 rfl (Or.inr ⟨rfl, by unfold ptL; rw [List.length_append, vL_len, vL_len]; omega⟩) (hP.sub [0, 1, 2] rfl) (hD.sub [0, 1, 2] (by decide) rfl) hS
