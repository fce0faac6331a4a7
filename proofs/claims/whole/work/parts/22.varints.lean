abbrev rm_Varints_size : Room := { frames := 0, cells := 0, slots := 0, locals := 0 }
set_option maxHeartbeats 1000000 in
set_option maxRecDepth 100000 in
/-- how many bytes a varint has -/
theorem c_Varints_size (l : Launch) (g : pc_G) (v : Nat) (hv : v < 2 ^ 31) : pc_Ci (S := Unit) l y_Varints_size prog_9_method_2_code 3 .int rm_Varints_size g [] [.int (nI v)] (fun rv _ => rv = nI (vsz v)) (fun _ => []) := by
  refine pc_Ci.of (by decide) (by exact Nat.le_of_ble_eq_true rfl) ?_
  intro p e s m below meth c A Q hx hb hml hown hE hA hQ hP hD ls hl
  have hS : va_S A s.heap s.heap [] := va_S.rf
  have hl : lv_has ls 3 [(0, .int (nI v))] := hl
  refine lv_iconst (v := nI 1) hx hb d_Varints_size_0 (by decide) ?_
  refine lv_istore_n (lv' := [(1, .int (nI 1)), (0, .int (nI v))]) hx hb d_Varints_size_1 rfl hl (by decide) rfl (fun ls hl => ?_)
  refine lv_bipush (v := nI 7) hx hb d_Varints_size_2 (by decide) ?_
  refine lv_istore_n (lv' := [(2, .int (nI 7)), (1, .int (nI 1)), (0, .int (nI v))]) hx hb d_Varints_size_4 rfl hl (by decide) rfl (fun ls hl => ?_)
  have lp_5 : ∀ (n9 : Nat) (z : Nat) (h : Nat) (h1 : 1 ≤ z) (h5 : z ≤ 5) (hh : h = 7 * z) (hlo : z = 1 ∨ 2 ^ (7 * (z - 1)) ≤ v) (hmu : 5 - z < n9) (H : Heap) (locs : List Loc) (hP : va_P g.1 pc_cl [] H) (hD : va_D A []) (hS : va_S A s.heap H locs) (ls : Array Slot) (hl : lv_has ls 3 [(0, .int (nI v)), (1, .int (nI z)), (2, .int (nI h))]), W p l e rm_Varints_size s m ([.int (nI v)] : List Value).toArray below meth c H locs 0 0 Q (F0 m 5 ls []) := by
    intro n9
    induction n9 with
    | zero => intros; omega
    | succ n9 ih_5 =>
      intro z h h1 h5 hh hlo hmu H locs hP hD hS ls hl
      refine lv_iload_n hx hb d_Varints_size_5 rfl (lv_at hl 2 rfl) ?_
      refine lv_bipush (v := nI 28) hx hb d_Varints_size_6 (by decide) ?_
      refine pc_jgt (tgt := 26) hx hb d_Varints_size_8 (by decide) (by omega) (by omega) (fun h_1 => ?_) (fun h_1 => ?_)
      · skip
        have hu : z = 5 ∨ v < 2 ^ (7 * z) := Or.inl (by omega)
        refine lv_iload_n hx hb d_Varints_size_26 rfl (lv_at hl 1 rfl) ?_
        exact hQ _ _ 27 _ (nI z) () d_Varints_size_27 rfl (congrArg nI (vsz_of h1 h5 hlo hu)) (hP.sub [] rfl) (hD.sub [] (by decide) rfl) hS
      · skip
        refine lv_iload_n hx hb d_Varints_size_11 rfl (lv_at hl 0 rfl) ?_
        refine lv_iload_n hx hb d_Varints_size_12 rfl (lv_at hl 2 rfl) ?_
        refine lv_iushr (v := nI (v / 2 ^ h)) hx hb d_Varints_size_13 (pc_ushr (by omega) (by omega)) ?_
        refine pc_zeq (tgt := 26) hx hb d_Varints_size_14 (by decide) (divlt (by omega)) (fun h_2 => ?_) (fun h_2 => ?_)
        · skip
          have hu : z = 5 ∨ v < 2 ^ (7 * z) := Or.inr (by rw [← hh]; exact (div0 v h).mp h_2)
          refine lv_iload_n hx hb d_Varints_size_26 rfl (lv_at hl 1 rfl) ?_
          exact hQ _ _ 27 _ (nI z) () d_Varints_size_27 rfl (congrArg nI (vsz_of h1 h5 hlo hu)) (hP.sub [] rfl) (hD.sub [] (by decide) rfl) hS
        · skip
          have hge : 2 ^ h ≤ v := Nat.not_lt.mp fun q9 => h_2 ((div0 v h).mpr q9)
          refine lv_iinc (v := nI (z + 1)) (lv' := [(1, .int (nI (z + 1))), (0, .int (nI v)), (2, .int (nI h))]) hx hb d_Varints_size_17 hl (k := 1) rfl (pc_inc z 1) (by decide) rfl (fun ls hl => ?_)
          refine lv_iinc (v := nI (h + 7)) (lv' := [(2, .int (nI (h + 7))), (1, .int (nI (z + 1))), (0, .int (nI v))]) hx hb d_Varints_size_20 hl (k := 2) rfl (pc_inc h 7) (by decide) rfl (fun ls hl => ?_)
          refine lv_goto (tgt := 5) hx hb d_Varints_size_23 (by decide) ?_
          exact ih_5 (z + 1) (h + 7) (by omega) (by omega) (by omega) (Or.inr (by rw [show z + 1 - 1 = z by omega, ← hh]; exact hge)) (by omega) _ _ (hP.sub [] rfl) (hD.sub [] (by decide) rfl) hS _ (lv_sub hl [2, 1, 0] rfl)
  exact lp_5 (5 - 1 + 1) 1 7 (by omega) (by omega) (by omega) (Or.inl rfl) (Nat.lt_succ_self _) _ _ (hP.sub [] rfl) (hD.sub [] (by decide) rfl) hS _ (lv_sub hl [2, 1, 0] rfl)
abbrev rm_Varints_write : Room := { frames := 1, cells := 0, slots := 0, locals := 22 }
set_option maxHeartbeats 1000000 in
set_option maxRecDepth 100000 in
/-- a varint more -/
theorem c_Varints_write (l : Launch) (g : pc_G) (v : Nat) (q : Nat) (r : Nat) (n : Nat) (t : Nat → UInt8) (hv : v < 2 ^ 31) (hn : n + vsz v ≤ 32768) : pc_Cv (S := Nat × (Nat → UInt8)) l y_Varints_write prog_9_method_3_code 4 rm_Varints_write g [(q, .inr (1, [.ref r, .int (nI n)])), (r, .inl (g.2.1, 32768, .inl (bA t)))] [.int (nI v), .ref q] (fun u => u.1 = n + vsz v ∧ bl u.2 u.1 = bl t n ++ vL v) (fun u => [(q, .inr (1, [.ref r, .int (nI u.1)])), (r, .inl (g.2.1, 32768, .inl (bA u.2)))]) := by
  refine pc_Cv.of (by decide) (by exact Nat.le_of_ble_eq_true rfl) ?_
  intro p e s m below meth c A Q hx hb hml hown hE hA hnm hQ hP hD ls hl
  have hS : va_S A s.heap s.heap [] := va_S.rf
  have hl : lv_has ls 4 [(0, .int (nI v)), (1, .ref q)] := hl
  have hz := vsz_in v
  refine lv_iload_n hx hb d_Varints_write_0 rfl (lv_at hl 0 rfl) ?_
  refine pc_i (wc := []) (wr := [(q, .inr (1, [.ref r, .int (nI n)])), (r, .inl (g.2.1, 32768, .inl (bA t)))]) (cells' := 0) (slots' := 0) hP hD hS hA [] [0, 1] rfl rfl (by decide) (by decide) rfl rfl (va_runS (n := 1) (As := [.int (nI v)]) (rest := []) ⟨hx, hb, hml, hown, hE.hts⟩ (c_Varints_size l g v (by omega) _) ⟨pc_cb hE m_231 m_12 m_229 (by decide +kernel) ⟨by exact Nat.le_of_ble_eq_true rfl, by exact Nat.le_of_ble_eq_true rfl⟩, hE.w m_230⟩ (pc_pre hP hD hE hS hA [] (by decide) rfl [.int (nI v)]) rfl rfl hl.1 rfl (lv_room (by exact Nat.le_of_ble_eq_true rfl)) d_Varints_write_1 ⟨by exact Nat.le_of_ble_eq_true rfl, by exact Nat.le_of_ble_eq_true rfl⟩) (fun r_2 u_1 H locs hw hP hD hS => ?_)
  obtain rfl := hw
  have hP : va_P g.1 pc_cl [(q, .inr (1, [.ref r, .int (nI n)])), (r, .inl (g.2.1, 32768, .inl (bA t)))] H := hP
  have hD : va_D A [(q, .inr (1, [.ref r, .int (nI n)])), (r, .inl (g.2.1, 32768, .inl (bA t)))] := hD
  refine lv_istore_n (lv' := [(2, .int (nI (vsz v))), (0, .int (nI v)), (1, .ref q)]) hx hb d_Varints_write_4 rfl hl (by decide) rfl (fun ls hl => ?_)
  refine lv_iconst (v := nI 0) hx hb d_Varints_write_5 (by decide) ?_
  refine lv_istore_n (lv' := [(3, .int (nI 0)), (2, .int (nI (vsz v))), (0, .int (nI v)), (1, .ref q)]) hx hb d_Varints_write_6 rfl hl (by decide) rfl (fun ls hl => ?_)
  have lp_7 : ∀ (n9 : Nat) (i : Nat) (w : Nat) (f : Nat → UInt8) (hi : i ≤ vsz v - 1) (hw2 : w = n + i) (hc : bl f w = bl t n ++ (vL v).take i) (hmu : 5 - i < n9) (H : Heap) (locs : List Loc) (hP : va_P g.1 pc_cl [(q, .inr (1, [.ref r, .int (nI w)])), (r, .inl (g.2.1, 32768, .inl (bA f)))] H) (hD : va_D A [(q, .inr (1, [.ref r, .int (nI w)])), (r, .inl (g.2.1, 32768, .inl (bA f)))]) (hS : va_S A s.heap H locs) (ls : Array Slot) (hl : lv_has ls 4 [(0, .int (nI v)), (1, .ref q), (2, .int (nI (vsz v))), (3, .int (nI i))]), W p l e rm_Varints_write s m ([.int (nI v), .ref q] : List Value).toArray below meth c H locs 0 0 Q (F0 m 7 ls []) := by
    intro n9
    induction n9 with
    | zero => intros; omega
    | succ n9 ih_7 =>
      intro i w f hi hw2 hc hmu H locs hP hD hS ls hl
      refine lv_iload_n hx hb d_Varints_write_7 rfl (lv_at hl 3 rfl) ?_
      refine lv_iload_n hx hb d_Varints_write_8 rfl (lv_at hl 2 rfl) ?_
      refine lv_iconst (v := nI 1) hx hb d_Varints_write_9 (by decide) ?_
      refine lv_isub hx hb d_Varints_write_10 ?_
      refine pc_ti (y := nI ((vsz v) - 1)) (pk_sub (by omega)) ?_
      refine pc_jge (tgt := 37) hx hb d_Varints_write_11 (by decide) (by omega) (by omega) (fun h_3 => ?_) (fun h_3 => ?_)
      · skip
        refine lv_aload_n hx hb d_Varints_write_37 rfl (lv_at hl 1 rfl) ?_
        refine lv_iload_n hx hb d_Varints_write_38 rfl (lv_at hl 0 rfl) ?_
        refine lv_bipush (v := nI 7) hx hb d_Varints_write_39 (by decide) ?_
        refine lv_iload_n hx hb d_Varints_write_41 rfl (lv_at hl 2 rfl) ?_
        refine lv_iconst (v := nI 1) hx hb d_Varints_write_42 (by decide) ?_
        refine lv_isub hx hb d_Varints_write_43 ?_
        refine pc_ti (y := nI ((vsz v) - 1)) (pk_sub (by omega)) ?_
        refine lv_imul hx hb d_Varints_write_44 ?_
        refine pc_ti (y := nI (7 * ((vsz v) - 1))) (pk_mul _ _) ?_
        refine lv_iushr (v := nI (v / 2 ^ (7 * ((vsz v) - 1)))) hx hb d_Varints_write_45 (pc_ushr (by omega) (by omega)) ?_
        refine pc_v (wc := [(q, .inr (1, [.ref r, .int (nI w)])), (r, .inl (g.2.1, 32768, .inl (bA f)))]) (wr := []) (cells' := 0) (slots' := 0) hP hD hS hA [0, 1] [] rfl rfl (by decide) (by decide) rfl rfl (va_runVN (n := 1) (As := [.int (nI (v / 2 ^ (7 * ((vsz v) - 1))))]) (rest := []) (C := R_Bytes) ⟨hx, hb, hml, hown, hE.hts⟩ (c_Bytes_add l g q r w f (v / 2 ^ (7 * ((vsz v) - 1))) (by omega) _) ⟨pc_cn hE m_188 m_2 m_232 (by decide +kernel) ⟨by exact Nat.le_of_ble_eq_true rfl, by exact Nat.le_of_ble_eq_true rfl⟩, hE.w m_187, hE.w ms_3⟩ (pc_preV (ci := 1) (q0 := 0) hP hD hE hS hA [0, 1] (by decide) rfl [.int (nI (v / 2 ^ (7 * ((vsz v) - 1))))] rfl rfl) rfl rfl hl.1 rfl (lv_room (by exact Nat.le_of_ble_eq_true rfl)) d_Varints_write_46 ⟨by exact Nat.le_of_ble_eq_true rfl, by exact Nat.le_of_ble_eq_true rfl⟩) (fun u_4 H locs hw hP hD hS => ?_)
        have hP : va_P g.1 pc_cl [(q, .inr (1, [.ref r, .int (nI (w + 1))])), (r, .inl (g.2.1, 32768, .inl (bA (upB f w (v / 2 ^ (7 * ((vsz v) - 1)))))))] H := hP
        have hD : va_D A [(q, .inr (1, [.ref r, .int (nI (w + 1))])), (r, .inl (g.2.1, 32768, .inl (bA (upB f w (v / 2 ^ (7 * ((vsz v) - 1)))))))] := hD
        exact hQ _ _ 49 _ (w + 1, upB f w (v / 2 ^ (7 * ((vsz v) - 1)))) d_Varints_write_49 (⟨by omega, bl_end hv (by omega) hc⟩) (hP.sub [0, 1] rfl) (hD.sub [0, 1] (by decide) rfl) hS
      · skip
        refine lv_aload_n hx hb d_Varints_write_14 rfl (lv_at hl 1 rfl) ?_
        refine lv_iload_n hx hb d_Varints_write_15 rfl (lv_at hl 0 rfl) ?_
        refine lv_bipush (v := nI 7) hx hb d_Varints_write_16 (by decide) ?_
        refine lv_iload_n hx hb d_Varints_write_18 rfl (lv_at hl 3 rfl) ?_
        refine lv_imul hx hb d_Varints_write_19 ?_
        refine pc_ti (y := nI (7 * i)) (pk_mul _ _) ?_
        refine lv_iushr (v := nI (v / 2 ^ (7 * i))) hx hb d_Varints_write_20 (pc_ushr (by omega) (by omega)) ?_
        refine lv_bipush (v := nI 127) hx hb d_Varints_write_21 (by decide) ?_
        refine lv_iand hx hb d_Varints_write_23 ?_
        refine pc_ti (y := nI ((v / 2 ^ (7 * i)) % 128)) (pk_andN (divlt (by omega)) 7 (by decide)) ?_
        refine lv_sipush (v := nI 128) hx hb d_Varints_write_24 (by decide) ?_
        refine lv_iadd hx hb d_Varints_write_27 ?_
        refine pc_ti (y := nI ((v / 2 ^ (7 * i)) % 128 + 128)) (nI_add _ _) ?_
        refine pc_v (wc := [(q, .inr (1, [.ref r, .int (nI w)])), (r, .inl (g.2.1, 32768, .inl (bA f)))]) (wr := []) (cells' := 0) (slots' := 0) hP hD hS hA [0, 1] [] rfl rfl (by decide) (by decide) rfl rfl (va_runVN (n := 1) (As := [.int (nI ((v / 2 ^ (7 * i)) % 128 + 128))]) (rest := []) (C := R_Bytes) ⟨hx, hb, hml, hown, hE.hts⟩ (c_Bytes_add l g q r w f ((v / 2 ^ (7 * i)) % 128 + 128) (by omega) _) ⟨pc_cn hE m_188 m_2 m_232 (by decide +kernel) ⟨by exact Nat.le_of_ble_eq_true rfl, by exact Nat.le_of_ble_eq_true rfl⟩, hE.w m_187, hE.w ms_3⟩ (pc_preV (ci := 1) (q0 := 0) hP hD hE hS hA [0, 1] (by decide) rfl [.int (nI ((v / 2 ^ (7 * i)) % 128 + 128))] rfl rfl) rfl rfl hl.1 rfl (lv_room (by exact Nat.le_of_ble_eq_true rfl)) d_Varints_write_28 ⟨by exact Nat.le_of_ble_eq_true rfl, by exact Nat.le_of_ble_eq_true rfl⟩) (fun u_6 H locs hw hP hD hS => ?_)
        have hP : va_P g.1 pc_cl [(q, .inr (1, [.ref r, .int (nI (w + 1))])), (r, .inl (g.2.1, 32768, .inl (bA (upB f w ((v / 2 ^ (7 * i)) % 128 + 128)))))] H := hP
        have hD : va_D A [(q, .inr (1, [.ref r, .int (nI (w + 1))])), (r, .inl (g.2.1, 32768, .inl (bA (upB f w ((v / 2 ^ (7 * i)) % 128 + 128)))))] := hD
        refine lv_iinc (v := nI (i + 1)) (lv' := [(3, .int (nI (i + 1))), (0, .int (nI v)), (1, .ref q), (2, .int (nI (vsz v)))]) hx hb d_Varints_write_31 hl (k := 3) rfl (pc_inc i 1) (by decide) rfl (fun ls hl => ?_)
        refine lv_goto (tgt := 7) hx hb d_Varints_write_34 (by decide) ?_
        exact ih_7 (i + 1) (w + 1) (upB f w ((v / 2 ^ (7 * i)) % 128 + 128)) (by omega) (by omega) (bl_next hc (by omega) (vL_step (by omega))) (by omega) _ _ (hP.sub [0, 1] rfl) (hD.sub [0, 1] (by decide) rfl) hS _ (lv_sub hl [1, 2, 3, 0] rfl)
  exact lp_7 (5 - 0 + 1) 0 n t (by omega) (by omega) (by rw [List.take_zero, List.append_nil]) (Nat.lt_succ_self _) _ _ (hP.sub [0, 1] rfl) (hD.sub [0, 1] (by decide) rfl) hS _ (lv_sub hl [2, 3, 1, 0] rfl)
