abbrev rm_Mo_unpacks : Room := { frames := 1, cells := 0, slots := 0, locals := 25 }
set_option maxHeartbeats 1000000 in
set_option maxRecDepth 100000 in
/-- the tape taken apart, if it is packed -/
theorem c_Mo_unpacks (l : Launch) (g : pc_G) (y : Nat) (ta : Nat) (oa : Nat) (ma : Nat) (ca : Nat) (na : Nat) (la : Nat) (vn : Int32) (vo : Int32) (vm : Int32) (vc : Int32) (vk : Int32) (va : Int32) (vt : Int32) (n : Nat) (t : Nat → UInt8) (mt : Nat → UInt8) (hn : n ≤ 32768) : pc_Ci (S := Nat × Nat × (Nat → UInt8)) l y_Mo_unpacks prog_11_method_11_code 7 .boolean rm_Mo_unpacks g [(y, .inr (5, [.ref ta, .ref oa, .ref ma, .int vn, .int vo, .int vm, .ref ca, .ref na, .ref la, .int vc, .int vk, .int va, .int vt])), (ta, .inl (g.2.1, 32768, .inl (bA t))), (ma, .inl (g.2.1, 32768, .inl (bA mt)))] [.ref y, .int (nI n)] (fun rv u => ((rv = 1 ∧ unP (bl t n) 0 = some (bl u.2.2 u.2.1) ∧ u.2.1 ≤ 32768) ∨ (rv = 0 ∧ unP (bl t n) 0 = none))) (fun u => [(y, .inr (5, [.ref ta, .ref oa, .ref ma, .int vn, .int vo, .int (nI u.2.1), .ref ca, .ref na, .ref la, .int vc, .int vk, .int (nI u.1), .int vt])), (ta, .inl (g.2.1, 32768, .inl (bA t))), (ma, .inl (g.2.1, 32768, .inl (bA u.2.2)))]) := by
  refine pc_Ci.of (by decide) (by exact Nat.le_of_ble_eq_true rfl) ?_
  intro p e s m below meth c A Q hx hb hml hown hE hA hQ hP hD ls hl
  have hS : va_S A s.heap s.heap [] := va_S.rf
  have hl : lv_has ls 7 [(0, .ref y), (1, .int (nI n))] := hl
  refine lv_aload_n hx hb d_Mo_unpacks_0 rfl (lv_at hl 0 rfl) ?_
  refine lv_iconst (v := nI 0) hx hb d_Mo_unpacks_1 (by decide) ?_
  refine va_put (ci := 5) (ty := .int) (C := R_Mo) (T := F_Mo) (N := 13) hx hb hE.hts in_Mo t_Mo tk_Mo nn_Mo hown hE.2.1 hP hD hS 0 rfl rfl 11 (by decide) (hE.w m_501) (fun _ h9 => h9) rfl (by decide +kernel) (by rfl) (by rfl) (by exact Nat.le_of_ble_eq_true rfl) d_Mo_unpacks_2 (fun H locs hP hD hS => ?_)
  have hP : va_P g.1 pc_cl [(y, .inr (5, [.ref ta, .ref oa, .ref ma, .int vn, .int vo, .int vm, .ref ca, .ref na, .ref la, .int vc, .int vk, .int (nI 0), .int vt])), (ta, .inl (g.2.1, 32768, .inl (bA t))), (ma, .inl (g.2.1, 32768, .inl (bA mt)))] H := hP
  have hD : va_D A [(y, .inr (5, [.ref ta, .ref oa, .ref ma, .int vn, .int vo, .int vm, .ref ca, .ref na, .ref la, .int vc, .int vk, .int (nI 0), .int vt])), (ta, .inl (g.2.1, 32768, .inl (bA t))), (ma, .inl (g.2.1, 32768, .inl (bA mt)))] := hD
  refine lv_aload_n hx hb d_Mo_unpacks_5 rfl (lv_at hl 0 rfl) ?_
  refine lv_iconst (v := nI 0) hx hb d_Mo_unpacks_6 (by decide) ?_
  refine va_put (ci := 5) (ty := .int) (C := R_Mo) (T := F_Mo) (N := 13) hx hb hE.hts in_Mo t_Mo tk_Mo nn_Mo hown hE.2.1 hP hD hS 0 rfl rfl 5 (by decide) (hE.w m_495) (fun _ h9 => h9) rfl (by decide +kernel) (by rfl) (by rfl) (by exact Nat.le_of_ble_eq_true rfl) d_Mo_unpacks_7 (fun H locs hP hD hS => ?_)
  have hP : va_P g.1 pc_cl [(y, .inr (5, [.ref ta, .ref oa, .ref ma, .int vn, .int vo, .int (nI 0), .ref ca, .ref na, .ref la, .int vc, .int vk, .int (nI 0), .int vt])), (ta, .inl (g.2.1, 32768, .inl (bA t))), (ma, .inl (g.2.1, 32768, .inl (bA mt)))] H := hP
  have hD : va_D A [(y, .inr (5, [.ref ta, .ref oa, .ref ma, .int vn, .int vo, .int (nI 0), .ref ca, .ref na, .ref la, .int vc, .int vk, .int (nI 0), .int vt])), (ta, .inl (g.2.1, 32768, .inl (bA t))), (ma, .inl (g.2.1, 32768, .inl (bA mt)))] := hD
  refine lv_aload_n hx hb d_Mo_unpacks_10 rfl (lv_at hl 0 rfl) ?_
  refine lv_iload_n hx hb d_Mo_unpacks_11 rfl (lv_at hl 1 rfl) ?_
  refine pc_i (wc := [(y, .inr (5, [.ref ta, .ref oa, .ref ma, .int vn, .int vo, .int (nI 0), .ref ca, .ref na, .ref la, .int vc, .int vk, .int (nI 0), .int vt])), (ta, .inl (g.2.1, 32768, .inl (bA t)))]) (wr := [(ma, .inl (g.2.1, 32768, .inl (bA mt)))]) (cells' := 0) (slots' := 0) hP hD hS hA [0, 1] [2] rfl rfl (by decide) (by decide) rfl rfl (va_runV (n := 1) (As := [.int (nI n)]) (rest := []) (C := R_Mo) ⟨hx, hb, hml, hown, hE.hts⟩ (c_Mo_read l g y ta oa ma ca na la vn vo (nI 0) vc vk vt n t 0 (by omega) (by omega) _) ⟨pc_cb hE m_598 m_5 m_595 (by decide +kernel) ⟨by exact Nat.le_of_ble_eq_true rfl, by exact Nat.le_of_ble_eq_true rfl⟩, hE.w m_597, hE.w ms_31⟩ (pc_preV (ci := 5) (q0 := 0) hP hD hE hS hA [0, 1] (by decide) rfl [.int (nI n)] rfl rfl) rfl rfl hl.1 rfl (lv_room (by exact Nat.le_of_ble_eq_true rfl)) d_Mo_unpacks_12 ⟨by exact Nat.le_of_ble_eq_true rfl, by exact Nat.le_of_ble_eq_true rfl⟩) (fun r_2 u_1 H locs hw hP hD hS => ?_)
  obtain ⟨w9, rfl⟩ : ∃ z, z = u_1 := ⟨_, rfl⟩
  have hw_3 := hw
  have hw_3 : rdRes (readV (bl t n) 0) r_2 w9 n := hw_3
  have hP : va_P g.1 pc_cl [(ma, .inl (g.2.1, 32768, .inl (bA mt))), (y, .inr (5, [.ref ta, .ref oa, .ref ma, .int vn, .int vo, .int (nI 0), .ref ca, .ref na, .ref la, .int vc, .int vk, .int (nI w9), .int vt])), (ta, .inl (g.2.1, 32768, .inl (bA t)))] H := hP
  have hD : va_D A [(ma, .inl (g.2.1, 32768, .inl (bA mt))), (y, .inr (5, [.ref ta, .ref oa, .ref ma, .int vn, .int vo, .int (nI 0), .ref ca, .ref na, .ref la, .int vc, .int vk, .int (nI w9), .int vt])), (ta, .inl (g.2.1, 32768, .inl (bA t)))] := hD
  rcases hw_3 with ⟨hno, rfl, hp2⟩ | ⟨all, hall, rfl, hal31, hp2⟩
  · skip
    refine lv_istore_n (lv' := [(2, .int (-1)), (0, .ref y), (1, .int (nI n))]) hx hb d_Mo_unpacks_15 rfl hl (by decide) rfl (fun ls hl => ?_)
    refine lv_iload_n hx hb d_Mo_unpacks_16 rfl (lv_at hl 0 rfl) ?_
    refine lv_if_lt (tgt := 26) hx hb d_Mo_unpacks_17 (by decide) (fun h_d => ?_) (fun h_d => absurd h_d (by decide))
    refine lv_iconst (v := nI 0) hx hb d_Mo_unpacks_26 (by decide) ?_
    exact hQ _ _ 27 _ (nI 0) (w9, 0, mt) d_Mo_unpacks_27 rfl (Or.inr ⟨rfl, by first | (exact unP_none hno) | (exact unP_big hall (by omega)) | (rw [← hU]; exact unA_over (by rw [bl_len]; omega) (by rw [bl_len]; omega)) | (rw [← hU]; exact un1 (by rw [bl_len]; omega) hno) | (rw [← hU]; exact un2 (by rw [bl_len]; omega) hyes (by rw [bl_len]; omega)) | (rw [← hU]; exact un3 (by rw [bl_len]; omega) hyes (by rw [bl_len]; omega) (by omega) (by rw [bl_len]; omega)) | (rw [← hU]; exact un4 (by rw [bl_len]; omega) hyes (by rw [bl_len]; omega) (by omega) hnod) | (rw [← hU]; exact un5 (by rw [bl_len]; omega) hyes (by rw [bl_len]; omega) (by omega) hyesd (by rw [bl_len]; omega))⟩) (hP.sub [1, 2, 0] rfl) (hD.sub [1, 2, 0] (by decide) rfl) hS
  · skip
    refine lv_istore_n (lv' := [(2, .int (nI all)), (0, .ref y), (1, .int (nI n))]) hx hb d_Mo_unpacks_15 rfl hl (by decide) rfl (fun ls hl => ?_)
    refine lv_iload_n hx hb d_Mo_unpacks_16 rfl (lv_at hl 0 rfl) ?_
    refine pc_zlt (tgt := 26) hx hb d_Mo_unpacks_17 (by decide) (by omega) (fun h_d => absurd h_d (not_false)) (fun h_d => ?_)
    refine lv_iload_n hx hb d_Mo_unpacks_20 rfl (lv_at hl 0 rfl) ?_
    refine lv_ldc hx hb hown (hE.w m_489) d_Mo_unpacks_21 ?_
    refine pc_ti (y := nI 32768) (by decide) ?_
    refine pc_jle (tgt := 28) hx hb d_Mo_unpacks_23 (by decide) (by omega) (by omega) (fun h_4 => ?_) (fun h_4 => ?_)
    · skip
      have lp_28 : ∀ (n9 : Nat) (w : Nat) (m0 : Nat) (u : Nat → UInt8) (fu : Nat) (hwn : w ≤ n) (hm0 : m0 ≤ all) (hfu : all - m0 < fu) (hU : unA (bl t n) all fu w (bl u m0) = unP (bl t n) 0) (hmu : all - m0 < n9) (H : Heap) (locs : List Loc) (hP : va_P g.1 pc_cl [(y, .inr (5, [.ref ta, .ref oa, .ref ma, .int vn, .int vo, .int (nI m0), .ref ca, .ref na, .ref la, .int vc, .int vk, .int (nI w), .int vt])), (ta, .inl (g.2.1, 32768, .inl (bA t))), (ma, .inl (g.2.1, 32768, .inl (bA u)))] H) (hD : va_D A [(y, .inr (5, [.ref ta, .ref oa, .ref ma, .int vn, .int vo, .int (nI m0), .ref ca, .ref na, .ref la, .int vc, .int vk, .int (nI w), .int vt])), (ta, .inl (g.2.1, 32768, .inl (bA t))), (ma, .inl (g.2.1, 32768, .inl (bA u)))]) (hS : va_S A s.heap H locs) (ls : Array Slot) (hl : lv_has ls 7 [(0, .ref y), (1, .int (nI n)), (2, .int (nI all))]), W p l e rm_Mo_unpacks s m ([.ref y, .int (nI n)] : List Value).toArray below meth c H locs 0 0 Q (F0 m 28 ls []) := by
        intro n9
        induction n9 with
        | zero => intros; omega
        | succ n9 ih_28 =>
          intro w m0 u fu hwn hm0 hfu hU hmu H locs hP hD hS ls hl
          refine lv_aload_n hx hb d_Mo_unpacks_28 rfl (lv_at hl 0 rfl) ?_
          refine va_get (ci := 5) (C := R_Mo) (T := F_Mo) (N := 13) hx hb hE.hts in_Mo hown hE.2.1 hP 0 rfl rfl 5 (by decide) (hE.w m_495) (fun _ h9 => h9) rfl d_Mo_unpacks_29 ?_
          refine lv_iload_n hx hb d_Mo_unpacks_32 rfl (lv_at hl 2 rfl) ?_
          refine pc_jge (tgt := 212) hx hb d_Mo_unpacks_33 (by decide) (by omega) (by omega) (fun h_5 => ?_) (fun h_5 => ?_)
          · skip
            refine lv_aload_n hx hb d_Mo_unpacks_212 rfl (lv_at hl 0 rfl) ?_
            refine va_get (ci := 5) (C := R_Mo) (T := F_Mo) (N := 13) hx hb hE.hts in_Mo hown hE.2.1 hP 0 rfl rfl 11 (by decide) (hE.w m_501) (fun _ h9 => h9) rfl d_Mo_unpacks_213 ?_
            refine lv_iload_n hx hb d_Mo_unpacks_216 rfl (lv_at hl 1 rfl) ?_
            refine pc_jne (tgt := 224) hx hb d_Mo_unpacks_217 (by decide) (by omega) (by omega) (fun h_6 => ?_) (fun h_6 => ?_)
            · skip
              refine lv_iconst (v := nI 0) hx hb d_Mo_unpacks_224 (by decide) ?_
              exact hQ _ _ 225 _ (nI 0) (w, m0, u) d_Mo_unpacks_225 rfl (Or.inr ⟨rfl, by first | (exact unP_none hno) | (exact unP_big hall (by omega)) | (rw [← hU]; exact unA_over (by rw [bl_len]; omega) (by rw [bl_len]; omega)) | (rw [← hU]; exact un1 (by rw [bl_len]; omega) hno) | (rw [← hU]; exact un2 (by rw [bl_len]; omega) hyes (by rw [bl_len]; omega)) | (rw [← hU]; exact un3 (by rw [bl_len]; omega) hyes (by rw [bl_len]; omega) (by omega) (by rw [bl_len]; omega)) | (rw [← hU]; exact un4 (by rw [bl_len]; omega) hyes (by rw [bl_len]; omega) (by omega) hnod) | (rw [← hU]; exact un5 (by rw [bl_len]; omega) hyes (by rw [bl_len]; omega) (by omega) hyesd (by rw [bl_len]; omega))⟩) (hP.sub [0, 1, 2] rfl) (hD.sub [0, 1, 2] (by decide) rfl) hS
            · skip
              refine lv_iconst (v := nI 1) hx hb d_Mo_unpacks_220 (by decide) ?_
              refine lv_goto (tgt := 225) hx hb d_Mo_unpacks_221 (by decide) ?_
              exact hQ _ _ 225 _ (nI 1) (w, m0, u) d_Mo_unpacks_225 rfl (Or.inl ⟨rfl, by rw [← hU]; exact unA_end (by omega) (by rw [bl_len]; omega) (by rw [bl_len]; omega), show m0 ≤ 32768 by omega⟩) (hP.sub [0, 1, 2] rfl) (hD.sub [0, 1, 2] (by decide) rfl) hS
          · skip
            refine lv_aload_n hx hb d_Mo_unpacks_36 rfl (lv_at hl 0 rfl) ?_
            refine lv_iload_n hx hb d_Mo_unpacks_37 rfl (lv_at hl 1 rfl) ?_
            refine pc_i (wc := [(y, .inr (5, [.ref ta, .ref oa, .ref ma, .int vn, .int vo, .int (nI m0), .ref ca, .ref na, .ref la, .int vc, .int vk, .int (nI w), .int vt])), (ta, .inl (g.2.1, 32768, .inl (bA t)))]) (wr := [(ma, .inl (g.2.1, 32768, .inl (bA u)))]) (cells' := 0) (slots' := 0) hP hD hS hA [0, 1] [2] rfl rfl (by decide) (by decide) rfl rfl (va_runV (n := 1) (As := [.int (nI n)]) (rest := []) (C := R_Mo) ⟨hx, hb, hml, hown, hE.hts⟩ (c_Mo_read l g y ta oa ma ca na la vn vo (nI m0) vc vk vt n t w (by omega) (by omega) _) ⟨pc_cb hE m_598 m_5 m_595 (by decide +kernel) ⟨by exact Nat.le_of_ble_eq_true rfl, by exact Nat.le_of_ble_eq_true rfl⟩, hE.w m_597, hE.w ms_31⟩ (pc_preV (ci := 5) (q0 := 0) hP hD hE hS hA [0, 1] (by decide) rfl [.int (nI n)] rfl rfl) rfl rfl hl.1 rfl (lv_room (by exact Nat.le_of_ble_eq_true rfl)) d_Mo_unpacks_38 ⟨by exact Nat.le_of_ble_eq_true rfl, by exact Nat.le_of_ble_eq_true rfl⟩) (fun r_8 u_7 H locs hw hP hD hS => ?_)
            obtain ⟨w1, rfl⟩ : ∃ z, z = u_7 := ⟨_, rfl⟩
            have hw_9 := hw
            have hw_9 : rdRes (readV (bl t n) w) r_8 w1 n := hw_9
            have hP : va_P g.1 pc_cl [(ma, .inl (g.2.1, 32768, .inl (bA u))), (y, .inr (5, [.ref ta, .ref oa, .ref ma, .int vn, .int vo, .int (nI m0), .ref ca, .ref na, .ref la, .int vc, .int vk, .int (nI w1), .int vt])), (ta, .inl (g.2.1, 32768, .inl (bA t)))] H := hP
            have hD : va_D A [(ma, .inl (g.2.1, 32768, .inl (bA u))), (y, .inr (5, [.ref ta, .ref oa, .ref ma, .int vn, .int vo, .int (nI m0), .ref ca, .ref na, .ref la, .int vc, .int vk, .int (nI w1), .int vt])), (ta, .inl (g.2.1, 32768, .inl (bA t)))] := hD
            have hlt : m0 < all := by omega
            rcases hw_9 with ⟨hno, rfl, hp2⟩ | ⟨v, hyes, rfl, hv31, hp2⟩
            · skip
              refine lv_istore_n (lv' := [(3, .int (-1)), (0, .ref y), (1, .int (nI n)), (2, .int (nI all))]) hx hb d_Mo_unpacks_41 rfl hl (by decide) rfl (fun ls hl => ?_)
              refine lv_iload_n hx hb d_Mo_unpacks_42 rfl (lv_at hl 0 rfl) ?_
              refine lv_iconst (v := nI 2) hx hb d_Mo_unpacks_43 (by decide) ?_
              refine lv_idiv hx hb d_Mo_unpacks_44 (by decide) ?_
              refine lv_istore (lv' := [(4, .int ((-1) / (nI 2))), (3, .int (-1)), (0, .ref y), (1, .int (nI n)), (2, .int (nI all))]) hx hb d_Mo_unpacks_45 hl (by decide) rfl (fun ls hl => ?_)
              refine lv_iload_n hx hb d_Mo_unpacks_47 rfl (lv_at hl 1 rfl) ?_
              refine lv_if_lt (tgt := 62) hx hb d_Mo_unpacks_48 (by decide) (fun h_d => ?_) (fun h_d => absurd h_d (by decide))
              refine lv_iconst (v := nI 0) hx hb d_Mo_unpacks_62 (by decide) ?_
              exact hQ _ _ 63 _ (nI 0) (w1, m0, u) d_Mo_unpacks_63 rfl (Or.inr ⟨rfl, by first | (exact unP_none hno) | (exact unP_big hall (by omega)) | (rw [← hU]; exact unA_over (by rw [bl_len]; omega) (by rw [bl_len]; omega)) | (rw [← hU]; exact un1 (by rw [bl_len]; omega) hno) | (rw [← hU]; exact un2 (by rw [bl_len]; omega) hyes (by rw [bl_len]; omega)) | (rw [← hU]; exact un3 (by rw [bl_len]; omega) hyes (by rw [bl_len]; omega) (by omega) (by rw [bl_len]; omega)) | (rw [← hU]; exact un4 (by rw [bl_len]; omega) hyes (by rw [bl_len]; omega) (by omega) hnod) | (rw [← hU]; exact un5 (by rw [bl_len]; omega) hyes (by rw [bl_len]; omega) (by omega) hyesd (by rw [bl_len]; omega))⟩) (hP.sub [1, 2, 0] rfl) (hD.sub [1, 2, 0] (by decide) rfl) hS
            · skip
              have hin := readV_in hyes
              refine lv_istore_n (lv' := [(3, .int (nI v)), (0, .ref y), (1, .int (nI n)), (2, .int (nI all))]) hx hb d_Mo_unpacks_41 rfl hl (by decide) rfl (fun ls hl => ?_)
              refine lv_iload_n hx hb d_Mo_unpacks_42 rfl (lv_at hl 0 rfl) ?_
              refine lv_iconst (v := nI 2) hx hb d_Mo_unpacks_43 (by decide) ?_
              refine lv_idiv hx hb d_Mo_unpacks_44 (by decide) ?_
              refine pc_ti (y := nI (v / 2)) (pk_div (by omega) (by omega) (by omega)) ?_
              refine lv_istore (lv' := [(4, .int (nI (v / 2))), (3, .int (nI v)), (0, .ref y), (1, .int (nI n)), (2, .int (nI all))]) hx hb d_Mo_unpacks_45 hl (by decide) rfl (fun ls hl => ?_)
              refine lv_iload_n hx hb d_Mo_unpacks_47 rfl (lv_at hl 1 rfl) ?_
              refine pc_zlt (tgt := 62) hx hb d_Mo_unpacks_48 (by decide) (by omega) (fun h_d => absurd h_d (not_false)) (fun h_d => ?_)
              refine lv_iload hx hb d_Mo_unpacks_51 (lv_at hl 0 rfl) ?_
              refine lv_iload_n hx hb d_Mo_unpacks_53 rfl (lv_at hl 4 rfl) ?_
              refine lv_aload_n hx hb d_Mo_unpacks_54 rfl (lv_at hl 2 rfl) ?_
              refine va_get (ci := 5) (C := R_Mo) (T := F_Mo) (N := 13) hx hb hE.hts in_Mo hown hE.2.1 hP 1 rfl rfl 5 (by decide) (hE.w m_495) (fun _ h9 => h9) rfl d_Mo_unpacks_55 ?_
              refine lv_isub hx hb d_Mo_unpacks_58 ?_
              refine pc_ti (y := nI (all - m0)) (pk_sub (by omega)) ?_
              refine pc_jle (tgt := 64) hx hb d_Mo_unpacks_59 (by decide) (by omega) (by omega) (fun h_10 => ?_) (fun h_10 => ?_)
              · skip
                refine lv_iload_n hx hb d_Mo_unpacks_64 rfl (lv_at hl 1 rfl) ?_
                refine lv_iconst (v := nI 2) hx hb d_Mo_unpacks_65 (by decide) ?_
                refine lv_irem hx hb d_Mo_unpacks_66 (by decide) ?_
                refine pc_ti (y := nI (v % 2)) (pk_rem (by omega) (by omega) (by omega)) ?_
                refine lv_iconst (v := nI 1) hx hb d_Mo_unpacks_67 (by decide) ?_
                refine pc_jne (tgt := 79) hx hb d_Mo_unpacks_68 (by decide) (by omega) (by omega) (fun h_11 => ?_) (fun h_11 => ?_)
                · skip
                  refine lv_iconst (v := nI 0) hx hb d_Mo_unpacks_79 (by decide) ?_
                  refine lv_istore (lv' := [(5, .int (nI 0)), (4, .int (nI (v / 2))), (3, .int (nI v)), (0, .ref y), (1, .int (nI n)), (2, .int (nI all))]) hx hb d_Mo_unpacks_80 hl (by decide) rfl (fun ls hl => ?_)
                  refine lv_iload_n hx hb d_Mo_unpacks_82 rfl (lv_at hl 2 rfl) ?_
                  refine lv_iconst (v := nI 2) hx hb d_Mo_unpacks_83 (by decide) ?_
                  refine lv_irem hx hb d_Mo_unpacks_84 (by decide) ?_
                  refine pc_ti (y := nI (v % 2)) (pk_rem (by omega) (by omega) (by omega)) ?_
                  refine lv_iconst (v := nI 1) hx hb d_Mo_unpacks_85 (by decide) ?_
                  refine pc_jne (tgt := 113) hx hb d_Mo_unpacks_86 (by decide) (by omega) (by omega) (fun h_d => ?_) (fun h_d => absurd h_d (by omega))
                  refine lv_iload hx hb d_Mo_unpacks_113 (lv_at hl 1 rfl) ?_
                  refine lv_iconst (v := nI 1) hx hb d_Mo_unpacks_115 (by decide) ?_
                  refine pc_jlt (tgt := 130) hx hb d_Mo_unpacks_116 (by decide) (by omega) (by omega) (fun h_12 => ?_) (fun h_12 => ?_)
                  · skip
                    refine lv_iconst (v := nI 0) hx hb d_Mo_unpacks_130 (by decide) ?_
                    exact hQ _ _ 131 _ (nI 0) (w1, m0, u) d_Mo_unpacks_131 rfl (Or.inr ⟨rfl, by first | (exact unP_none hno) | (exact unP_big hall (by omega)) | (rw [← hU]; exact unA_over (by rw [bl_len]; omega) (by rw [bl_len]; omega)) | (rw [← hU]; exact un1 (by rw [bl_len]; omega) hno) | (rw [← hU]; exact un2 (by rw [bl_len]; omega) hyes (by rw [bl_len]; omega)) | (rw [← hU]; exact un3 (by rw [bl_len]; omega) hyes (by rw [bl_len]; omega) (by omega) (by rw [bl_len]; omega)) | (rw [← hU]; exact un4 (by rw [bl_len]; omega) hyes (by rw [bl_len]; omega) (by omega) hnod) | (rw [← hU]; exact un5 (by rw [bl_len]; omega) hyes (by rw [bl_len]; omega) (by omega) hyesd (by rw [bl_len]; omega))⟩) (hP.sub [1, 2, 0] rfl) (hD.sub [1, 2, 0] (by decide) rfl) hS
                  · skip
                    refine lv_iload hx hb d_Mo_unpacks_119 (lv_at hl 1 rfl) ?_
                    refine lv_iload_n hx hb d_Mo_unpacks_121 rfl (lv_at hl 4 rfl) ?_
                    refine lv_aload_n hx hb d_Mo_unpacks_122 rfl (lv_at hl 3 rfl) ?_
                    refine va_get (ci := 5) (C := R_Mo) (T := F_Mo) (N := 13) hx hb hE.hts in_Mo hown hE.2.1 hP 1 rfl rfl 11 (by decide) (hE.w m_501) (fun _ h9 => h9) rfl d_Mo_unpacks_123 ?_
                    refine lv_isub hx hb d_Mo_unpacks_126 ?_
                    refine pc_ti (y := nI (n - w1)) (pk_sub (by omega)) ?_
                    refine pc_jle (tgt := 132) hx hb d_Mo_unpacks_127 (by decide) (by omega) (by omega) (fun h_13 => ?_) (fun h_13 => ?_)
                    · skip
                      refine lv_iconst (v := nI 0) hx hb d_Mo_unpacks_132 (by decide) ?_
                      refine lv_istore (lv' := [(6, .int (nI 0)), (5, .int (nI 0)), (4, .int (nI (v / 2))), (3, .int (nI v)), (0, .ref y), (1, .int (nI n)), (2, .int (nI all))]) hx hb d_Mo_unpacks_133 hl (by decide) rfl (fun ls hl => ?_)
                      have lp_135 : ∀ (n9 : Nat) (i : Nat) (m1 : Nat) (u1 : Nat → UInt8) (hi : i ≤ v / 2) (hm1 : m1 = m0 + i) (hc : bl u1 m1 = bl u m0 ++ ((bl t n).drop w1).take i) (hmu : v / 2 - i < n9) (H : Heap) (locs : List Loc) (hP : va_P g.1 pc_cl [(y, .inr (5, [.ref ta, .ref oa, .ref ma, .int vn, .int vo, .int (nI m1), .ref ca, .ref na, .ref la, .int vc, .int vk, .int (nI w1), .int vt])), (ta, .inl (g.2.1, 32768, .inl (bA t))), (ma, .inl (g.2.1, 32768, .inl (bA u1)))] H) (hD : va_D A [(y, .inr (5, [.ref ta, .ref oa, .ref ma, .int vn, .int vo, .int (nI m1), .ref ca, .ref na, .ref la, .int vc, .int vk, .int (nI w1), .int vt])), (ta, .inl (g.2.1, 32768, .inl (bA t))), (ma, .inl (g.2.1, 32768, .inl (bA u1)))]) (hS : va_S A s.heap H locs) (ls : Array Slot) (hl : lv_has ls 7 [(0, .ref y), (1, .int (nI n)), (2, .int (nI all)), (3, .int (nI v)), (4, .int (nI (v / 2))), (6, .int (nI i))]), W p l e rm_Mo_unpacks s m ([.ref y, .int (nI n)] : List Value).toArray below meth c H locs 0 0 Q (F0 m 135 ls []) := by
                        intro n9
                        induction n9 with
                        | zero => intros; omega
                        | succ n9 ih_135 =>
                          intro i m1 u1 hi hm1 hc hmu H locs hP hD hS ls hl
                          refine lv_iload hx hb d_Mo_unpacks_135 (lv_at hl 5 rfl) ?_
                          refine lv_iload hx hb d_Mo_unpacks_137 (lv_at hl 4 rfl) ?_
                          refine pc_jge (tgt := 192) hx hb d_Mo_unpacks_139 (by decide) (by omega) (by omega) (fun h_14 => ?_) (fun h_14 => ?_)
                          · skip
                            obtain ⟨fu9, rfl⟩ : ∃ z, fu = z + 1 := ⟨fu - 1, by omega⟩
                            have hiv : i = v / 2 := by omega
                            have hnew : bl u1 m1 = bl u m0 ++ ((bl t n).drop w1).take (v / 2) := by rw [hc, hiv]
                            refine lv_iload_n hx hb d_Mo_unpacks_192 rfl (lv_at hl 3 rfl) ?_
                            refine lv_iconst (v := nI 2) hx hb d_Mo_unpacks_193 (by decide) ?_
                            refine lv_irem hx hb d_Mo_unpacks_194 (by decide) ?_
                            refine pc_ti (y := nI (v % 2)) (pk_rem (by omega) (by omega) (by omega)) ?_
                            refine pc_zne (tgt := 209) hx hb d_Mo_unpacks_195 (by decide) (by omega) (fun h_d => absurd h_d (by omega)) (fun h_d => ?_)
                            refine lv_aload_n hx hb d_Mo_unpacks_198 rfl (lv_at hl 0 rfl) ?_
                            refine lv_dup hx hb d_Mo_unpacks_199 rfl ?_
                            refine va_get (ci := 5) (C := R_Mo) (T := F_Mo) (N := 13) hx hb hE.hts in_Mo hown hE.2.1 hP 0 rfl rfl 11 (by decide) (hE.w m_501) (fun _ h9 => h9) rfl d_Mo_unpacks_200 ?_
                            refine lv_iload hx hb d_Mo_unpacks_203 (lv_at hl 4 rfl) ?_
                            refine lv_iadd hx hb d_Mo_unpacks_205 ?_
                            refine pc_ti (y := nI (w1 + (v / 2))) (nI_add _ _) ?_
                            refine va_put (ci := 5) (ty := .int) (C := R_Mo) (T := F_Mo) (N := 13) hx hb hE.hts in_Mo t_Mo tk_Mo nn_Mo hown hE.2.1 hP hD hS 0 rfl rfl 11 (by decide) (hE.w m_501) (fun _ h9 => h9) rfl (by decide +kernel) (by rfl) (by rfl) (by exact Nat.le_of_ble_eq_true rfl) d_Mo_unpacks_206 (fun H locs hP hD hS => ?_)
                            have hP : va_P g.1 pc_cl [(y, .inr (5, [.ref ta, .ref oa, .ref ma, .int vn, .int vo, .int (nI m1), .ref ca, .ref na, .ref la, .int vc, .int vk, .int (nI (w1 + (v / 2))), .int vt])), (ta, .inl (g.2.1, 32768, .inl (bA t))), (ma, .inl (g.2.1, 32768, .inl (bA u1)))] H := hP
                            have hD : va_D A [(y, .inr (5, [.ref ta, .ref oa, .ref ma, .int vn, .int vo, .int (nI m1), .ref ca, .ref na, .ref la, .int vc, .int vk, .int (nI (w1 + (v / 2))), .int vt])), (ta, .inl (g.2.1, 32768, .inl (bA t))), (ma, .inl (g.2.1, 32768, .inl (bA u1)))] := hD
                            refine lv_goto (tgt := 28) hx hb d_Mo_unpacks_209 (by decide) ?_
                            exact ih_28 (w1 + (v / 2)) m1 u1 fu9 (by omega) (by omega) (by omega) (by rw [hnew]; refine Eq.trans (Eq.symm ?_) hU; first | exact un6 (by rw [bl_len]; omega) hyes (by rw [bl_len]; omega) (by omega) (by rw [bl_len]; omega) | exact un7 (by rw [bl_len]; omega) hyes (by rw [bl_len]; omega) (by omega) hyesd (by rw [bl_len]; omega)) (by omega) _ _ (hP.sub [0, 1, 2] rfl) (hD.sub [0, 1, 2] (by decide) rfl) hS _ (lv_sub hl [0, 1, 2] rfl)
                          · skip
                            refine lv_iload_n hx hb d_Mo_unpacks_142 rfl (lv_at hl 3 rfl) ?_
                            refine lv_iconst (v := nI 2) hx hb d_Mo_unpacks_143 (by decide) ?_
                            refine lv_irem hx hb d_Mo_unpacks_144 (by decide) ?_
                            refine pc_ti (y := nI (v % 2)) (pk_rem (by omega) (by omega) (by omega)) ?_
                            refine lv_iconst (v := nI 1) hx hb d_Mo_unpacks_145 (by decide) ?_
                            refine pc_jne (tgt := 169) hx hb d_Mo_unpacks_146 (by decide) (by omega) (by omega) (fun h_d => ?_) (fun h_d => absurd h_d (by omega))
                            refine lv_aload_n hx hb d_Mo_unpacks_169 rfl (lv_at hl 0 rfl) ?_
                            refine lv_aload_n hx hb d_Mo_unpacks_170 rfl (lv_at hl 0 rfl) ?_
                            refine va_get (ci := 5) (C := R_Mo) (T := F_Mo) (N := 13) hx hb hE.hts in_Mo hown hE.2.1 hP 0 rfl rfl 0 (by decide) (hE.w m_490) (fun _ h9 => h9) rfl d_Mo_unpacks_171 ?_
                            refine lv_aload_n hx hb d_Mo_unpacks_174 rfl (lv_at hl 0 rfl) ?_
                            refine va_get (ci := 5) (C := R_Mo) (T := F_Mo) (N := 13) hx hb hE.hts in_Mo hown hE.2.1 hP 0 rfl rfl 11 (by decide) (hE.w m_501) (fun _ h9 => h9) rfl d_Mo_unpacks_175 ?_
                            refine lv_iload hx hb d_Mo_unpacks_178 (lv_at hl 5 rfl) ?_
                            refine lv_iadd hx hb d_Mo_unpacks_180 ?_
                            refine pc_ti (y := nI (w1 + i)) (nI_add _ _) ?_
                            refine pc_bald hx hb hE.2.1 hP 1 0 rfl rfl (by omega) (by omega) d_Mo_unpacks_181 ?_
                            refine pc_i (wc := [(y, .inr (5, [.ref ta, .ref oa, .ref ma, .int vn, .int vo, .int (nI m1), .ref ca, .ref na, .ref la, .int vc, .int vk, .int (nI w1), .int vt])), (ma, .inl (g.2.1, 32768, .inl (bA u1)))]) (wr := [(ta, .inl (g.2.1, 32768, .inl (bA t)))]) (cells' := 0) (slots' := 0) hP hD hS hA [0, 2] [1] rfl rfl (by decide) (by decide) rfl rfl (va_runV (n := 1) (As := [.int (bA t (w1 + i))]) (rest := []) (C := R_Mo) ⟨hx, hb, hml, hown, hE.hts⟩ (c_Mo_one l g y ta oa ma ca na la vn vo vc vk (nI w1) vt m1 (bA t (w1 + i)) (bN t (w1 + i)) u1 (by omega) (sb_bA _ _) _) ⟨pc_cb hE m_569 m_5 m_566 (by decide +kernel) ⟨by exact Nat.le_of_ble_eq_true rfl, by exact Nat.le_of_ble_eq_true rfl⟩, hE.w m_568, hE.w ms_25⟩ (pc_preV (ci := 5) (q0 := 0) hP hD hE hS hA [0, 2] (by decide) rfl [.int (bA t (w1 + i))] rfl rfl) rfl rfl hl.1 rfl (lv_room (by exact Nat.le_of_ble_eq_true rfl)) d_Mo_unpacks_182 ⟨by exact Nat.le_of_ble_eq_true rfl, by exact Nat.le_of_ble_eq_true rfl⟩) (fun r_16 u_15 H locs hw hP hD hS => ?_)
                            obtain ⟨m2, u2⟩ := u_15
                            obtain ⟨rfl, hc2, hw3⟩ := hw
                            have hc2 : bl u2 m2 = (bl u1 m1 ++ [(bN t (w1 + i)) % 256]).take 32768 := hc2
                            have hw3 : m2 ≤ 32768 := hw3
                            have hP : va_P g.1 pc_cl [(ta, .inl (g.2.1, 32768, .inl (bA t))), (y, .inr (5, [.ref ta, .ref oa, .ref ma, .int vn, .int vo, .int (nI m2), .ref ca, .ref na, .ref la, .int vc, .int vk, .int (nI w1), .int vt])), (ma, .inl (g.2.1, 32768, .inl (bA u2)))] H := hP
                            have hD : va_D A [(ta, .inl (g.2.1, 32768, .inl (bA t))), (y, .inr (5, [.ref ta, .ref oa, .ref ma, .int vn, .int vo, .int (nI m2), .ref ca, .ref na, .ref la, .int vc, .int vk, .int (nI w1), .int vt])), (ma, .inl (g.2.1, 32768, .inl (bA u2)))] := hD
                            have h2o := one_fit hc2 (by omega) (bN_lt _ _)
                            refine lv_pop hx hb d_Mo_unpacks_185 rfl ?_
                            refine lv_iinc (v := nI (i + 1)) (lv' := [(6, .int (nI (i + 1))), (0, .ref y), (1, .int (nI n)), (2, .int (nI all)), (3, .int (nI v)), (4, .int (nI (v / 2)))]) hx hb d_Mo_unpacks_186 hl (k := 5) rfl (pc_inc i 1) (by decide) rfl (fun ls hl => ?_)
                            refine lv_goto (tgt := 135) hx hb d_Mo_unpacks_189 (by decide) ?_
                            exact ih_135 (i + 1) m2 u2 (by omega) (by omega) (pl_put hc h2o.1 (by omega)) (by omega) _ _ (hP.sub [1, 0, 2] rfl) (hD.sub [1, 0, 2] (by decide) rfl) hS _ (lv_sub hl [1, 2, 3, 4, 5, 0] rfl)
                      exact lp_135 (v / 2 - 0 + 1) 0 m0 u (by omega) rfl (by rw [List.take_zero, List.append_nil]) (Nat.lt_succ_self _) _ _ (hP.sub [1, 2, 0] rfl) (hD.sub [1, 2, 0] (by decide) rfl) hS _ (lv_sub hl [4, 5, 6, 3, 2, 0] rfl)
                    · skip
                      refine lv_iconst (v := nI 0) hx hb d_Mo_unpacks_130 (by decide) ?_
                      exact hQ _ _ 131 _ (nI 0) (w1, m0, u) d_Mo_unpacks_131 rfl (Or.inr ⟨rfl, by first | (exact unP_none hno) | (exact unP_big hall (by omega)) | (rw [← hU]; exact unA_over (by rw [bl_len]; omega) (by rw [bl_len]; omega)) | (rw [← hU]; exact un1 (by rw [bl_len]; omega) hno) | (rw [← hU]; exact un2 (by rw [bl_len]; omega) hyes (by rw [bl_len]; omega)) | (rw [← hU]; exact un3 (by rw [bl_len]; omega) hyes (by rw [bl_len]; omega) (by omega) (by rw [bl_len]; omega)) | (rw [← hU]; exact un4 (by rw [bl_len]; omega) hyes (by rw [bl_len]; omega) (by omega) hnod) | (rw [← hU]; exact un5 (by rw [bl_len]; omega) hyes (by rw [bl_len]; omega) (by omega) hyesd (by rw [bl_len]; omega))⟩) (hP.sub [1, 2, 0] rfl) (hD.sub [1, 2, 0] (by decide) rfl) hS
                · skip
                  refine lv_aload_n hx hb d_Mo_unpacks_71 rfl (lv_at hl 2 rfl) ?_
                  refine lv_iload_n hx hb d_Mo_unpacks_72 rfl (lv_at hl 3 rfl) ?_
                  refine pc_i (wc := [(y, .inr (5, [.ref ta, .ref oa, .ref ma, .int vn, .int vo, .int (nI m0), .ref ca, .ref na, .ref la, .int vc, .int vk, .int (nI w1), .int vt])), (ta, .inl (g.2.1, 32768, .inl (bA t)))]) (wr := [(ma, .inl (g.2.1, 32768, .inl (bA u)))]) (cells' := 0) (slots' := 0) hP hD hS hA [1, 2] [0] rfl rfl (by decide) (by decide) rfl rfl (va_runV (n := 1) (As := [.int (nI n)]) (rest := []) (C := R_Mo) ⟨hx, hb, hml, hown, hE.hts⟩ (c_Mo_read l g y ta oa ma ca na la vn vo (nI m0) vc vk vt n t w1 (by omega) (by omega) _) ⟨pc_cb hE m_598 m_5 m_595 (by decide +kernel) ⟨by exact Nat.le_of_ble_eq_true rfl, by exact Nat.le_of_ble_eq_true rfl⟩, hE.w m_597, hE.w ms_31⟩ (pc_preV (ci := 5) (q0 := 1) hP hD hE hS hA [1, 2] (by decide) rfl [.int (nI n)] rfl rfl) rfl rfl hl.1 rfl (lv_room (by exact Nat.le_of_ble_eq_true rfl)) d_Mo_unpacks_73 ⟨by exact Nat.le_of_ble_eq_true rfl, by exact Nat.le_of_ble_eq_true rfl⟩) (fun r_18 u_17 H locs hw hP hD hS => ?_)
                  obtain ⟨w2, rfl⟩ : ∃ z, z = u_17 := ⟨_, rfl⟩
                  have hw_19 := hw
                  have hw_19 : rdRes (readV (bl t n) w1) r_18 w2 n := hw_19
                  have hP : va_P g.1 pc_cl [(ma, .inl (g.2.1, 32768, .inl (bA u))), (y, .inr (5, [.ref ta, .ref oa, .ref ma, .int vn, .int vo, .int (nI m0), .ref ca, .ref na, .ref la, .int vc, .int vk, .int (nI w2), .int vt])), (ta, .inl (g.2.1, 32768, .inl (bA t)))] H := hP
                  have hD : va_D A [(ma, .inl (g.2.1, 32768, .inl (bA u))), (y, .inr (5, [.ref ta, .ref oa, .ref ma, .int vn, .int vo, .int (nI m0), .ref ca, .ref na, .ref la, .int vc, .int vk, .int (nI w2), .int vt])), (ta, .inl (g.2.1, 32768, .inl (bA t)))] := hD
                  rcases hw_19 with ⟨hnod, rfl, hp3⟩ | ⟨d, hyesd, rfl, hd31, hp3⟩
                  · skip
                    refine lv_goto (tgt := 80) hx hb d_Mo_unpacks_76 (by decide) ?_
                    refine lv_istore (lv' := [(5, .int (-1)), (4, .int (nI (v / 2))), (3, .int (nI v)), (0, .ref y), (1, .int (nI n)), (2, .int (nI all))]) hx hb d_Mo_unpacks_80 hl (by decide) rfl (fun ls hl => ?_)
                    refine lv_iload_n hx hb d_Mo_unpacks_82 rfl (lv_at hl 2 rfl) ?_
                    refine lv_iconst (v := nI 2) hx hb d_Mo_unpacks_83 (by decide) ?_
                    refine lv_irem hx hb d_Mo_unpacks_84 (by decide) ?_
                    refine pc_ti (y := nI (v % 2)) (pk_rem (by omega) (by omega) (by omega)) ?_
                    refine lv_iconst (v := nI 1) hx hb d_Mo_unpacks_85 (by decide) ?_
                    refine pc_jne (tgt := 113) hx hb d_Mo_unpacks_86 (by decide) (by omega) (by omega) (fun h_d => absurd h_d (by omega)) (fun h_d => ?_)
                    refine lv_iload hx hb d_Mo_unpacks_89 (lv_at hl 1 rfl) ?_
                    refine lv_iconst (v := nI 4) hx hb d_Mo_unpacks_91 (by decide) ?_
                    refine pc_jlt (tgt := 130) hx hb d_Mo_unpacks_92 (by decide) (by omega) (by omega) (fun h_20 => ?_) (fun h_20 => ?_)
                    · skip
                      refine lv_iconst (v := nI 0) hx hb d_Mo_unpacks_130 (by decide) ?_
                      exact hQ _ _ 131 _ (nI 0) (w2, m0, u) d_Mo_unpacks_131 rfl (Or.inr ⟨rfl, by first | (exact unP_none hno) | (exact unP_big hall (by omega)) | (rw [← hU]; exact unA_over (by rw [bl_len]; omega) (by rw [bl_len]; omega)) | (rw [← hU]; exact un1 (by rw [bl_len]; omega) hno) | (rw [← hU]; exact un2 (by rw [bl_len]; omega) hyes (by rw [bl_len]; omega)) | (rw [← hU]; exact un3 (by rw [bl_len]; omega) hyes (by rw [bl_len]; omega) (by omega) (by rw [bl_len]; omega)) | (rw [← hU]; exact un4 (by rw [bl_len]; omega) hyes (by rw [bl_len]; omega) (by omega) hnod) | (rw [← hU]; exact un5 (by rw [bl_len]; omega) hyes (by rw [bl_len]; omega) (by omega) hyesd (by rw [bl_len]; omega))⟩) (hP.sub [1, 2, 0] rfl) (hD.sub [1, 2, 0] (by decide) rfl) hS
                    · skip
                      refine lv_iload hx hb d_Mo_unpacks_95 (lv_at hl 0 rfl) ?_
                      refine lv_iconst (v := nI 1) hx hb d_Mo_unpacks_97 (by decide) ?_
                      refine lv_icmp_lt (tgt := 130) hx hb d_Mo_unpacks_98 (by decide) (fun h_d => ?_) (fun h_d => absurd h_d (fun z9 => z9 (by decide)))
                      refine lv_iconst (v := nI 0) hx hb d_Mo_unpacks_130 (by decide) ?_
                      exact hQ _ _ 131 _ (nI 0) (w2, m0, u) d_Mo_unpacks_131 rfl (Or.inr ⟨rfl, by first | (exact unP_none hno) | (exact unP_big hall (by omega)) | (rw [← hU]; exact unA_over (by rw [bl_len]; omega) (by rw [bl_len]; omega)) | (rw [← hU]; exact un1 (by rw [bl_len]; omega) hno) | (rw [← hU]; exact un2 (by rw [bl_len]; omega) hyes (by rw [bl_len]; omega)) | (rw [← hU]; exact un3 (by rw [bl_len]; omega) hyes (by rw [bl_len]; omega) (by omega) (by rw [bl_len]; omega)) | (rw [← hU]; exact un4 (by rw [bl_len]; omega) hyes (by rw [bl_len]; omega) (by omega) hnod) | (rw [← hU]; exact un5 (by rw [bl_len]; omega) hyes (by rw [bl_len]; omega) (by omega) hyesd (by rw [bl_len]; omega))⟩) (hP.sub [1, 2, 0] rfl) (hD.sub [1, 2, 0] (by decide) rfl) hS
                  · skip
                    have hind := readV_in hyesd
                    refine lv_goto (tgt := 80) hx hb d_Mo_unpacks_76 (by decide) ?_
                    refine lv_istore (lv' := [(5, .int (nI d)), (4, .int (nI (v / 2))), (3, .int (nI v)), (0, .ref y), (1, .int (nI n)), (2, .int (nI all))]) hx hb d_Mo_unpacks_80 hl (by decide) rfl (fun ls hl => ?_)
                    refine lv_iload_n hx hb d_Mo_unpacks_82 rfl (lv_at hl 2 rfl) ?_
                    refine lv_iconst (v := nI 2) hx hb d_Mo_unpacks_83 (by decide) ?_
                    refine lv_irem hx hb d_Mo_unpacks_84 (by decide) ?_
                    refine pc_ti (y := nI (v % 2)) (pk_rem (by omega) (by omega) (by omega)) ?_
                    refine lv_iconst (v := nI 1) hx hb d_Mo_unpacks_85 (by decide) ?_
                    refine pc_jne (tgt := 113) hx hb d_Mo_unpacks_86 (by decide) (by omega) (by omega) (fun h_d => absurd h_d (by omega)) (fun h_d => ?_)
                    refine lv_iload hx hb d_Mo_unpacks_89 (lv_at hl 1 rfl) ?_
                    refine lv_iconst (v := nI 4) hx hb d_Mo_unpacks_91 (by decide) ?_
                    refine pc_jlt (tgt := 130) hx hb d_Mo_unpacks_92 (by decide) (by omega) (by omega) (fun h_21 => ?_) (fun h_21 => ?_)
                    · skip
                      refine lv_iconst (v := nI 0) hx hb d_Mo_unpacks_130 (by decide) ?_
                      exact hQ _ _ 131 _ (nI 0) (w2, m0, u) d_Mo_unpacks_131 rfl (Or.inr ⟨rfl, by first | (exact unP_none hno) | (exact unP_big hall (by omega)) | (rw [← hU]; exact unA_over (by rw [bl_len]; omega) (by rw [bl_len]; omega)) | (rw [← hU]; exact un1 (by rw [bl_len]; omega) hno) | (rw [← hU]; exact un2 (by rw [bl_len]; omega) hyes (by rw [bl_len]; omega)) | (rw [← hU]; exact un3 (by rw [bl_len]; omega) hyes (by rw [bl_len]; omega) (by omega) (by rw [bl_len]; omega)) | (rw [← hU]; exact un4 (by rw [bl_len]; omega) hyes (by rw [bl_len]; omega) (by omega) hnod) | (rw [← hU]; exact un5 (by rw [bl_len]; omega) hyes (by rw [bl_len]; omega) (by omega) hyesd (by rw [bl_len]; omega))⟩) (hP.sub [1, 2, 0] rfl) (hD.sub [1, 2, 0] (by decide) rfl) hS
                    · skip
                      refine lv_iload hx hb d_Mo_unpacks_95 (lv_at hl 0 rfl) ?_
                      refine lv_iconst (v := nI 1) hx hb d_Mo_unpacks_97 (by decide) ?_
                      refine pc_jlt (tgt := 130) hx hb d_Mo_unpacks_98 (by decide) (by omega) (by omega) (fun h_22 => ?_) (fun h_22 => ?_)
                      · skip
                        refine lv_iconst (v := nI 0) hx hb d_Mo_unpacks_130 (by decide) ?_
                        exact hQ _ _ 131 _ (nI 0) (w2, m0, u) d_Mo_unpacks_131 rfl (Or.inr ⟨rfl, by first | (exact unP_none hno) | (exact unP_big hall (by omega)) | (rw [← hU]; exact unA_over (by rw [bl_len]; omega) (by rw [bl_len]; omega)) | (rw [← hU]; exact un1 (by rw [bl_len]; omega) hno) | (rw [← hU]; exact un2 (by rw [bl_len]; omega) hyes (by rw [bl_len]; omega)) | (rw [← hU]; exact un3 (by rw [bl_len]; omega) hyes (by rw [bl_len]; omega) (by omega) (by rw [bl_len]; omega)) | (rw [← hU]; exact un4 (by rw [bl_len]; omega) hyes (by rw [bl_len]; omega) (by omega) hnod) | (rw [← hU]; exact un5 (by rw [bl_len]; omega) hyes (by rw [bl_len]; omega) (by omega) hyesd (by rw [bl_len]; omega))⟩) (hP.sub [1, 2, 0] rfl) (hD.sub [1, 2, 0] (by decide) rfl) hS
                      · skip
                        refine lv_iload hx hb d_Mo_unpacks_101 (lv_at hl 0 rfl) ?_
                        refine lv_aload_n hx hb d_Mo_unpacks_103 rfl (lv_at hl 3 rfl) ?_
                        refine va_get (ci := 5) (C := R_Mo) (T := F_Mo) (N := 13) hx hb hE.hts in_Mo hown hE.2.1 hP 1 rfl rfl 5 (by decide) (hE.w m_495) (fun _ h9 => h9) rfl d_Mo_unpacks_104 ?_
                        refine pc_jle (tgt := 132) hx hb d_Mo_unpacks_107 (by decide) (by omega) (by omega) (fun h_23 => ?_) (fun h_23 => ?_)
                        · skip
                          refine lv_iconst (v := nI 0) hx hb d_Mo_unpacks_132 (by decide) ?_
                          refine lv_istore (lv' := [(6, .int (nI 0)), (5, .int (nI d)), (4, .int (nI (v / 2))), (3, .int (nI v)), (0, .ref y), (1, .int (nI n)), (2, .int (nI all))]) hx hb d_Mo_unpacks_133 hl (by decide) rfl (fun ls hl => ?_)
                          have lp_135 : ∀ (n9 : Nat) (i : Nat) (m1 : Nat) (u1 : Nat → UInt8) (hi : i ≤ v / 2) (hm1 : m1 = m0 + i) (hc : backL d (v / 2 - i) (bl u1 m1) = backL d (v / 2) (bl u m0)) (hmu : v / 2 - i < n9) (H : Heap) (locs : List Loc) (hP : va_P g.1 pc_cl [(y, .inr (5, [.ref ta, .ref oa, .ref ma, .int vn, .int vo, .int (nI m1), .ref ca, .ref na, .ref la, .int vc, .int vk, .int (nI w2), .int vt])), (ta, .inl (g.2.1, 32768, .inl (bA t))), (ma, .inl (g.2.1, 32768, .inl (bA u1)))] H) (hD : va_D A [(y, .inr (5, [.ref ta, .ref oa, .ref ma, .int vn, .int vo, .int (nI m1), .ref ca, .ref na, .ref la, .int vc, .int vk, .int (nI w2), .int vt])), (ta, .inl (g.2.1, 32768, .inl (bA t))), (ma, .inl (g.2.1, 32768, .inl (bA u1)))]) (hS : va_S A s.heap H locs) (ls : Array Slot) (hl : lv_has ls 7 [(0, .ref y), (1, .int (nI n)), (2, .int (nI all)), (3, .int (nI v)), (4, .int (nI (v / 2))), (6, .int (nI i)), (5, .int (nI d))]), W p l e rm_Mo_unpacks s m ([.ref y, .int (nI n)] : List Value).toArray below meth c H locs 0 0 Q (F0 m 135 ls []) := by
                            intro n9
                            induction n9 with
                            | zero => intros; omega
                            | succ n9 ih_135 =>
                              intro i m1 u1 hi hm1 hc hmu H locs hP hD hS ls hl
                              refine lv_iload hx hb d_Mo_unpacks_135 (lv_at hl 5 rfl) ?_
                              refine lv_iload hx hb d_Mo_unpacks_137 (lv_at hl 4 rfl) ?_
                              refine pc_jge (tgt := 192) hx hb d_Mo_unpacks_139 (by decide) (by omega) (by omega) (fun h_24 => ?_) (fun h_24 => ?_)
                              · skip
                                obtain ⟨fu9, rfl⟩ : ∃ z, fu = z + 1 := ⟨fu - 1, by omega⟩
                                have hiv : i = v / 2 := by omega
                                have hnew : bl u1 m1 = backL d (v / 2) (bl u m0) := by rw [← hc, hiv, Nat.sub_self]; rfl
                                refine lv_iload_n hx hb d_Mo_unpacks_192 rfl (lv_at hl 3 rfl) ?_
                                refine lv_iconst (v := nI 2) hx hb d_Mo_unpacks_193 (by decide) ?_
                                refine lv_irem hx hb d_Mo_unpacks_194 (by decide) ?_
                                refine pc_ti (y := nI (v % 2)) (pk_rem (by omega) (by omega) (by omega)) ?_
                                refine pc_zne (tgt := 209) hx hb d_Mo_unpacks_195 (by decide) (by omega) (fun h_d => ?_) (fun h_d => absurd h_d (by omega))
                                refine lv_goto (tgt := 28) hx hb d_Mo_unpacks_209 (by decide) ?_
                                exact ih_28 w2 m1 u1 fu9 (by omega) (by omega) (by omega) (by rw [hnew]; refine Eq.trans (Eq.symm ?_) hU; first | exact un6 (by rw [bl_len]; omega) hyes (by rw [bl_len]; omega) (by omega) (by rw [bl_len]; omega) | exact un7 (by rw [bl_len]; omega) hyes (by rw [bl_len]; omega) (by omega) hyesd (by rw [bl_len]; omega)) (by omega) _ _ (hP.sub [0, 1, 2] rfl) (hD.sub [0, 1, 2] (by decide) rfl) hS _ (lv_sub hl [0, 1, 2] rfl)
                              · skip
                                refine lv_iload_n hx hb d_Mo_unpacks_142 rfl (lv_at hl 3 rfl) ?_
                                refine lv_iconst (v := nI 2) hx hb d_Mo_unpacks_143 (by decide) ?_
                                refine lv_irem hx hb d_Mo_unpacks_144 (by decide) ?_
                                refine pc_ti (y := nI (v % 2)) (pk_rem (by omega) (by omega) (by omega)) ?_
                                refine lv_iconst (v := nI 1) hx hb d_Mo_unpacks_145 (by decide) ?_
                                refine pc_jne (tgt := 169) hx hb d_Mo_unpacks_146 (by decide) (by omega) (by omega) (fun h_d => absurd h_d (by omega)) (fun h_d => ?_)
                                refine lv_aload_n hx hb d_Mo_unpacks_149 rfl (lv_at hl 0 rfl) ?_
                                refine lv_aload_n hx hb d_Mo_unpacks_150 rfl (lv_at hl 0 rfl) ?_
                                refine va_get (ci := 5) (C := R_Mo) (T := F_Mo) (N := 13) hx hb hE.hts in_Mo hown hE.2.1 hP 0 rfl rfl 2 (by decide) (hE.w m_492) (fun _ h9 => h9) rfl d_Mo_unpacks_151 ?_
                                refine lv_aload_n hx hb d_Mo_unpacks_154 rfl (lv_at hl 0 rfl) ?_
                                refine va_get (ci := 5) (C := R_Mo) (T := F_Mo) (N := 13) hx hb hE.hts in_Mo hown hE.2.1 hP 0 rfl rfl 5 (by decide) (hE.w m_495) (fun _ h9 => h9) rfl d_Mo_unpacks_155 ?_
                                refine lv_iload hx hb d_Mo_unpacks_158 (lv_at hl 6 rfl) ?_
                                refine lv_isub hx hb d_Mo_unpacks_160 ?_
                                refine pc_ti (y := nI (m1 - d)) (pk_sub (by omega)) ?_
                                refine pc_bald hx hb hE.2.1 hP 2 0 rfl rfl (by omega) (by omega) d_Mo_unpacks_161 ?_
                                refine pc_i (wc := [(y, .inr (5, [.ref ta, .ref oa, .ref ma, .int vn, .int vo, .int (nI m1), .ref ca, .ref na, .ref la, .int vc, .int vk, .int (nI w2), .int vt])), (ma, .inl (g.2.1, 32768, .inl (bA u1)))]) (wr := [(ta, .inl (g.2.1, 32768, .inl (bA t)))]) (cells' := 0) (slots' := 0) hP hD hS hA [0, 2] [1] rfl rfl (by decide) (by decide) rfl rfl (va_runV (n := 1) (As := [.int (bA u1 (m1 - d))]) (rest := []) (C := R_Mo) ⟨hx, hb, hml, hown, hE.hts⟩ (c_Mo_one l g y ta oa ma ca na la vn vo vc vk (nI w2) vt m1 (bA u1 (m1 - d)) (bN u1 (m1 - d)) u1 (by omega) (sb_bA _ _) _) ⟨pc_cb hE m_569 m_5 m_566 (by decide +kernel) ⟨by exact Nat.le_of_ble_eq_true rfl, by exact Nat.le_of_ble_eq_true rfl⟩, hE.w m_568, hE.w ms_25⟩ (pc_preV (ci := 5) (q0 := 0) hP hD hE hS hA [0, 2] (by decide) rfl [.int (bA u1 (m1 - d))] rfl rfl) rfl rfl hl.1 rfl (lv_room (by exact Nat.le_of_ble_eq_true rfl)) d_Mo_unpacks_162 ⟨by exact Nat.le_of_ble_eq_true rfl, by exact Nat.le_of_ble_eq_true rfl⟩) (fun r_26 u_25 H locs hw hP hD hS => ?_)
                                obtain ⟨m2, u2⟩ := u_25
                                obtain ⟨rfl, hc2, hw3⟩ := hw
                                have hc2 : bl u2 m2 = (bl u1 m1 ++ [(bN u1 (m1 - d)) % 256]).take 32768 := hc2
                                have hw3 : m2 ≤ 32768 := hw3
                                have hP : va_P g.1 pc_cl [(ta, .inl (g.2.1, 32768, .inl (bA t))), (y, .inr (5, [.ref ta, .ref oa, .ref ma, .int vn, .int vo, .int (nI m2), .ref ca, .ref na, .ref la, .int vc, .int vk, .int (nI w2), .int vt])), (ma, .inl (g.2.1, 32768, .inl (bA u2)))] H := hP
                                have hD : va_D A [(ta, .inl (g.2.1, 32768, .inl (bA t))), (y, .inr (5, [.ref ta, .ref oa, .ref ma, .int vn, .int vo, .int (nI m2), .ref ca, .ref na, .ref la, .int vc, .int vk, .int (nI w2), .int vt])), (ma, .inl (g.2.1, 32768, .inl (bA u2)))] := hD
                                have h2o := one_fit hc2 (by omega) (bN_lt _ _)
                                refine lv_pop hx hb d_Mo_unpacks_165 rfl ?_
                                refine lv_goto (tgt := 186) hx hb d_Mo_unpacks_166 (by decide) ?_
                                refine lv_iinc (v := nI (i + 1)) (lv' := [(6, .int (nI (i + 1))), (0, .ref y), (1, .int (nI n)), (2, .int (nI all)), (3, .int (nI v)), (4, .int (nI (v / 2))), (5, .int (nI d))]) hx hb d_Mo_unpacks_186 hl (k := 5) rfl (pc_inc i 1) (by decide) rfl (fun ls hl => ?_)
                                refine lv_goto (tgt := 135) hx hb d_Mo_unpacks_189 (by decide) ?_
                                exact ih_135 (i + 1) m2 u2 (by omega) (by omega) (po_put (by omega) (by omega) (by omega) hc h2o.1) (by omega) _ _ (hP.sub [1, 0, 2] rfl) (hD.sub [1, 0, 2] (by decide) rfl) hS _ (lv_sub hl [1, 2, 3, 4, 5, 0, 6] rfl)
                          exact lp_135 (v / 2 - 0 + 1) 0 m0 u (by omega) rfl rfl (Nat.lt_succ_self _) _ _ (hP.sub [1, 2, 0] rfl) (hD.sub [1, 2, 0] (by decide) rfl) hS _ (lv_sub hl [4, 5, 6, 3, 2, 0, 1] rfl)
                        · skip
                          refine lv_goto (tgt := 130) hx hb d_Mo_unpacks_110 (by decide) ?_
                          refine lv_iconst (v := nI 0) hx hb d_Mo_unpacks_130 (by decide) ?_
                          exact hQ _ _ 131 _ (nI 0) (w2, m0, u) d_Mo_unpacks_131 rfl (Or.inr ⟨rfl, by first | (exact unP_none hno) | (exact unP_big hall (by omega)) | (rw [← hU]; exact unA_over (by rw [bl_len]; omega) (by rw [bl_len]; omega)) | (rw [← hU]; exact un1 (by rw [bl_len]; omega) hno) | (rw [← hU]; exact un2 (by rw [bl_len]; omega) hyes (by rw [bl_len]; omega)) | (rw [← hU]; exact un3 (by rw [bl_len]; omega) hyes (by rw [bl_len]; omega) (by omega) (by rw [bl_len]; omega)) | (rw [← hU]; exact un4 (by rw [bl_len]; omega) hyes (by rw [bl_len]; omega) (by omega) hnod) | (rw [← hU]; exact un5 (by rw [bl_len]; omega) hyes (by rw [bl_len]; omega) (by omega) hyesd (by rw [bl_len]; omega))⟩) (hP.sub [1, 2, 0] rfl) (hD.sub [1, 2, 0] (by decide) rfl) hS
              · skip
                refine lv_iconst (v := nI 0) hx hb d_Mo_unpacks_62 (by decide) ?_
                exact hQ _ _ 63 _ (nI 0) (w1, m0, u) d_Mo_unpacks_63 rfl (Or.inr ⟨rfl, by first | (exact unP_none hno) | (exact unP_big hall (by omega)) | (rw [← hU]; exact unA_over (by rw [bl_len]; omega) (by rw [bl_len]; omega)) | (rw [← hU]; exact un1 (by rw [bl_len]; omega) hno) | (rw [← hU]; exact un2 (by rw [bl_len]; omega) hyes (by rw [bl_len]; omega)) | (rw [← hU]; exact un3 (by rw [bl_len]; omega) hyes (by rw [bl_len]; omega) (by omega) (by rw [bl_len]; omega)) | (rw [← hU]; exact un4 (by rw [bl_len]; omega) hyes (by rw [bl_len]; omega) (by omega) hnod) | (rw [← hU]; exact un5 (by rw [bl_len]; omega) hyes (by rw [bl_len]; omega) (by omega) hyesd (by rw [bl_len]; omega))⟩) (hP.sub [1, 2, 0] rfl) (hD.sub [1, 2, 0] (by decide) rfl) hS
      exact lp_28 (all - 0 + 1) w9 0 mt (all + 1) (by omega) (by omega) (by omega) (unP_go hall (by omega)) (Nat.lt_succ_self _) _ _ (hP.sub [1, 2, 0] rfl) (hD.sub [1, 2, 0] (by decide) rfl) hS _ (lv_sub hl [1, 2, 0] rfl)
    · skip
      refine lv_iconst (v := nI 0) hx hb d_Mo_unpacks_26 (by decide) ?_
      exact hQ _ _ 27 _ (nI 0) (w9, 0, mt) d_Mo_unpacks_27 rfl (Or.inr ⟨rfl, by first | (exact unP_none hno) | (exact unP_big hall (by omega)) | (rw [← hU]; exact unA_over (by rw [bl_len]; omega) (by rw [bl_len]; omega)) | (rw [← hU]; exact un1 (by rw [bl_len]; omega) hno) | (rw [← hU]; exact un2 (by rw [bl_len]; omega) hyes (by rw [bl_len]; omega)) | (rw [← hU]; exact un3 (by rw [bl_len]; omega) hyes (by rw [bl_len]; omega) (by omega) (by rw [bl_len]; omega)) | (rw [← hU]; exact un4 (by rw [bl_len]; omega) hyes (by rw [bl_len]; omega) (by omega) hnod) | (rw [← hU]; exact un5 (by rw [bl_len]; omega) hyes (by rw [bl_len]; omega) (by omega) hyesd (by rw [bl_len]; omega))⟩) (hP.sub [1, 2, 0] rfl) (hD.sub [1, 2, 0] (by decide) rfl) hS
abbrev rm_Mo_unpack0 : Room := { frames := 6, cells := 1, slots := 6, locals := 81 }
set_option maxHeartbeats 1000000 in
set_option maxRecDepth 100000 in
/-- unpack -/
theorem c_Mo_unpack0 (l : Launch) (htr : l.stackTraces = false) (g : pc_G) (y : Nat) (ta : Nat) (oa : Nat) (ma : Nat) (ca : Nat) (na : Nat) (la : Nat) (vo : Int32) (vm : Int32) (vc : Int32) (vk : Int32) (va : Int32) (vt : Int32) (n : Nat) (t : Nat → UInt8) (mt : Nat → UInt8) (ot : Nat → UInt8) (hn : n ≤ 32768) : pc_X (S := Nat × Nat × (Nat → UInt8) × Int32 × (Nat → UInt8) × Nat) l y_Mo_unpack0 (.code y_Mo_unpack0 prog_11_method_12_code 2 (some .int)) (some .int) rm_Mo_unpack0 g [(y, .inr (5, [.ref ta, .ref oa, .ref ma, .int (nI n), .int vo, .int vm, .ref ca, .ref na, .ref la, .int vc, .int vk, .int va, .int vt])), (ta, .inl (g.2.1, 32768, .inl (bA t))), (ma, .inl (g.2.1, 32768, .inl (bA mt))), (oa, .inl (g.2.1, 32768, .inl (bA ot)))] [.ref y] (fun rv u => (rv = .inl (nI u.2.2.2.2.2) ∧ unP (bl t n) 0 = some (bl u.2.2.2.2.1 u.2.2.2.2.2) ∧ u.2.2.2.2.2 ≤ 32768 ∧ u.2.2.2.1 = nI u.2.2.2.2.2) ∨ (rv = .inr "java/lang/IllegalArgumentException" ∧ unP (bl t n) 0 = none ∧ u.2.2.2.1 = vo ∧ u.2.2.2.2.1 = ot)) (fun u => [(y, .inr (5, [.ref ta, .ref oa, .ref ma, .int (nI 0), .int u.2.2.2.1, .int (nI u.2.1), .ref ca, .ref na, .ref la, .int vc, .int vk, .int (nI u.1), .int vt])), (ta, .inl (g.2.1, 32768, .inl (bA t))), (ma, .inl (g.2.1, 32768, .inl (bA u.2.2.1))), (oa, .inl (g.2.1, 32768, .inl (bA u.2.2.2.2.1)))]) := by
  refine pc_X.of (cc := prog_11_method_12_code) (nL := 2) (rt := (some .int)) (hh := []) (by decide) tx_wd.plain (by exact Nat.le_of_ble_eq_true rfl) htr ?_
  intro p e s m below meth c A Q hx hb hml hown hE hA htab hR hT hO hP hD ls hl
  have hS : va_S A s.heap s.heap [] := va_S.rf
  have hl : lv_has ls 2 [(0, .ref y)] := hl
  refine lv_aload_n hx hb d_Mo_unpack0_0 rfl (lv_at hl 0 rfl) ?_
  refine va_get (ci := 5) (C := R_Mo) (T := F_Mo) (N := 13) hx hb hE.hts in_Mo hown hE.2.1 hP 0 rfl rfl 3 (by decide) (hE.w m_493) (fun _ h9 => h9) rfl d_Mo_unpack0_1 ?_
  refine lv_istore_n (lv' := [(1, .int (nI n)), (0, .ref y)]) hx hb d_Mo_unpack0_4 rfl hl (by decide) rfl (fun ls hl => ?_)
  refine lv_aload_n hx hb d_Mo_unpack0_5 rfl (lv_at hl 1 rfl) ?_
  refine lv_iconst (v := nI 0) hx hb d_Mo_unpack0_6 (by decide) ?_
  refine va_put (ci := 5) (ty := .int) (C := R_Mo) (T := F_Mo) (N := 13) hx hb hE.hts in_Mo t_Mo tk_Mo nn_Mo hown hE.2.1 hP hD hS 0 rfl rfl 3 (by decide) (hE.w m_493) (fun _ h9 => h9) rfl (by decide +kernel) (by rfl) (by rfl) (by exact Nat.le_of_ble_eq_true rfl) d_Mo_unpack0_7 (fun H locs hP hD hS => ?_)
  have hP : va_P g.1 pc_cl [(y, .inr (5, [.ref ta, .ref oa, .ref ma, .int (nI 0), .int vo, .int vm, .ref ca, .ref na, .ref la, .int vc, .int vk, .int va, .int vt])), (ta, .inl (g.2.1, 32768, .inl (bA t))), (ma, .inl (g.2.1, 32768, .inl (bA mt))), (oa, .inl (g.2.1, 32768, .inl (bA ot)))] H := hP
  have hD : va_D A [(y, .inr (5, [.ref ta, .ref oa, .ref ma, .int (nI 0), .int vo, .int vm, .ref ca, .ref na, .ref la, .int vc, .int vk, .int va, .int vt])), (ta, .inl (g.2.1, 32768, .inl (bA t))), (ma, .inl (g.2.1, 32768, .inl (bA mt))), (oa, .inl (g.2.1, 32768, .inl (bA ot)))] := hD
  refine lv_aload_n hx hb d_Mo_unpack0_10 rfl (lv_at hl 1 rfl) ?_
  refine lv_iload_n hx hb d_Mo_unpack0_11 rfl (lv_at hl 0 rfl) ?_
  refine pc_i (wc := [(y, .inr (5, [.ref ta, .ref oa, .ref ma, .int (nI 0), .int vo, .int vm, .ref ca, .ref na, .ref la, .int vc, .int vk, .int va, .int vt])), (ta, .inl (g.2.1, 32768, .inl (bA t))), (ma, .inl (g.2.1, 32768, .inl (bA mt)))]) (wr := [(oa, .inl (g.2.1, 32768, .inl (bA ot)))]) (cells' := 0) (slots' := 0) hP hD hS hA [0, 1, 2] [3] rfl rfl (by decide) (by decide) rfl rfl (va_runV (n := 1) (As := [.int (nI n)]) (rest := []) (C := R_Mo) ⟨hx, hb, hml, hown, hE.hts⟩ (c_Mo_unpacks l g y ta oa ma ca na la (nI 0) vo vm vc vk va vt n t mt (by omega) _) ⟨pc_cb hE m_594 m_5 m_591 (by decide +kernel) ⟨by exact Nat.le_of_ble_eq_true rfl, by exact Nat.le_of_ble_eq_true rfl⟩, hE.w m_593, hE.w ms_30⟩ (pc_preV (ci := 5) (q0 := 0) hP hD hE hS hA [0, 1, 2] (by decide) rfl [.int (nI n)] rfl rfl) rfl rfl hl.1 rfl (lv_room (by exact Nat.le_of_ble_eq_true rfl)) d_Mo_unpack0_12 ⟨by exact Nat.le_of_ble_eq_true rfl, by exact Nat.le_of_ble_eq_true rfl⟩) (fun r_2 u_1 H locs hw hP hD hS => ?_)
  obtain ⟨a2_3, m9, mt2_4⟩ := u_1
  have hw_5 := hw
  have hw_5 : (r_2 = 1 ∧ unP (bl t n) 0 = some (bl mt2_4 m9) ∧ m9 ≤ 32768) ∨ (r_2 = 0 ∧ unP (bl t n) 0 = none) := hw_5
  have hP : va_P g.1 pc_cl [(oa, .inl (g.2.1, 32768, .inl (bA ot))), (y, .inr (5, [.ref ta, .ref oa, .ref ma, .int (nI 0), .int vo, .int (nI m9), .ref ca, .ref na, .ref la, .int vc, .int vk, .int (nI a2_3), .int vt])), (ta, .inl (g.2.1, 32768, .inl (bA t))), (ma, .inl (g.2.1, 32768, .inl (bA mt2_4)))] H := hP
  have hD : va_D A [(oa, .inl (g.2.1, 32768, .inl (bA ot))), (y, .inr (5, [.ref ta, .ref oa, .ref ma, .int (nI 0), .int vo, .int (nI m9), .ref ca, .ref na, .ref la, .int vc, .int vk, .int (nI a2_3), .int vt])), (ta, .inl (g.2.1, 32768, .inl (bA t))), (ma, .inl (g.2.1, 32768, .inl (bA mt2_4)))] := hD
  rcases hw_5 with ⟨rfl, hg1⟩ | ⟨rfl, hg1⟩
  · skip
    refine pc_ti (y := nI 1) rfl ?_
    refine pc_zne (tgt := 26) hx hb d_Mo_unpack0_15 (by decide) (by omega) (fun h_d => ?_) (fun h_d => absurd h_d (by decide))
    refine lv_aload_n hx hb d_Mo_unpack0_26 rfl (lv_at hl 1 rfl) ?_
    refine pc_v (wc := [(y, .inr (5, [.ref ta, .ref oa, .ref ma, .int (nI 0), .int vo, .int (nI m9), .ref ca, .ref na, .ref la, .int vc, .int vk, .int (nI a2_3), .int vt])), (ma, .inl (g.2.1, 32768, .inl (bA mt2_4))), (oa, .inl (g.2.1, 32768, .inl (bA ot)))]) (wr := [(ta, .inl (g.2.1, 32768, .inl (bA t)))]) (cells' := 0) (slots' := 0) hP hD hS hA [1, 3, 0] [2] rfl rfl (by decide) (by decide) rfl rfl (va_runV (n := 0) (As := []) (rest := []) (C := R_Mo) ⟨hx, hb, hml, hown, hE.hts⟩ (c_Mo_keep l g y ta oa ma ca na la (nI 0) vc vk (nI a2_3) vt m9 vo mt2_4 ot hg1.2 _) ⟨pc_cb hE m_581 m_5 m_578 (by decide +kernel) ⟨by exact Nat.le_of_ble_eq_true rfl, by exact Nat.le_of_ble_eq_true rfl⟩, hE.w m_580, hE.w ms_28⟩ (pc_preV (ci := 5) (q0 := 1) hP hD hE hS hA [1, 3, 0] (by decide) rfl [] rfl rfl) rfl rfl hl.1 rfl (lv_room (by exact Nat.le_of_ble_eq_true rfl)) d_Mo_unpack0_27 ⟨by exact Nat.le_of_ble_eq_true rfl, by exact Nat.le_of_ble_eq_true rfl⟩) (fun u_6 H locs hw hP hD hS => ?_)
    obtain ⟨t2_8, rfl⟩ : ∃ z, z = u_6 := ⟨_, rfl⟩
    have hc8 := hw
    have hc8 : bl t2_8 m9 = bl mt2_4 m9 := hc8
    have hP : va_P g.1 pc_cl [(ta, .inl (g.2.1, 32768, .inl (bA t))), (y, .inr (5, [.ref ta, .ref oa, .ref ma, .int (nI 0), .int (nI m9), .int (nI m9), .ref ca, .ref na, .ref la, .int vc, .int vk, .int (nI a2_3), .int vt])), (ma, .inl (g.2.1, 32768, .inl (bA mt2_4))), (oa, .inl (g.2.1, 32768, .inl (bA t2_8)))] H := hP
    have hD : va_D A [(ta, .inl (g.2.1, 32768, .inl (bA t))), (y, .inr (5, [.ref ta, .ref oa, .ref ma, .int (nI 0), .int (nI m9), .int (nI m9), .ref ca, .ref na, .ref la, .int vc, .int vk, .int (nI a2_3), .int vt])), (ma, .inl (g.2.1, 32768, .inl (bA mt2_4))), (oa, .inl (g.2.1, 32768, .inl (bA t2_8)))] := hD
    refine lv_aload_n hx hb d_Mo_unpack0_30 rfl (lv_at hl 1 rfl) ?_
    refine va_get (ci := 5) (C := R_Mo) (T := F_Mo) (N := 13) hx hb hE.hts in_Mo hown hE.2.1 hP 1 rfl rfl 4 (by decide) (hE.w m_494) (fun _ h9 => h9) rfl d_Mo_unpack0_31 ?_
    refine W.widen (k := rm_Mo_unpack0.cells) (n := rm_Mo_unpack0.slots) (by exact Nat.le_of_ble_eq_true rfl) (by exact Nat.le_of_ble_eq_true rfl) ?_
    exact hR _ _ 34 _ (nI m9) (a2_3, m9, mt2_4, nI m9, t2_8, m9) d_Mo_unpack0_34 rfl (Or.inl (⟨rfl, by rw [hc8]; exact hg1.1, hg1.2, rfl⟩)) (hP.sub [1, 0, 2, 3] rfl) (hD.sub [1, 0, 2, 3] (by decide) rfl) hS
  · skip
    refine pc_ti (y := nI 0) rfl ?_
    refine pc_zne (tgt := 26) hx hb d_Mo_unpack0_15 (by decide) (by omega) (fun h_d => absurd h_d (fun k9 => k9 rfl)) (fun h_d => ?_)
    exact hT "java/lang/IllegalArgumentException" 37 39 _ _ 0 0 18 _ (a2_3, m9, mt2_4, vo, ot, 0) (by decide) m_548 m_10 ta_3 (hl.1.trans hml.symm) d_Mo_unpack0_18 d_Mo_unpack0_21 d_Mo_unpack0_22 d_Mo_unpack0_25 (by decide) ⟨by exact Nat.le_of_ble_eq_true rfl, by exact Nat.le_of_ble_eq_true rfl, by exact Nat.le_of_ble_eq_true rfl, by exact Nat.le_of_ble_eq_true rfl⟩ (Or.inr (⟨rfl, hg1, rfl, rfl⟩)) (hP.sub [1, 2, 3, 0] rfl) (hD.sub [1, 2, 3, 0] (by decide) rfl) hS
abbrev rm_Mo_checksum0 : Room := { frames := 6, cells := 1, slots := 6, locals := 81 }
set_option maxHeartbeats 1000000 in
set_option maxRecDepth 100000 in
/-- checksum -/
theorem c_Mo_checksum0 (l : Launch) (htr : l.stackTraces = false) (g : pc_G) (y : Nat) (ta : Nat) (oa : Nat) (ma : Nat) (ca : Nat) (na : Nat) (la : Nat) (vn : Int32) (vm : Int32) (vc : Int32) (vk : Int32) (va : Int32) (vt : Int32) (n : Nat) (t : Nat → UInt8) (k : Int32) (hn : n ≤ 32768) : pc_X (S := Unit) l y_Mo_checksum0 (.code y_Mo_checksum0 prog_11_method_25_code 7 (some .int)) (some .int) rm_Mo_checksum0 g [(y, .inr (5, [.ref ta, .ref oa, .ref ma, .int vn, .int (nI n), .int vm, .ref ca, .ref na, .ref la, .int vc, .int vk, .int va, .int vt])), (oa, .inl (g.2.1, 32768, .inl (bA t)))] [.ref y, .int k] (fun rv _ => (rv = .inl (cF t (iN k) ^^^ (-1)) ∧ ¬ k < 0 ∧ iN k ≤ n) ∨ (rv = .inr "java/lang/IllegalArgumentException" ∧ (k < 0 ∨ n < iN k))) (fun _ => [(y, .inr (5, [.ref ta, .ref oa, .ref ma, .int vn, .int (nI n), .int vm, .ref ca, .ref na, .ref la, .int vc, .int vk, .int va, .int vt])), (oa, .inl (g.2.1, 32768, .inl (bA t)))]) := by
  refine pc_X.of (cc := prog_11_method_25_code) (nL := 7) (rt := (some .int)) (hh := []) (by decide) tx_wd.plain (by exact Nat.le_of_ble_eq_true rfl) htr ?_
  intro p e s m below meth c A Q hx hb hml hown hE hA htab hR hT hO hP hD ls hl
  have hS : va_S A s.heap s.heap [] := va_S.rf
  have hl : lv_has ls 7 [(0, .ref y), (1, .int k)] := hl
  refine lv_iload_n hx hb d_Mo_checksum0_0 rfl (lv_at hl 1 rfl) ?_
  refine lv_if_lt (tgt := 12) hx hb d_Mo_checksum0_1 (by decide) (fun h_1 => ?_) (fun h_1 => ?_)
  · skip
    exact hT "java/lang/IllegalArgumentException" 37 39 _ _ 0 0 12 _ () (by decide) m_548 m_10 ta_3 (hl.1.trans hml.symm) d_Mo_checksum0_12 d_Mo_checksum0_15 d_Mo_checksum0_16 d_Mo_checksum0_19 (by decide) ⟨by exact Nat.le_of_ble_eq_true rfl, by exact Nat.le_of_ble_eq_true rfl, by exact Nat.le_of_ble_eq_true rfl, by exact Nat.le_of_ble_eq_true rfl⟩ (Or.inr (⟨rfl, by first | exact Or.inl (by assumption) | exact Or.inr (by omega)⟩)) (hP.sub [0, 1] rfl) (hD.sub [0, 1] (by decide) rfl) hS
  · skip
    have hk31 := iN_lt h_1
    have hl : lv_has ls 7 [(0, .ref y), (1, .int (nI (iN k)))] := by rw [← show k = nI (iN k) from (nI_iN k).symm]; exact hl
    refine lv_iload_n hx hb d_Mo_checksum0_4 rfl (lv_at hl 1 rfl) ?_
    refine lv_aload_n hx hb d_Mo_checksum0_5 rfl (lv_at hl 0 rfl) ?_
    refine va_get (ci := 5) (C := R_Mo) (T := F_Mo) (N := 13) hx hb hE.hts in_Mo hown hE.2.1 hP 0 rfl rfl 4 (by decide) (hE.w m_494) (fun _ h9 => h9) rfl d_Mo_checksum0_6 ?_
    refine pc_jle (tgt := 20) hx hb d_Mo_checksum0_9 (by decide) (by omega) (by omega) (fun h_2 => ?_) (fun h_2 => ?_)
    · skip
      refine lv_ldc2 hx hb hown (hE.w m_694) d_Mo_checksum0_20 ?_
      refine pc_tl (y := lN 4294967295) (by decide) ?_
      refine pc_tl (y := lN (bitF t 0)) (rfl) ?_
      refine lv_lstore_n (lv' := [(2, .long (lN (bitF t 0))), (0, .ref y), (1, .int (nI (iN k)))]) hx hb d_Mo_checksum0_23 rfl hl (by decide) rfl (fun ls hl => ?_)
      refine lv_iconst (v := nI 0) hx hb d_Mo_checksum0_24 (by decide) ?_
      refine lv_istore (lv' := [(4, .int (nI 0)), (2, .long (lN (bitF t 0))), (0, .ref y), (1, .int (nI (iN k)))]) hx hb d_Mo_checksum0_25 hl (by decide) rfl (fun ls hl => ?_)
      have lp_27 : ∀ (n9 : Nat) (i : Nat) (hi : i ≤ 8 * iN k) (hkn : iN k ≤ n) (hmu : 8 * iN k - i < n9) (H : Heap) (locs : List Loc) (hP : va_P g.1 pc_cl [(y, .inr (5, [.ref ta, .ref oa, .ref ma, .int vn, .int (nI n), .int vm, .ref ca, .ref na, .ref la, .int vc, .int vk, .int va, .int vt])), (oa, .inl (g.2.1, 32768, .inl (bA t)))] H) (hD : va_D A [(y, .inr (5, [.ref ta, .ref oa, .ref ma, .int vn, .int (nI n), .int vm, .ref ca, .ref na, .ref la, .int vc, .int vk, .int va, .int vt])), (oa, .inl (g.2.1, 32768, .inl (bA t)))]) (hS : va_S A s.heap H locs) (ls : Array Slot) (hl : lv_has ls 7 [(0, .ref y), (1, .int (nI (iN k))), (4, .int (nI i)), (2, .long (lN (bitF t i)))]), W p l e rm_Mo_checksum0 s m ([.ref y, .int k] : List Value).toArray below meth c H locs 0 0 Q (F0 m 27 ls []) := by
        intro n9
        induction n9 with
        | zero => intros; omega
        | succ n9 ih_27 =>
          intro i hi hkn hmu H locs hP hD hS ls hl
          refine lv_iload hx hb d_Mo_checksum0_27 (lv_at hl 2 rfl) ?_
          refine lv_bipush (v := nI 8) hx hb d_Mo_checksum0_29 (by decide) ?_
          refine lv_iload_n hx hb d_Mo_checksum0_31 rfl (lv_at hl 1 rfl) ?_
          refine lv_imul hx hb d_Mo_checksum0_32 ?_
          refine pc_ti (y := nI (8 * (iN k))) (pk_mul _ _) ?_
          refine pc_jge (tgt := 80) hx hb d_Mo_checksum0_33 (by decide) (by omega) (by omega) (fun h_3 => ?_) (fun h_3 => ?_)
          · skip
            have hbl := bitF_lt t i
            refine lv_ldc2 hx hb hown (hE.w m_694) d_Mo_checksum0_80 ?_
            refine pc_tl (y := lN 4294967295) (by decide) ?_
            refine lv_lload_n hx hb d_Mo_checksum0_83 rfl (lv_at hl 3 rfl) ?_
            refine lv_lsub hx hb d_Mo_checksum0_84 ?_
            refine pc_tl (y := lN (4294967295 - bitF t i)) (lN_sub (by omega)) ?_
            refine lv_l2i (v := nI (4294967295 - bitF t i)) hx hb d_Mo_checksum0_85 (lN_i _) ?_
            refine W.widen (k := rm_Mo_checksum0.cells) (n := rm_Mo_checksum0.slots) (by exact Nat.le_of_ble_eq_true rfl) (by exact Nat.le_of_ble_eq_true rfl) ?_
            exact hR _ _ 86 _ (nI (4294967295 - bitF t i)) () d_Mo_checksum0_86 rfl (Or.inl (⟨congrArg Sum.inl (by rw [show i = 8 * iN k by omega]; exact crc_end t (iN k)), iN_pos hk31, by omega⟩)) (hP.sub [0, 1] rfl) (hD.sub [0, 1] (by decide) rfl) hS
          · skip
            have hbl := bitF_lt t i
            refine lv_aload_n hx hb d_Mo_checksum0_36 rfl (lv_at hl 0 rfl) ?_
            refine va_get (ci := 5) (C := R_Mo) (T := F_Mo) (N := 13) hx hb hE.hts in_Mo hown hE.2.1 hP 0 rfl rfl 1 (by decide) (hE.w m_491) (fun _ h9 => h9) rfl d_Mo_checksum0_37 ?_
            refine lv_iload hx hb d_Mo_checksum0_40 (lv_at hl 2 rfl) ?_
            refine lv_bipush (v := nI 8) hx hb d_Mo_checksum0_42 (by decide) ?_
            refine lv_idiv hx hb d_Mo_checksum0_44 (by decide) ?_
            refine pc_ti (y := nI (i / 8)) (pk_div (by omega) (by omega) (by omega)) ?_
            refine pc_bald hx hb hE.2.1 hP 1 0 rfl rfl (by omega) (by omega) d_Mo_checksum0_45 ?_
            refine lv_iload hx hb d_Mo_checksum0_46 (lv_at hl 2 rfl) ?_
            refine lv_bipush (v := nI 8) hx hb d_Mo_checksum0_48 (by decide) ?_
            refine lv_irem hx hb d_Mo_checksum0_50 (by decide) ?_
            refine pc_ti (y := nI (i % 8)) (pk_rem (by omega) (by omega) (by omega)) ?_
            refine lv_ishr hx hb d_Mo_checksum0_51 ?_
            refine lv_iconst (v := nI 1) hx hb d_Mo_checksum0_52 (by decide) ?_
            refine lv_iand hx hb d_Mo_checksum0_53 ?_
            refine pc_ti (y := nI (bN t (i / 8) / 2 ^ (i % 8) % 2)) (bit_at (by omega)) ?_
            refine lv_i2l (v := lN (bN t (i / 8) / 2 ^ (i % 8) % 2)) hx hb d_Mo_checksum0_54 (nI_l (by omega)) ?_
            refine lv_lload_n hx hb d_Mo_checksum0_55 rfl (lv_at hl 3 rfl) ?_
            refine lv_lconst (v := lN 1) hx hb d_Mo_checksum0_56 (by decide) ?_
            refine lv_land hx hb d_Mo_checksum0_57 ?_
            refine pc_tl (y := lN (bitF t i % 2)) (lN_and1 (by omega)) ?_
            refine lv_lxor hx hb d_Mo_checksum0_58 ?_
            refine pc_tl (y := lN ((bN t (i / 8) / 2 ^ (i % 8) % 2) ^^^ (bitF t i % 2))) (lN_xor _ _) ?_
            refine lv_lstore (lv' := [(5, .long (lN ((bN t (i / 8) / 2 ^ (i % 8) % 2) ^^^ (bitF t i % 2)))), (0, .ref y), (1, .int (nI (iN k))), (4, .int (nI i)), (2, .long (lN (bitF t i)))]) hx hb d_Mo_checksum0_59 hl (by decide) rfl (fun ls hl => ?_)
            refine lv_lload_n hx hb d_Mo_checksum0_61 rfl (lv_at hl 4 rfl) ?_
            refine lv_ldc2 hx hb hown (hE.w m_695) d_Mo_checksum0_62 ?_
            refine pc_tl (y := lN 2) (by decide) ?_
            refine lv_ldiv hx hb d_Mo_checksum0_65 (by decide) ?_
            refine pc_tl (y := lN (bitF t i / 2)) (lN_half (by omega)) ?_
            refine lv_lload hx hb d_Mo_checksum0_66 (lv_at hl 0 rfl) ?_
            refine lv_ldc2 hx hb hown (hE.w m_696) d_Mo_checksum0_68 ?_
            refine pc_tl (y := lN 3988292384) (by decide) ?_
            refine lv_lmul hx hb d_Mo_checksum0_71 ?_
            refine pc_tl (y := lN (((bN t (i / 8) / 2 ^ (i % 8) % 2) ^^^ (bitF t i % 2)) * 3988292384)) (lN_mul _ _) ?_
            refine lv_lxor hx hb d_Mo_checksum0_72 ?_
            refine pc_tl (y := lN (bitF t (i + 1))) (lN_xor _ _) ?_
            refine lv_lstore_n (lv' := [(2, .long (lN (bitF t (i + 1)))), (5, .long (lN ((bN t (i / 8) / 2 ^ (i % 8) % 2) ^^^ (bitF t i % 2)))), (0, .ref y), (1, .int (nI (iN k))), (4, .int (nI i))]) hx hb d_Mo_checksum0_73 rfl hl (by decide) rfl (fun ls hl => ?_)
            refine lv_iinc (v := nI (i + 1)) (lv' := [(4, .int (nI (i + 1))), (2, .long (lN (bitF t (i + 1)))), (5, .long (lN ((bN t (i / 8) / 2 ^ (i % 8) % 2) ^^^ (bitF t i % 2)))), (0, .ref y), (1, .int (nI (iN k)))]) hx hb d_Mo_checksum0_74 hl (k := 4) rfl (pc_inc i 1) (by decide) rfl (fun ls hl => ?_)
            refine lv_goto (tgt := 27) hx hb d_Mo_checksum0_77 (by decide) ?_
            exact ih_27 (i + 1) (by omega) (by omega) (by omega) _ _ (hP.sub [0, 1] rfl) (hD.sub [0, 1] (by decide) rfl) hS _ (lv_sub hl [3, 4, 0, 1] rfl)
      exact lp_27 (8 * iN k - 0 + 1) 0 (by omega) (by omega) (Nat.lt_succ_self _) _ _ (hP.sub [0, 1] rfl) (hD.sub [0, 1] (by decide) rfl) hS _ (lv_sub hl [2, 3, 0, 1] rfl)
    · skip
      exact hT "java/lang/IllegalArgumentException" 37 39 _ _ 0 0 12 _ () (by decide) m_548 m_10 ta_3 (hl.1.trans hml.symm) d_Mo_checksum0_12 d_Mo_checksum0_15 d_Mo_checksum0_16 d_Mo_checksum0_19 (by decide) ⟨by exact Nat.le_of_ble_eq_true rfl, by exact Nat.le_of_ble_eq_true rfl, by exact Nat.le_of_ble_eq_true rfl, by exact Nat.le_of_ble_eq_true rfl⟩ (Or.inr (⟨rfl, by first | exact Or.inl (by assumption) | exact Or.inr (by omega)⟩)) (hP.sub [0, 1] rfl) (hD.sub [0, 1] (by decide) rfl) hS
