abbrev rm_Mo_feed0 : Room := { frames := 6, cells := 1, slots := 6, locals := 81 }
set_option maxHeartbeats 1000000 in
set_option maxRecDepth 100000 in
/-- feed -/
theorem c_Mo_feed0 (l : Launch) (htr : l.stackTraces = false) (g : pc_G) (y : Nat) (ta : Nat) (oa : Nat) (ma : Nat) (ca : Nat) (na : Nat) (la : Nat) (vo : Int32) (vm : Int32) (vc : Int32) (vk : Int32) (va : Int32) (vt : Int32) (n : Nat) (t : Nat → UInt8) (a : Nat) (b : Nat) (c2 : Nat) (d : Nat) (e2 : Nat) (hn : n ≤ 32768) : pc_X (S := Nat × (Nat → UInt8)) l y_Mo_feed0 (.code y_Mo_feed0 prog_11_method_2_code 8 none) none rm_Mo_feed0 g [(y, .inr (5, [.ref ta, .ref oa, .ref ma, .int (nI n), .int vo, .int vm, .ref ca, .ref na, .ref la, .int vc, .int vk, .int va, .int vt])), (ta, .inl (g.2.1, 32768, .inl (bA t)))] [.ref y, .int (nI a), .int (nI b), .int (nI c2), .int (nI d), .int (nI e2)] (fun rv u => (rv = .inl 0 ∧ n + 20 ≤ 32768 ∧ u.1 = n + 20 ∧ bl u.2 u.1 = bl t n ++ feedL a b c2 d e2) ∨ (rv = .inr "java/lang/IllegalStateException" ∧ 32768 < n + 20 ∧ u.1 = n ∧ u.2 = t)) (fun u => [(y, .inr (5, [.ref ta, .ref oa, .ref ma, .int (nI u.1), .int vo, .int vm, .ref ca, .ref na, .ref la, .int vc, .int vk, .int va, .int vt])), (ta, .inl (g.2.1, 32768, .inl (bA u.2)))]) := by
  refine pc_X.of (cc := prog_11_method_2_code) (nL := 8) (rt := none) (hh := []) (by decide) tx_wd.plain (by exact Nat.le_of_ble_eq_true rfl) htr ?_
  intro p e s m below meth c A Q hx hb hml hown hE hA htab hR hT hO hP hD ls hl
  have hS : va_S A s.heap s.heap [] := va_S.rf
  have hl : lv_has ls 8 [(0, .ref y), (1, .int (nI a)), (2, .int (nI b)), (3, .int (nI c2)), (4, .int (nI d)), (5, .int (nI e2))] := hl
  refine lv_aload_n hx hb d_Mo_feed0_0 rfl (lv_at hl 0 rfl) ?_
  refine va_get (ci := 5) (C := R_Mo) (T := F_Mo) (N := 13) hx hb hE.hts in_Mo hown hE.2.1 hP 0 rfl rfl 3 (by decide) (hE.w m_493) (fun _ h9 => h9) rfl d_Mo_feed0_1 ?_
  refine lv_bipush (v := nI 20) hx hb d_Mo_feed0_4 (by decide) ?_
  refine lv_iadd hx hb d_Mo_feed0_6 ?_
  refine pc_ti (y := nI (n + 20)) (nI_add _ _) ?_
  refine lv_ldc hx hb hown (hE.w m_489) d_Mo_feed0_7 ?_
  refine pc_ti (y := nI 32768) (by decide) ?_
  refine pc_jle (tgt := 20) hx hb d_Mo_feed0_9 (by decide) (by omega) (by omega) (fun h_1 => ?_) (fun h_1 => ?_)
  · skip
    refine lv_iconst (v := nI 5) hx hb d_Mo_feed0_20 (by decide) ?_
    refine pc_newa (atype := .int) (ty := .int) (a0 := (5, .inl (fun _ => 0))) hx hb (hE.w m_66) rfl hE.2.1 hP hD hS hA 1 rfl (fun cA => pc_z32 cA 5) (nI_pos (by omega)) (nI_clamp (by omega)) (by show 5 * 4 ≤ 536870912; omega) (by exact Nat.le_of_ble_eq_true rfl) (by exact Nat.le_of_ble_eq_true rfl) d_Mo_feed0_21 (fun q_2 H hP hD hS => ?_)
    have hP : va_P g.1 pc_cl [(y, .inr (5, [.ref ta, .ref oa, .ref ma, .int (nI n), .int vo, .int vm, .ref ca, .ref na, .ref la, .int vc, .int vk, .int va, .int vt])), (ta, .inl (g.2.1, 32768, .inl (bA t))), (q_2, .inl (g.2.2.1, 5, .inl (fun _ => 0)))] H := hP
    have hD : va_D A [(y, .inr (5, [.ref ta, .ref oa, .ref ma, .int (nI n), .int vo, .int vm, .ref ca, .ref na, .ref la, .int vc, .int vk, .int va, .int vt])), (ta, .inl (g.2.1, 32768, .inl (bA t))), (q_2, .inl (g.2.2.1, 5, .inl (fun _ => 0)))] := hD
    refine W.cs (cells' := 1) (slots' := 5) rfl rfl ?_
    refine lv_dup hx hb d_Mo_feed0_23 rfl ?_
    refine lv_iconst (v := nI 0) hx hb d_Mo_feed0_24 (by decide) ?_
    refine lv_iload_n hx hb d_Mo_feed0_25 rfl (lv_at hl 1 rfl) ?_
    refine pc_iast hx hb hE.2.1 hP hD hS 2 1 rfl rfl (by omega) (by omega) d_Mo_feed0_26 (fun H locs hP hD hS => ?_)
    have hP : va_P g.1 pc_cl [(y, .inr (5, [.ref ta, .ref oa, .ref ma, .int (nI n), .int vo, .int vm, .ref ca, .ref na, .ref la, .int vc, .int vk, .int va, .int vt])), (ta, .inl (g.2.1, 32768, .inl (bA t))), (q_2, .inl (g.2.2.1, 5, .inl (upd (fun _ => 0) 0 (nI a))))] H := hP
    have hD : va_D A [(y, .inr (5, [.ref ta, .ref oa, .ref ma, .int (nI n), .int vo, .int vm, .ref ca, .ref na, .ref la, .int vc, .int vk, .int va, .int vt])), (ta, .inl (g.2.1, 32768, .inl (bA t))), (q_2, .inl (g.2.2.1, 5, .inl (upd (fun _ => 0) 0 (nI a))))] := hD
    refine lv_dup hx hb d_Mo_feed0_27 rfl ?_
    refine lv_iconst (v := nI 1) hx hb d_Mo_feed0_28 (by decide) ?_
    refine lv_iload_n hx hb d_Mo_feed0_29 rfl (lv_at hl 2 rfl) ?_
    refine pc_iast hx hb hE.2.1 hP hD hS 2 1 rfl rfl (by omega) (by omega) d_Mo_feed0_30 (fun H locs hP hD hS => ?_)
    have hP : va_P g.1 pc_cl [(y, .inr (5, [.ref ta, .ref oa, .ref ma, .int (nI n), .int vo, .int vm, .ref ca, .ref na, .ref la, .int vc, .int vk, .int va, .int vt])), (ta, .inl (g.2.1, 32768, .inl (bA t))), (q_2, .inl (g.2.2.1, 5, .inl (upd (upd (fun _ => 0) 0 (nI a)) 1 (nI b))))] H := hP
    have hD : va_D A [(y, .inr (5, [.ref ta, .ref oa, .ref ma, .int (nI n), .int vo, .int vm, .ref ca, .ref na, .ref la, .int vc, .int vk, .int va, .int vt])), (ta, .inl (g.2.1, 32768, .inl (bA t))), (q_2, .inl (g.2.2.1, 5, .inl (upd (upd (fun _ => 0) 0 (nI a)) 1 (nI b))))] := hD
    refine lv_dup hx hb d_Mo_feed0_31 rfl ?_
    refine lv_iconst (v := nI 2) hx hb d_Mo_feed0_32 (by decide) ?_
    refine lv_iload_n hx hb d_Mo_feed0_33 rfl (lv_at hl 3 rfl) ?_
    refine pc_iast hx hb hE.2.1 hP hD hS 2 1 rfl rfl (by omega) (by omega) d_Mo_feed0_34 (fun H locs hP hD hS => ?_)
    have hP : va_P g.1 pc_cl [(y, .inr (5, [.ref ta, .ref oa, .ref ma, .int (nI n), .int vo, .int vm, .ref ca, .ref na, .ref la, .int vc, .int vk, .int va, .int vt])), (ta, .inl (g.2.1, 32768, .inl (bA t))), (q_2, .inl (g.2.2.1, 5, .inl (upd (upd (upd (fun _ => 0) 0 (nI a)) 1 (nI b)) 2 (nI c2))))] H := hP
    have hD : va_D A [(y, .inr (5, [.ref ta, .ref oa, .ref ma, .int (nI n), .int vo, .int vm, .ref ca, .ref na, .ref la, .int vc, .int vk, .int va, .int vt])), (ta, .inl (g.2.1, 32768, .inl (bA t))), (q_2, .inl (g.2.2.1, 5, .inl (upd (upd (upd (fun _ => 0) 0 (nI a)) 1 (nI b)) 2 (nI c2))))] := hD
    refine lv_dup hx hb d_Mo_feed0_35 rfl ?_
    refine lv_iconst (v := nI 3) hx hb d_Mo_feed0_36 (by decide) ?_
    refine lv_iload hx hb d_Mo_feed0_37 (lv_at hl 4 rfl) ?_
    refine pc_iast hx hb hE.2.1 hP hD hS 2 1 rfl rfl (by omega) (by omega) d_Mo_feed0_39 (fun H locs hP hD hS => ?_)
    have hP : va_P g.1 pc_cl [(y, .inr (5, [.ref ta, .ref oa, .ref ma, .int (nI n), .int vo, .int vm, .ref ca, .ref na, .ref la, .int vc, .int vk, .int va, .int vt])), (ta, .inl (g.2.1, 32768, .inl (bA t))), (q_2, .inl (g.2.2.1, 5, .inl (upd (upd (upd (upd (fun _ => 0) 0 (nI a)) 1 (nI b)) 2 (nI c2)) 3 (nI d))))] H := hP
    have hD : va_D A [(y, .inr (5, [.ref ta, .ref oa, .ref ma, .int (nI n), .int vo, .int vm, .ref ca, .ref na, .ref la, .int vc, .int vk, .int va, .int vt])), (ta, .inl (g.2.1, 32768, .inl (bA t))), (q_2, .inl (g.2.2.1, 5, .inl (upd (upd (upd (upd (fun _ => 0) 0 (nI a)) 1 (nI b)) 2 (nI c2)) 3 (nI d))))] := hD
    refine lv_dup hx hb d_Mo_feed0_40 rfl ?_
    refine lv_iconst (v := nI 4) hx hb d_Mo_feed0_41 (by decide) ?_
    refine lv_iload hx hb d_Mo_feed0_42 (lv_at hl 5 rfl) ?_
    refine pc_iast hx hb hE.2.1 hP hD hS 2 1 rfl rfl (by omega) (by omega) d_Mo_feed0_44 (fun H locs hP hD hS => ?_)
    have hP : va_P g.1 pc_cl [(y, .inr (5, [.ref ta, .ref oa, .ref ma, .int (nI n), .int vo, .int vm, .ref ca, .ref na, .ref la, .int vc, .int vk, .int va, .int vt])), (ta, .inl (g.2.1, 32768, .inl (bA t))), (q_2, .inl (g.2.2.1, 5, .inl (upd (upd (upd (upd (upd (fun _ => 0) 0 (nI a)) 1 (nI b)) 2 (nI c2)) 3 (nI d)) 4 (nI e2))))] H := hP
    have hD : va_D A [(y, .inr (5, [.ref ta, .ref oa, .ref ma, .int (nI n), .int vo, .int vm, .ref ca, .ref na, .ref la, .int vc, .int vk, .int va, .int vt])), (ta, .inl (g.2.1, 32768, .inl (bA t))), (q_2, .inl (g.2.2.1, 5, .inl (upd (upd (upd (upd (upd (fun _ => 0) 0 (nI a)) 1 (nI b)) 2 (nI c2)) 3 (nI d)) 4 (nI e2))))] := hD
    refine lv_astore (lv' := [(6, .ref q_2), (0, .ref y), (1, .int (nI a)), (2, .int (nI b)), (3, .int (nI c2)), (4, .int (nI d)), (5, .int (nI e2))]) hx hb d_Mo_feed0_45 hl (by decide) rfl (fun ls hl => ?_)
    refine lv_iconst (v := nI 0) hx hb d_Mo_feed0_47 (by decide) ?_
    refine lv_istore (lv' := [(7, .int (nI 0)), (6, .ref q_2), (0, .ref y), (1, .int (nI a)), (2, .int (nI b)), (3, .int (nI c2)), (4, .int (nI d)), (5, .int (nI e2))]) hx hb d_Mo_feed0_48 hl (by decide) rfl (fun ls hl => ?_)
    have lp_50 : ∀ (n9 : Nat) (qf : Nat) (i : Nat) (v : Nat → UInt8) (hi : i ≤ 20) (hc : bl v (n + i) = bl t n ++ (feedL a b c2 d e2).take i) (hmu : 20 - i < n9) (H : Heap) (locs : List Loc) (hP : va_P g.1 pc_cl [(y, .inr (5, [.ref ta, .ref oa, .ref ma, .int (nI n), .int vo, .int vm, .ref ca, .ref na, .ref la, .int vc, .int vk, .int va, .int vt])), (ta, .inl (g.2.1, 32768, .inl (bA v))), (qf, .inl (g.2.2.1, 5, .inl (upd (upd (upd (upd (upd (fun _ => 0) 0 (nI a)) 1 (nI b)) 2 (nI c2)) 3 (nI d)) 4 (nI e2))))] H) (hD : va_D A [(y, .inr (5, [.ref ta, .ref oa, .ref ma, .int (nI n), .int vo, .int vm, .ref ca, .ref na, .ref la, .int vc, .int vk, .int va, .int vt])), (ta, .inl (g.2.1, 32768, .inl (bA v))), (qf, .inl (g.2.2.1, 5, .inl (upd (upd (upd (upd (upd (fun _ => 0) 0 (nI a)) 1 (nI b)) 2 (nI c2)) 3 (nI d)) 4 (nI e2))))]) (hS : va_S A s.heap H locs) (ls : Array Slot) (hl : lv_has ls 8 [(0, .ref y), (6, .ref qf), (7, .int (nI i))]), W p l e rm_Mo_feed0 s m ([.ref y, .int (nI a), .int (nI b), .int (nI c2), .int (nI d), .int (nI e2)] : List Value).toArray below meth c H locs 1 5 Q (F0 m 50 ls []) := by
      intro n9
      induction n9 with
      | zero => intros; omega
      | succ n9 ih_50 =>
        intro qf i v hi hc hmu H locs hP hD hS ls hl
        refine lv_iload hx hb d_Mo_feed0_50 (lv_at hl 2 rfl) ?_
        refine lv_bipush (v := nI 20) hx hb d_Mo_feed0_52 (by decide) ?_
        refine pc_jge (tgt := 94) hx hb d_Mo_feed0_54 (by decide) (by omega) (by omega) (fun h_3 => ?_) (fun h_3 => ?_)
        · skip
          refine lv_aload_n hx hb d_Mo_feed0_94 rfl (lv_at hl 0 rfl) ?_
          refine lv_dup hx hb d_Mo_feed0_95 rfl ?_
          refine va_get (ci := 5) (C := R_Mo) (T := F_Mo) (N := 13) hx hb hE.hts in_Mo hown hE.2.1 hP 0 rfl rfl 3 (by decide) (hE.w m_493) (fun _ h9 => h9) rfl d_Mo_feed0_96 ?_
          refine lv_bipush (v := nI 20) hx hb d_Mo_feed0_99 (by decide) ?_
          refine lv_iadd hx hb d_Mo_feed0_101 ?_
          refine pc_ti (y := nI (n + 20)) (nI_add _ _) ?_
          refine va_put (ci := 5) (ty := .int) (C := R_Mo) (T := F_Mo) (N := 13) hx hb hE.hts in_Mo t_Mo tk_Mo nn_Mo hown hE.2.1 hP hD hS 0 rfl rfl 3 (by decide) (hE.w m_493) (fun _ h9 => h9) rfl (by decide +kernel) (by rfl) (by rfl) (by exact Nat.le_of_ble_eq_true rfl) d_Mo_feed0_102 (fun H locs hP hD hS => ?_)
          have hP : va_P g.1 pc_cl [(y, .inr (5, [.ref ta, .ref oa, .ref ma, .int (nI (n + 20)), .int vo, .int vm, .ref ca, .ref na, .ref la, .int vc, .int vk, .int va, .int vt])), (ta, .inl (g.2.1, 32768, .inl (bA v))), (qf, .inl (g.2.2.1, 5, .inl (upd (upd (upd (upd (upd (fun _ => 0) 0 (nI a)) 1 (nI b)) 2 (nI c2)) 3 (nI d)) 4 (nI e2))))] H := hP
          have hD : va_D A [(y, .inr (5, [.ref ta, .ref oa, .ref ma, .int (nI (n + 20)), .int vo, .int vm, .ref ca, .ref na, .ref la, .int vc, .int vk, .int va, .int vt])), (ta, .inl (g.2.1, 32768, .inl (bA v))), (qf, .inl (g.2.2.1, 5, .inl (upd (upd (upd (upd (upd (fun _ => 0) 0 (nI a)) 1 (nI b)) 2 (nI c2)) 3 (nI d)) 4 (nI e2))))] := hD
          refine W.widen (k := rm_Mo_feed0.cells) (n := rm_Mo_feed0.slots) (by exact Nat.le_of_ble_eq_true rfl) (by exact Nat.le_of_ble_eq_true rfl) ?_
          exact hR _ _ 105 _ (n + 20, v) d_Mo_feed0_105 (Or.inl (⟨rfl, by omega, rfl, feed_end hc (by omega)⟩)) (hP.sub [0, 1] rfl) (hD.sub [0, 1] (by decide) rfl) hS
        · skip
          refine lv_aload_n hx hb d_Mo_feed0_57 rfl (lv_at hl 0 rfl) ?_
          refine va_get (ci := 5) (C := R_Mo) (T := F_Mo) (N := 13) hx hb hE.hts in_Mo hown hE.2.1 hP 0 rfl rfl 0 (by decide) (hE.w m_490) (fun _ h9 => h9) rfl d_Mo_feed0_58 ?_
          refine lv_aload_n hx hb d_Mo_feed0_61 rfl (lv_at hl 0 rfl) ?_
          refine va_get (ci := 5) (C := R_Mo) (T := F_Mo) (N := 13) hx hb hE.hts in_Mo hown hE.2.1 hP 0 rfl rfl 3 (by decide) (hE.w m_493) (fun _ h9 => h9) rfl d_Mo_feed0_62 ?_
          refine lv_iload hx hb d_Mo_feed0_65 (lv_at hl 2 rfl) ?_
          refine lv_iadd hx hb d_Mo_feed0_67 ?_
          refine pc_ti (y := nI (n + i)) (nI_add _ _) ?_
          refine lv_aload hx hb d_Mo_feed0_68 (lv_at hl 1 rfl) ?_
          refine lv_iload hx hb d_Mo_feed0_70 (lv_at hl 2 rfl) ?_
          refine lv_iconst (v := nI 4) hx hb d_Mo_feed0_72 (by decide) ?_
          refine lv_idiv hx hb d_Mo_feed0_73 (by decide) ?_
          refine pc_ti (y := nI (i / 4)) (pk_div (by omega) (by omega) (by omega)) ?_
          refine pc_iald hx hb hE.2.1 hP 2 1 rfl rfl (by omega) (by omega) d_Mo_feed0_74 ?_
          refine lv_bipush (v := nI 24) hx hb d_Mo_feed0_75 (by decide) ?_
          refine lv_bipush (v := nI 8) hx hb d_Mo_feed0_77 (by decide) ?_
          refine lv_iload hx hb d_Mo_feed0_79 (lv_at hl 2 rfl) ?_
          refine lv_iconst (v := nI 4) hx hb d_Mo_feed0_81 (by decide) ?_
          refine lv_irem hx hb d_Mo_feed0_82 (by decide) ?_
          refine pc_ti (y := nI (i % 4)) (pk_rem (by omega) (by omega) (by omega)) ?_
          refine lv_imul hx hb d_Mo_feed0_83 ?_
          refine pc_ti (y := nI (8 * (i % 4))) (pk_mul _ _) ?_
          refine lv_isub hx hb d_Mo_feed0_84 ?_
          refine pc_ti (y := nI (24 - (8 * (i % 4)))) (pk_sub (by omega)) ?_
          refine lv_ishr hx hb d_Mo_feed0_85 ?_
          refine lv_i2b (v := (((upd (upd (upd (upd (upd (fun _ => 0) 0 (nI a)) 1 (nI b)) 2 (nI c2)) 3 (nI d)) 4 (nI e2)) (i / 4)) >>> ((nI (24 - (8 * (i % 4)))) &&& 31)).toInt8.toInt32) hx hb d_Mo_feed0_86 rfl ?_
          refine pc_ti (y := sb_b ((feedL a b c2 d e2).getD i 0)) (feed_at (by omega)) ?_
          refine pc_bast hx hb hE.2.1 hP hD hS 1 0 rfl rfl (by omega) (by omega) d_Mo_feed0_87 (fun H locs hP hD hS => ?_)
          have hP : va_P g.1 pc_cl [(y, .inr (5, [.ref ta, .ref oa, .ref ma, .int (nI n), .int vo, .int vm, .ref ca, .ref na, .ref la, .int vc, .int vk, .int va, .int vt])), (ta, .inl (g.2.1, 32768, .inl (bA (upB v (n + i) ((feedL a b c2 d e2).getD i 0))))), (qf, .inl (g.2.2.1, 5, .inl (upd (upd (upd (upd (upd (fun _ => 0) 0 (nI a)) 1 (nI b)) 2 (nI c2)) 3 (nI d)) 4 (nI e2))))] H := hP
          have hD : va_D A [(y, .inr (5, [.ref ta, .ref oa, .ref ma, .int (nI n), .int vo, .int vm, .ref ca, .ref na, .ref la, .int vc, .int vk, .int va, .int vt])), (ta, .inl (g.2.1, 32768, .inl (bA (upB v (n + i) ((feedL a b c2 d e2).getD i 0))))), (qf, .inl (g.2.2.1, 5, .inl (upd (upd (upd (upd (upd (fun _ => 0) 0 (nI a)) 1 (nI b)) 2 (nI c2)) 3 (nI d)) 4 (nI e2))))] := hD
          refine lv_iinc (v := nI (i + 1)) (lv' := [(7, .int (nI (i + 1))), (0, .ref y), (6, .ref qf)]) hx hb d_Mo_feed0_88 hl (k := 2) rfl (pc_inc i 1) (by decide) rfl (fun ls hl => ?_)
          refine lv_goto (tgt := 50) hx hb d_Mo_feed0_91 (by decide) ?_
          exact ih_50 qf (i + 1) (upB v (n + i) ((feedL a b c2 d e2).getD i 0)) (by omega) (bl_nextL hc (show _ < 20 by omega) (feed_lt (by omega))) (by omega) _ _ (hP.sub [0, 1, 2] rfl) (hD.sub [0, 1, 2] (by decide) rfl) hS _ (lv_sub hl [1, 2, 0] rfl)
    exact lp_50 (20 - 0 + 1) q_2 0 t (by omega) (by rw [List.take_zero, List.append_nil]; rfl) (Nat.lt_succ_self _) _ _ (hP.sub [0, 1, 2] rfl) (hD.sub [0, 1, 2] (by decide) rfl) hS _ (lv_sub hl [2, 1, 0] rfl)
  · skip
    exact hT "java/lang/IllegalStateException" 34 36 _ _ 0 0 12 _ (n, t) (by decide) m_538 m_9 ta_5 (hl.1.trans hml.symm) d_Mo_feed0_12 d_Mo_feed0_15 d_Mo_feed0_16 d_Mo_feed0_19 (by decide) ⟨by exact Nat.le_of_ble_eq_true rfl, by exact Nat.le_of_ble_eq_true rfl, by exact Nat.le_of_ble_eq_true rfl, by exact Nat.le_of_ble_eq_true rfl⟩ (Or.inr (⟨rfl, by omega, rfl, rfl⟩)) (hP.sub [0, 1] rfl) (hD.sub [0, 1] (by decide) rfl) hS
abbrev rm_Mo_letter0 : Room := { frames := 7, cells := 1, slots := 6, locals := 102 }
set_option maxHeartbeats 1000000 in
set_option maxRecDepth 100000 in
/-- letter -/
theorem c_Mo_letter0 (l : Launch) (htr : l.stackTraces = false) (g : pc_G) (y : Nat) (ta : Nat) (oa : Nat) (ma : Nat) (ca : Nat) (na : Nat) (la : Nat) (vn : Int32) (vm : Int32) (vc : Int32) (vk : Int32) (va : Int32) (vt : Int32) (n : Nat) (t : Nat → UInt8) (k : Int32) (hn : n ≤ 32768) : pc_X (S := Nat × (Nat → UInt8)) l y_Mo_letter0 (.code y_Mo_letter0 prog_11_method_19_code 6 (some .int)) (some .int) rm_Mo_letter0 g [(y, .inr (5, [.ref ta, .ref oa, .ref ma, .int vn, .int (nI n), .int vm, .ref ca, .ref na, .ref la, .int vc, .int vk, .int va, .int vt])), (oa, .inl (g.2.1, 32768, .inl (bA t)))] [.ref y, .int k] (fun rv u => (rv = .inl (nI (chW (iN k))) ∧ chI k ∧ n + chW (iN k) ≤ 32768 ∧ u.1 = n + chW (iN k) ∧ bl u.2 u.1 = bl t n ++ chL (iN k)) ∨ (rv = .inr "java/lang/IllegalArgumentException" ∧ ¬ chI k ∧ u.1 = n ∧ u.2 = t) ∨ (rv = .inr "java/lang/IllegalStateException" ∧ chI k ∧ 32768 < n + chW (iN k) ∧ u.1 = n ∧ u.2 = t)) (fun u => [(y, .inr (5, [.ref ta, .ref oa, .ref ma, .int vn, .int (nI u.1), .int vm, .ref ca, .ref na, .ref la, .int vc, .int vk, .int va, .int vt])), (oa, .inl (g.2.1, 32768, .inl (bA u.2)))]) := by
  refine pc_X.of (cc := prog_11_method_19_code) (nL := 6) (rt := (some .int)) (hh := []) (by decide) tx_wd.plain (by exact Nat.le_of_ble_eq_true rfl) htr ?_
  intro p e s m below meth c A Q hx hb hml hown hE hA htab hR hT hO hP hD ls hl
  have hS : va_S A s.heap s.heap [] := va_S.rf
  have hl : lv_has ls 6 [(0, .ref y), (1, .int k)] := hl
  refine lv_iload_n hx hb d_Mo_letter0_0 rfl (lv_at hl 1 rfl) ?_
  refine pc_i (wc := []) (wr := [(y, .inr (5, [.ref ta, .ref oa, .ref ma, .int vn, .int (nI n), .int vm, .ref ca, .ref na, .ref la, .int vc, .int vk, .int va, .int vt])), (oa, .inl (g.2.1, 32768, .inl (bA t)))]) (cells' := 0) (slots' := 0) hP hD hS hA [] [0, 1] rfl rfl (by decide) (by decide) rfl rfl (va_runS (n := 1) (As := [.int k]) (rest := []) ⟨hx, hb, hml, hown, hE.hts⟩ (c_Mo_isCharacter l g k _) ⟨pc_cb hE m_614 m_5 m_612 (by decide +kernel) ⟨by exact Nat.le_of_ble_eq_true rfl, by exact Nat.le_of_ble_eq_true rfl⟩, hE.w m_613⟩ (pc_pre hP hD hE hS hA [] (by decide) rfl [.int k]) rfl rfl hl.1 rfl (lv_room (by exact Nat.le_of_ble_eq_true rfl)) d_Mo_letter0_1 ⟨by exact Nat.le_of_ble_eq_true rfl, by exact Nat.le_of_ble_eq_true rfl⟩) (fun r_2 u_1 H locs hw hP hD hS => ?_)
  obtain rfl := hw
  have hP : va_P g.1 pc_cl [(y, .inr (5, [.ref ta, .ref oa, .ref ma, .int vn, .int (nI n), .int vm, .ref ca, .ref na, .ref la, .int vc, .int vk, .int va, .int vt])), (oa, .inl (g.2.1, 32768, .inl (bA t)))] H := hP
  have hD : va_D A [(y, .inr (5, [.ref ta, .ref oa, .ref ma, .int vn, .int (nI n), .int vm, .ref ca, .ref na, .ref la, .int vc, .int vk, .int va, .int vt])), (oa, .inl (g.2.1, 32768, .inl (bA t)))] := hD
  refine pc_bne (tgt := 15) hx hb d_Mo_letter0_4 (by decide) (fun h_3 => ?_) (fun h_3 => ?_)
  · skip
    have hci := h_3
    have hk31 := iN_lt hci.1
    have hl : lv_has ls 6 [(0, .ref y), (1, .int (nI (iN k)))] := by rw [← show k = nI (iN k) from (nI_iN k).symm]; exact hl
    have hcc := (chI_nI hk31).mp (by rw [nI_iN]; exact hci)
    have hcw := chW_in (iN k)
    refine lv_iload_n hx hb d_Mo_letter0_15 rfl (lv_at hl 1 rfl) ?_
    refine pc_i (wc := []) (wr := [(y, .inr (5, [.ref ta, .ref oa, .ref ma, .int vn, .int (nI n), .int vm, .ref ca, .ref na, .ref la, .int vc, .int vk, .int va, .int vt])), (oa, .inl (g.2.1, 32768, .inl (bA t)))]) (cells' := 0) (slots' := 0) hP hD hS hA [] [0, 1] rfl rfl (by decide) (by decide) rfl rfl (va_runS (n := 1) (As := [.int (nI (iN k))]) (rest := []) ⟨hx, hb, hml, hown, hE.hts⟩ (c_Mo_width l g (iN k) (by omega) _) ⟨pc_cb hE m_620 m_5 m_618 (by decide +kernel) ⟨by exact Nat.le_of_ble_eq_true rfl, by exact Nat.le_of_ble_eq_true rfl⟩, hE.w m_619⟩ (pc_pre hP hD hE hS hA [] (by decide) rfl [.int (nI (iN k))]) rfl rfl hl.1 rfl (lv_room (by exact Nat.le_of_ble_eq_true rfl)) d_Mo_letter0_16 ⟨by exact Nat.le_of_ble_eq_true rfl, by exact Nat.le_of_ble_eq_true rfl⟩) (fun r_5 u_4 H locs hw hP hD hS => ?_)
    obtain rfl := hw
    have hP : va_P g.1 pc_cl [(y, .inr (5, [.ref ta, .ref oa, .ref ma, .int vn, .int (nI n), .int vm, .ref ca, .ref na, .ref la, .int vc, .int vk, .int va, .int vt])), (oa, .inl (g.2.1, 32768, .inl (bA t)))] H := hP
    have hD : va_D A [(y, .inr (5, [.ref ta, .ref oa, .ref ma, .int vn, .int (nI n), .int vm, .ref ca, .ref na, .ref la, .int vc, .int vk, .int va, .int vt])), (oa, .inl (g.2.1, 32768, .inl (bA t)))] := hD
    refine lv_istore_n (lv' := [(2, .int (nI (chW (iN k)))), (0, .ref y), (1, .int (nI (iN k)))]) hx hb d_Mo_letter0_19 rfl hl (by decide) rfl (fun ls hl => ?_)
    refine lv_aload_n hx hb d_Mo_letter0_20 rfl (lv_at hl 1 rfl) ?_
    refine lv_iload_n hx hb d_Mo_letter0_21 rfl (lv_at hl 0 rfl) ?_
    refine pc_x (rt := none) (wc := [(y, .inr (5, [.ref ta, .ref oa, .ref ma, .int vn, .int (nI n), .int vm, .ref ca, .ref na, .ref la, .int vc, .int vk, .int va, .int vt]))]) (wr := [(oa, .inl (g.2.1, 32768, .inl (bA t)))]) (cells' := 1) (slots' := 6) hP hD hS hA [0] [1] rfl rfl (by decide) (by decide) rfl rfl (tx_runV (n := 1) (As := [.int (nI (chW (iN k)))]) (rest := []) (C := R_Mo) hE hx hb hml hown (c_Mo_room l htr g y ta oa ma ca na la vn vm vc vk va vt n (chW (iN k)) (by omega) (by omega) _) (fun U9 hW9 => tx_wd.plain.cd (hE.1.at hW9 m_643 #[])) m_643 m_5 m_640 m_642 ms_36 (by decide +kernel) (pc_preV (ci := 5) (q0 := 0) hP hD hE hS hA [0] (by decide) rfl [.int (nI (chW (iN k)))] rfl rfl) ⟨by exact Nat.le_of_ble_eq_true rfl, by exact Nat.le_of_ble_eq_true rfl⟩ rfl rfl hl.1 rfl (lv_room (by exact Nat.le_of_ble_eq_true rfl)) d_Mo_letter0_22 ⟨by exact Nat.le_of_ble_eq_true rfl, by exact Nat.le_of_ble_eq_true rfl⟩) (fun r_7 u_6 H locs hw hP hD hS => ?_)
    have hP : va_P g.1 pc_cl [(oa, .inl (g.2.1, 32768, .inl (bA t))), (y, .inr (5, [.ref ta, .ref oa, .ref ma, .int vn, .int (nI n), .int vm, .ref ca, .ref na, .ref la, .int vc, .int vk, .int va, .int vt]))] H := hP
    have hD : va_D A [(oa, .inl (g.2.1, 32768, .inl (bA t))), (y, .inr (5, [.ref ta, .ref oa, .ref ma, .int vn, .int (nI n), .int vm, .ref ca, .ref na, .ref la, .int vc, .int vk, .int va, .int vt]))] := hD
    rcases hw with ⟨rfl, hw_8⟩ | ⟨rfl, hw_9⟩
    · skip
      have hw_8 : n + (chW (iN k)) ≤ 32768 := hw_8
      refine tx_onV ?_
      have lp_59 : ∀ (n9 : Nat)   (hmu : 0 < n9) (H : Heap) (locs : List Loc) (hP : va_P g.1 pc_cl [(y, .inr (5, [.ref ta, .ref oa, .ref ma, .int vn, .int (nI n), .int vm, .ref ca, .ref na, .ref la, .int vc, .int vk, .int va, .int vt])), (oa, .inl (g.2.1, 32768, .inl (bA t)))] H) (hD : va_D A [(y, .inr (5, [.ref ta, .ref oa, .ref ma, .int vn, .int (nI n), .int vm, .ref ca, .ref na, .ref la, .int vc, .int vk, .int va, .int vt])), (oa, .inl (g.2.1, 32768, .inl (bA t)))]) (hS : va_S A s.heap H locs) (ls : Array Slot) (hl : lv_has ls 6 [(0, .ref y), (1, .int (nI (iN k))), (2, .int (nI (chW (iN k))))]), W p l e rm_Mo_letter0 s m ([.ref y, .int k] : List Value).toArray below meth c H locs 1 6 Q (F0 m 59 ls [.int (nI (chM (chW (iN k))))]) := by
        intro n9
        induction n9 with
        | zero => intros; omega
        | succ n9 ih_59 =>
          intro   hmu H locs hP hD hS ls hl
          refine lv_istore_n (lv' := [(3, .int (nI (chM (chW (iN k))))), (0, .ref y), (1, .int (nI (iN k))), (2, .int (nI (chW (iN k))))]) hx hb d_Mo_letter0_59 rfl hl (by decide) rfl (fun ls hl => ?_)
          refine lv_iconst (v := nI 0) hx hb d_Mo_letter0_60 (by decide) ?_
          refine lv_istore (lv' := [(4, .int (nI 0)), (3, .int (nI (chM (chW (iN k))))), (0, .ref y), (1, .int (nI (iN k))), (2, .int (nI (chW (iN k))))]) hx hb d_Mo_letter0_61 hl (by decide) rfl (fun ls hl => ?_)
          have lp_63 : ∀ (n9 : Nat) (i : Nat) (v : Nat → UInt8) (hi : i ≤ chW (iN k)) (hc : bl v (n + i) = bl t n ++ (chL (iN k)).take i) (hmu : chW (iN k) - i < n9) (H : Heap) (locs : List Loc) (hP : va_P g.1 pc_cl [(y, .inr (5, [.ref ta, .ref oa, .ref ma, .int vn, .int (nI n), .int vm, .ref ca, .ref na, .ref la, .int vc, .int vk, .int va, .int vt])), (oa, .inl (g.2.1, 32768, .inl (bA v)))] H) (hD : va_D A [(y, .inr (5, [.ref ta, .ref oa, .ref ma, .int vn, .int (nI n), .int vm, .ref ca, .ref na, .ref la, .int vc, .int vk, .int va, .int vt])), (oa, .inl (g.2.1, 32768, .inl (bA v)))]) (hS : va_S A s.heap H locs) (ls : Array Slot) (hl : lv_has ls 6 [(0, .ref y), (1, .int (nI (iN k))), (2, .int (nI (chW (iN k)))), (3, .int (nI (chM (chW (iN k))))), (4, .int (nI i))]), W p l e rm_Mo_letter0 s m ([.ref y, .int k] : List Value).toArray below meth c H locs 1 6 Q (F0 m 63 ls []) := by
            intro n9
            induction n9 with
            | zero => intros; omega
            | succ n9 ih_63 =>
              intro i v hi hc hmu H locs hP hD hS ls hl
              refine lv_iload hx hb d_Mo_letter0_63 (lv_at hl 4 rfl) ?_
              refine lv_iload_n hx hb d_Mo_letter0_65 rfl (lv_at hl 2 rfl) ?_
              refine pc_jge (tgt := 122) hx hb d_Mo_letter0_66 (by decide) (by omega) (by omega) (fun h_10 => ?_) (fun h_10 => ?_)
              · skip
                refine lv_aload_n hx hb d_Mo_letter0_122 rfl (lv_at hl 0 rfl) ?_
                refine lv_dup hx hb d_Mo_letter0_123 rfl ?_
                refine va_get (ci := 5) (C := R_Mo) (T := F_Mo) (N := 13) hx hb hE.hts in_Mo hown hE.2.1 hP 0 rfl rfl 4 (by decide) (hE.w m_494) (fun _ h9 => h9) rfl d_Mo_letter0_124 ?_
                refine lv_iload_n hx hb d_Mo_letter0_127 rfl (lv_at hl 2 rfl) ?_
                refine lv_iadd hx hb d_Mo_letter0_128 ?_
                refine pc_ti (y := nI (n + (chW (iN k)))) (nI_add _ _) ?_
                refine va_put (ci := 5) (ty := .int) (C := R_Mo) (T := F_Mo) (N := 13) hx hb hE.hts in_Mo t_Mo tk_Mo nn_Mo hown hE.2.1 hP hD hS 0 rfl rfl 4 (by decide) (hE.w m_494) (fun _ h9 => h9) rfl (by decide +kernel) (by rfl) (by rfl) (by exact Nat.le_of_ble_eq_true rfl) d_Mo_letter0_129 (fun H locs hP hD hS => ?_)
                have hP : va_P g.1 pc_cl [(y, .inr (5, [.ref ta, .ref oa, .ref ma, .int vn, .int (nI (n + (chW (iN k)))), .int vm, .ref ca, .ref na, .ref la, .int vc, .int vk, .int va, .int vt])), (oa, .inl (g.2.1, 32768, .inl (bA v)))] H := hP
                have hD : va_D A [(y, .inr (5, [.ref ta, .ref oa, .ref ma, .int vn, .int (nI (n + (chW (iN k)))), .int vm, .ref ca, .ref na, .ref la, .int vc, .int vk, .int va, .int vt])), (oa, .inl (g.2.1, 32768, .inl (bA v)))] := hD
                refine lv_iload_n hx hb d_Mo_letter0_132 rfl (lv_at hl 2 rfl) ?_
                exact hR _ _ 133 _ (nI (chW (iN k))) (n + (chW (iN k)), v) d_Mo_letter0_133 rfl (Or.inl (⟨rfl, hci, by omega, rfl, letter_end hc (by omega)⟩)) (hP.sub [0, 1] rfl) (hD.sub [0, 1] (by decide) rfl) hS
              · skip
                refine lv_iload_n hx hb d_Mo_letter0_69 rfl (lv_at hl 1 rfl) ?_
                refine lv_bipush (v := nI 6) hx hb d_Mo_letter0_70 (by decide) ?_
                refine lv_iload_n hx hb d_Mo_letter0_72 rfl (lv_at hl 2 rfl) ?_
                refine lv_iconst (v := nI 1) hx hb d_Mo_letter0_73 (by decide) ?_
                refine lv_isub hx hb d_Mo_letter0_74 ?_
                refine pc_ti (y := nI ((chW (iN k)) - 1)) (pk_sub (by omega)) ?_
                refine lv_iload hx hb d_Mo_letter0_75 (lv_at hl 4 rfl) ?_
                refine lv_isub hx hb d_Mo_letter0_77 ?_
                refine pc_ti (y := nI (((chW (iN k)) - 1) - i)) (pk_sub (by omega)) ?_
                refine lv_imul hx hb d_Mo_letter0_78 ?_
                refine pc_ti (y := nI (6 * (((chW (iN k)) - 1) - i))) (pk_mul _ _) ?_
                refine lv_ishr hx hb d_Mo_letter0_79 ?_
                refine pc_ti (y := nI ((iN k) / 2 ^ (6 * (((chW (iN k)) - 1) - i)))) (pc_shr (by omega) (by omega)) ?_
                refine lv_istore (lv' := [(5, .int (nI ((iN k) / 2 ^ (6 * (((chW (iN k)) - 1) - i))))), (0, .ref y), (1, .int (nI (iN k))), (2, .int (nI (chW (iN k)))), (3, .int (nI (chM (chW (iN k))))), (4, .int (nI i))]) hx hb d_Mo_letter0_80 hl (by decide) rfl (fun ls hl => ?_)
                have hpd := divlt (h := 6 * (chW (iN k) - 1 - i)) hk31
                refine lv_aload_n hx hb d_Mo_letter0_82 rfl (lv_at hl 1 rfl) ?_
                refine va_get (ci := 5) (C := R_Mo) (T := F_Mo) (N := 13) hx hb hE.hts in_Mo hown hE.2.1 hP 0 rfl rfl 1 (by decide) (hE.w m_491) (fun _ h9 => h9) rfl d_Mo_letter0_83 ?_
                refine lv_aload_n hx hb d_Mo_letter0_86 rfl (lv_at hl 1 rfl) ?_
                refine va_get (ci := 5) (C := R_Mo) (T := F_Mo) (N := 13) hx hb hE.hts in_Mo hown hE.2.1 hP 0 rfl rfl 4 (by decide) (hE.w m_494) (fun _ h9 => h9) rfl d_Mo_letter0_87 ?_
                refine lv_iload hx hb d_Mo_letter0_90 (lv_at hl 5 rfl) ?_
                refine lv_iadd hx hb d_Mo_letter0_92 ?_
                refine pc_ti (y := nI (n + i)) (nI_add _ _) ?_
                refine lv_iload hx hb d_Mo_letter0_93 (lv_at hl 5 rfl) ?_
                refine pc_zne (tgt := 105) hx hb d_Mo_letter0_95 (by decide) (by omega) (fun h_11 => ?_) (fun h_11 => ?_)
                · skip
                  refine lv_sipush (v := nI 128) hx hb d_Mo_letter0_105 (by decide) ?_
                  refine lv_iload hx hb d_Mo_letter0_108 (lv_at hl 0 rfl) ?_
                  refine lv_bipush (v := nI 64) hx hb d_Mo_letter0_110 (by decide) ?_
                  refine lv_irem hx hb d_Mo_letter0_112 (by decide) ?_
                  refine pc_ti (y := nI (((iN k) / 2 ^ (6 * (((chW (iN k)) - 1) - i))) % 64)) (pk_rem (by omega) (by omega) (by omega)) ?_
                  refine lv_iadd hx hb d_Mo_letter0_113 ?_
                  refine pc_ti (y := nI (128 + (((iN k) / 2 ^ (6 * (((chW (iN k)) - 1) - i))) % 64))) (nI_add _ _) ?_
                  refine lv_i2b (v := sb_b (128 + (((iN k) / 2 ^ (6 * (((chW (iN k)) - 1) - i))) % 64))) hx hb d_Mo_letter0_114 rfl ?_
                  refine pc_bast hx hb hE.2.1 hP hD hS 1 0 rfl rfl (by omega) (by omega) d_Mo_letter0_115 (fun H locs hP hD hS => ?_)
                  have hP : va_P g.1 pc_cl [(y, .inr (5, [.ref ta, .ref oa, .ref ma, .int vn, .int (nI n), .int vm, .ref ca, .ref na, .ref la, .int vc, .int vk, .int va, .int vt])), (oa, .inl (g.2.1, 32768, .inl (bA (upB v (n + i) (128 + (((iN k) / 2 ^ (6 * (((chW (iN k)) - 1) - i))) % 64))))))] H := hP
                  have hD : va_D A [(y, .inr (5, [.ref ta, .ref oa, .ref ma, .int vn, .int (nI n), .int vm, .ref ca, .ref na, .ref la, .int vc, .int vk, .int va, .int vt])), (oa, .inl (g.2.1, 32768, .inl (bA (upB v (n + i) (128 + (((iN k) / 2 ^ (6 * (((chW (iN k)) - 1) - i))) % 64))))))] := hD
                  refine lv_iinc (v := nI (i + 1)) (lv' := [(4, .int (nI (i + 1))), (5, .int (nI ((iN k) / 2 ^ (6 * (((chW (iN k)) - 1) - i))))), (0, .ref y), (1, .int (nI (iN k))), (2, .int (nI (chW (iN k)))), (3, .int (nI (chM (chW (iN k)))))]) hx hb d_Mo_letter0_116 hl (k := 5) rfl (pc_inc i 1) (by decide) rfl (fun ls hl => ?_)
                  refine lv_goto (tgt := 63) hx hb d_Mo_letter0_119 (by decide) ?_
                  exact ih_63 (i + 1) (upB v (n + i) (128 + (((iN k) / 2 ^ (6 * (((chW (iN k)) - 1) - i))) % 64))) (by omega) (letter_s hc (by omega) (by assumption)) (by omega) _ _ (hP.sub [0, 1] rfl) (hD.sub [0, 1] (by decide) rfl) hS _ (lv_sub hl [2, 3, 4, 5, 0] rfl)
                · skip
                  refine lv_iload_n hx hb d_Mo_letter0_98 rfl (lv_at hl 4 rfl) ?_
                  refine lv_iload hx hb d_Mo_letter0_99 (lv_at hl 0 rfl) ?_
                  refine lv_iadd hx hb d_Mo_letter0_101 ?_
                  refine pc_ti (y := nI (chM (chW (iN k)) + ((iN k) / 2 ^ (6 * (((chW (iN k)) - 1) - i))))) (nI_add _ _) ?_
                  refine lv_goto (tgt := 114) hx hb d_Mo_letter0_102 (by decide) ?_
                  refine lv_i2b (v := sb_b (chM (chW (iN k)) + ((iN k) / 2 ^ (6 * (((chW (iN k)) - 1) - i))))) hx hb d_Mo_letter0_114 rfl ?_
                  refine pc_bast hx hb hE.2.1 hP hD hS 1 0 rfl rfl (by omega) (by omega) d_Mo_letter0_115 (fun H locs hP hD hS => ?_)
                  have hP : va_P g.1 pc_cl [(y, .inr (5, [.ref ta, .ref oa, .ref ma, .int vn, .int (nI n), .int vm, .ref ca, .ref na, .ref la, .int vc, .int vk, .int va, .int vt])), (oa, .inl (g.2.1, 32768, .inl (bA (upB v (n + i) (chM (chW (iN k)) + ((iN k) / 2 ^ (6 * (((chW (iN k)) - 1) - i))))))))] H := hP
                  have hD : va_D A [(y, .inr (5, [.ref ta, .ref oa, .ref ma, .int vn, .int (nI n), .int vm, .ref ca, .ref na, .ref la, .int vc, .int vk, .int va, .int vt])), (oa, .inl (g.2.1, 32768, .inl (bA (upB v (n + i) (chM (chW (iN k)) + ((iN k) / 2 ^ (6 * (((chW (iN k)) - 1) - i))))))))] := hD
                  refine lv_iinc (v := nI (i + 1)) (lv' := [(4, .int (nI (i + 1))), (5, .int (nI ((iN k) / 2 ^ (6 * (((chW (iN k)) - 1) - i))))), (0, .ref y), (1, .int (nI (iN k))), (2, .int (nI (chW (iN k)))), (3, .int (nI (chM (chW (iN k)))))]) hx hb d_Mo_letter0_116 hl (k := 5) rfl (pc_inc i 1) (by decide) rfl (fun ls hl => ?_)
                  refine lv_goto (tgt := 63) hx hb d_Mo_letter0_119 (by decide) ?_
                  exact ih_63 (i + 1) (upB v (n + i) (chM (chW (iN k)) + ((iN k) / 2 ^ (6 * (((chW (iN k)) - 1) - i))))) (by omega) (letter_0 hcc.1 hc (by omega) (by assumption)) (by omega) _ _ (hP.sub [0, 1] rfl) (hD.sub [0, 1] (by decide) rfl) hS _ (lv_sub hl [2, 3, 4, 5, 0] rfl)
          exact lp_63 (chW (iN k) - 0 + 1) 0 t (by omega) (by rw [List.take_zero, List.append_nil]; rfl) (Nat.lt_succ_self _) _ _ (hP.sub [0, 1] rfl) (hD.sub [0, 1] (by decide) rfl) hS _ (lv_sub hl [2, 3, 4, 1, 0] rfl)
      refine lv_iload_n hx hb d_Mo_letter0_25 rfl (lv_at hl 0 rfl) ?_
      refine lv_iconst (v := nI 1) hx hb d_Mo_letter0_26 (by decide) ?_
      refine pc_jne (tgt := 34) hx hb d_Mo_letter0_27 (by decide) (by omega) (by omega) (fun h_12 => ?_) (fun h_12 => ?_)
      · skip
        refine lv_iload_n hx hb d_Mo_letter0_34 rfl (lv_at hl 0 rfl) ?_
        refine lv_iconst (v := nI 2) hx hb d_Mo_letter0_35 (by decide) ?_
        refine pc_jne (tgt := 45) hx hb d_Mo_letter0_36 (by decide) (by omega) (by omega) (fun h_13 => ?_) (fun h_13 => ?_)
        · skip
          refine lv_iload_n hx hb d_Mo_letter0_45 rfl (lv_at hl 0 rfl) ?_
          refine lv_iconst (v := nI 3) hx hb d_Mo_letter0_46 (by decide) ?_
          refine pc_jne (tgt := 56) hx hb d_Mo_letter0_47 (by decide) (by omega) (by omega) (fun h_14 => ?_) (fun h_14 => ?_)
          · skip
            refine lv_sipush (v := nI 240) hx hb d_Mo_letter0_56 (by decide) ?_
            refine pc_ti (y := nI (chM (chW (iN k)))) (by unfold chM; (repeat' split) <;> first | rfl | (exfalso; omega)) ?_
            exact lp_59 (0 + 1)  (Nat.lt_succ_self _) _ _ (hP.sub [1, 0] rfl) (hD.sub [1, 0] (by decide) rfl) hS _ (lv_sub hl [1, 2, 0] rfl)
          · skip
            refine lv_sipush (v := nI 224) hx hb d_Mo_letter0_50 (by decide) ?_
            refine lv_goto (tgt := 59) hx hb d_Mo_letter0_53 (by decide) ?_
            refine pc_ti (y := nI (chM (chW (iN k)))) (by unfold chM; (repeat' split) <;> first | rfl | (exfalso; omega)) ?_
            exact lp_59 (0 + 1)  (Nat.lt_succ_self _) _ _ (hP.sub [1, 0] rfl) (hD.sub [1, 0] (by decide) rfl) hS _ (lv_sub hl [1, 2, 0] rfl)
        · skip
          refine lv_sipush (v := nI 192) hx hb d_Mo_letter0_39 (by decide) ?_
          refine lv_goto (tgt := 59) hx hb d_Mo_letter0_42 (by decide) ?_
          refine pc_ti (y := nI (chM (chW (iN k)))) (by unfold chM; (repeat' split) <;> first | rfl | (exfalso; omega)) ?_
          exact lp_59 (0 + 1)  (Nat.lt_succ_self _) _ _ (hP.sub [1, 0] rfl) (hD.sub [1, 0] (by decide) rfl) hS _ (lv_sub hl [1, 2, 0] rfl)
      · skip
        refine lv_iconst (v := nI 0) hx hb d_Mo_letter0_30 (by decide) ?_
        refine lv_goto (tgt := 59) hx hb d_Mo_letter0_31 (by decide) ?_
        refine pc_ti (y := nI (chM (chW (iN k)))) (by unfold chM; (repeat' split) <;> first | rfl | (exfalso; omega)) ?_
        exact lp_59 (0 + 1)  (Nat.lt_succ_self _) _ _ (hP.sub [1, 0] rfl) (hD.sub [1, 0] (by decide) rfl) hS _ (lv_sub hl [1, 2, 0] rfl)
    · skip
      have hw_9 : 32768 < n + (chW (iN k)) := hw_9
      refine tx_onX (fun q_15 ce hq1 hq2 hq3 => ?_)
      exact hO "java/lang/IllegalStateException" _ _ _ _ 22 _ _ (n, t) q_15 ce (by decide) ⟨by exact Nat.le_of_ble_eq_true rfl, by exact Nat.le_of_ble_eq_true rfl⟩ hq1 hq2 hq3 (Or.inr (Or.inr (⟨rfl, hci, by omega, rfl, rfl⟩))) (hP.sub [1, 0] rfl) (hD.sub [1, 0] (by decide) rfl) hS
  · skip
    exact hT "java/lang/IllegalArgumentException" 37 39 _ _ 0 0 7 _ (n, t) (by decide) m_548 m_10 ta_3 (hl.1.trans hml.symm) d_Mo_letter0_7 d_Mo_letter0_10 d_Mo_letter0_11 d_Mo_letter0_14 (by decide) ⟨by exact Nat.le_of_ble_eq_true rfl, by exact Nat.le_of_ble_eq_true rfl, by exact Nat.le_of_ble_eq_true rfl, by exact Nat.le_of_ble_eq_true rfl⟩ (Or.inr (Or.inl (⟨rfl, by assumption, rfl, rfl⟩))) (hP.sub [0, 1] rfl) (hD.sub [0, 1] (by decide) rfl) hS
abbrev rm_Mo_varint0 : Room := { frames := 7, cells := 1, slots := 6, locals := 102 }
set_option maxHeartbeats 1000000 in
set_option maxRecDepth 100000 in
/-- varint -/
theorem c_Mo_varint0 (l : Launch) (htr : l.stackTraces = false) (g : pc_G) (y : Nat) (ta : Nat) (oa : Nat) (ma : Nat) (ca : Nat) (na : Nat) (la : Nat) (vn : Int32) (vm : Int32) (vc : Int32) (vk : Int32) (va : Int32) (vt : Int32) (n : Nat) (t : Nat → UInt8) (k : Int32) (hn : n ≤ 32768) : pc_X (S := Nat × (Nat → UInt8)) l y_Mo_varint0 (.code y_Mo_varint0 prog_11_method_20_code 4 (some .int)) (some .int) rm_Mo_varint0 g [(y, .inr (5, [.ref ta, .ref oa, .ref ma, .int vn, .int (nI n), .int vm, .ref ca, .ref na, .ref la, .int vc, .int vk, .int va, .int vt])), (oa, .inl (g.2.1, 32768, .inl (bA t)))] [.ref y, .int k] (fun rv u => (rv = .inl (nI (vsz (iN k))) ∧ ¬ k < 0 ∧ n + vsz (iN k) ≤ 32768 ∧ u.1 = n + vsz (iN k) ∧ bl u.2 u.1 = bl t n ++ vL (iN k)) ∨ (rv = .inr "java/lang/IllegalArgumentException" ∧ k < 0 ∧ u.1 = n ∧ u.2 = t) ∨ (rv = .inr "java/lang/IllegalStateException" ∧ ¬ k < 0 ∧ 32768 < n + vsz (iN k) ∧ u.1 = n ∧ u.2 = t)) (fun u => [(y, .inr (5, [.ref ta, .ref oa, .ref ma, .int vn, .int (nI u.1), .int vm, .ref ca, .ref na, .ref la, .int vc, .int vk, .int va, .int vt])), (oa, .inl (g.2.1, 32768, .inl (bA u.2)))]) := by
  refine pc_X.of (cc := prog_11_method_20_code) (nL := 4) (rt := (some .int)) (hh := []) (by decide) tx_wd.plain (by exact Nat.le_of_ble_eq_true rfl) htr ?_
  intro p e s m below meth c A Q hx hb hml hown hE hA htab hR hT hO hP hD ls hl
  have hS : va_S A s.heap s.heap [] := va_S.rf
  have hl : lv_has ls 4 [(0, .ref y), (1, .int k)] := hl
  refine lv_iload_n hx hb d_Mo_varint0_0 rfl (lv_at hl 1 rfl) ?_
  refine lv_if_ge (tgt := 12) hx hb d_Mo_varint0_1 (by decide) (fun h_1 => ?_) (fun h_1 => ?_)
  · skip
    have hk31 := iN_lt (fun z9 => absurd h_1 (Int32.not_le.mpr z9))
    have hl : lv_has ls 4 [(0, .ref y), (1, .int (nI (iN k)))] := by rw [← show k = nI (iN k) from (nI_iN k).symm]; exact hl
    have hvz := vsz_in (iN k)
    have lp_34 : ∀ (n9 : Nat)   (hmu : 0 < n9) (H : Heap) (locs : List Loc) (hP : va_P g.1 pc_cl [(y, .inr (5, [.ref ta, .ref oa, .ref ma, .int vn, .int (nI n), .int vm, .ref ca, .ref na, .ref la, .int vc, .int vk, .int va, .int vt])), (oa, .inl (g.2.1, 32768, .inl (bA t)))] H) (hD : va_D A [(y, .inr (5, [.ref ta, .ref oa, .ref ma, .int vn, .int (nI n), .int vm, .ref ca, .ref na, .ref la, .int vc, .int vk, .int va, .int vt])), (oa, .inl (g.2.1, 32768, .inl (bA t)))]) (hS : va_S A s.heap H locs) (ls : Array Slot) (hl : lv_has ls 4 [(0, .ref y), (1, .int (nI (iN k))), (2, .int (nI (vsz (iN k))))]), W p l e rm_Mo_varint0 s m ([.ref y, .int k] : List Value).toArray below meth c H locs 0 0 Q (F0 m 34 ls []) := by
      intro n9
      induction n9 with
      | zero => intros; omega
      | succ n9 ih_34 =>
        intro   hmu H locs hP hD hS ls hl
        refine lv_aload_n hx hb d_Mo_varint0_34 rfl (lv_at hl 0 rfl) ?_
        refine lv_iload_n hx hb d_Mo_varint0_35 rfl (lv_at hl 2 rfl) ?_
        refine pc_x (rt := none) (wc := [(y, .inr (5, [.ref ta, .ref oa, .ref ma, .int vn, .int (nI n), .int vm, .ref ca, .ref na, .ref la, .int vc, .int vk, .int va, .int vt]))]) (wr := [(oa, .inl (g.2.1, 32768, .inl (bA t)))]) (cells' := 1) (slots' := 6) hP hD hS hA [0] [1] rfl rfl (by decide) (by decide) rfl rfl (tx_runV (n := 1) (As := [.int (nI (vsz (iN k)))]) (rest := []) (C := R_Mo) hE hx hb hml hown (c_Mo_room l htr g y ta oa ma ca na la vn vm vc vk va vt n (vsz (iN k)) (by omega) (by omega) _) (fun U9 hW9 => tx_wd.plain.cd (hE.1.at hW9 m_643 #[])) m_643 m_5 m_640 m_642 ms_36 (by decide +kernel) (pc_preV (ci := 5) (q0 := 0) hP hD hE hS hA [0] (by decide) rfl [.int (nI (vsz (iN k)))] rfl rfl) ⟨by exact Nat.le_of_ble_eq_true rfl, by exact Nat.le_of_ble_eq_true rfl⟩ rfl rfl hl.1 rfl (lv_room (by exact Nat.le_of_ble_eq_true rfl)) d_Mo_varint0_36 ⟨by exact Nat.le_of_ble_eq_true rfl, by exact Nat.le_of_ble_eq_true rfl⟩) (fun r_3 u_2 H locs hw hP hD hS => ?_)
        have hP : va_P g.1 pc_cl [(oa, .inl (g.2.1, 32768, .inl (bA t))), (y, .inr (5, [.ref ta, .ref oa, .ref ma, .int vn, .int (nI n), .int vm, .ref ca, .ref na, .ref la, .int vc, .int vk, .int va, .int vt]))] H := hP
        have hD : va_D A [(oa, .inl (g.2.1, 32768, .inl (bA t))), (y, .inr (5, [.ref ta, .ref oa, .ref ma, .int vn, .int (nI n), .int vm, .ref ca, .ref na, .ref la, .int vc, .int vk, .int va, .int vt]))] := hD
        rcases hw with ⟨rfl, hw_4⟩ | ⟨rfl, hw_5⟩
        · skip
          have hw_4 : n + (vsz (iN k)) ≤ 32768 := hw_4
          refine tx_onV ?_
          refine lv_iconst (v := nI 0) hx hb d_Mo_varint0_39 (by decide) ?_
          refine lv_istore_n (lv' := [(3, .int (nI 0)), (0, .ref y), (1, .int (nI (iN k))), (2, .int (nI (vsz (iN k))))]) hx hb d_Mo_varint0_40 rfl hl (by decide) rfl (fun ls hl => ?_)
          have lp_41 : ∀ (n9 : Nat) (i : Nat) (v : Nat → UInt8) (hi : i ≤ vsz (iN k)) (hc : bl v (n + i) = bl t n ++ (vL (iN k)).take i) (hmu : vsz (iN k) - i < n9) (H : Heap) (locs : List Loc) (hP : va_P g.1 pc_cl [(y, .inr (5, [.ref ta, .ref oa, .ref ma, .int vn, .int (nI n), .int vm, .ref ca, .ref na, .ref la, .int vc, .int vk, .int va, .int vt])), (oa, .inl (g.2.1, 32768, .inl (bA v)))] H) (hD : va_D A [(y, .inr (5, [.ref ta, .ref oa, .ref ma, .int vn, .int (nI n), .int vm, .ref ca, .ref na, .ref la, .int vc, .int vk, .int va, .int vt])), (oa, .inl (g.2.1, 32768, .inl (bA v)))]) (hS : va_S A s.heap H locs) (ls : Array Slot) (hl : lv_has ls 4 [(0, .ref y), (1, .int (nI (iN k))), (2, .int (nI (vsz (iN k)))), (3, .int (nI i))]), W p l e rm_Mo_varint0 s m ([.ref y, .int k] : List Value).toArray below meth c H locs 1 6 Q (F0 m 41 ls []) := by
            intro n9
            induction n9 with
            | zero => intros; omega
            | succ n9 ih_41 =>
              intro i v hi hc hmu H locs hP hD hS ls hl
              refine lv_iload_n hx hb d_Mo_varint0_41 rfl (lv_at hl 3 rfl) ?_
              refine lv_iload_n hx hb d_Mo_varint0_42 rfl (lv_at hl 2 rfl) ?_
              refine pc_jge (tgt := 89) hx hb d_Mo_varint0_43 (by decide) (by omega) (by omega) (fun h_6 => ?_) (fun h_6 => ?_)
              · skip
                refine lv_aload_n hx hb d_Mo_varint0_89 rfl (lv_at hl 0 rfl) ?_
                refine lv_dup hx hb d_Mo_varint0_90 rfl ?_
                refine va_get (ci := 5) (C := R_Mo) (T := F_Mo) (N := 13) hx hb hE.hts in_Mo hown hE.2.1 hP 0 rfl rfl 4 (by decide) (hE.w m_494) (fun _ h9 => h9) rfl d_Mo_varint0_91 ?_
                refine lv_iload_n hx hb d_Mo_varint0_94 rfl (lv_at hl 2 rfl) ?_
                refine lv_iadd hx hb d_Mo_varint0_95 ?_
                refine pc_ti (y := nI (n + (vsz (iN k)))) (nI_add _ _) ?_
                refine va_put (ci := 5) (ty := .int) (C := R_Mo) (T := F_Mo) (N := 13) hx hb hE.hts in_Mo t_Mo tk_Mo nn_Mo hown hE.2.1 hP hD hS 0 rfl rfl 4 (by decide) (hE.w m_494) (fun _ h9 => h9) rfl (by decide +kernel) (by rfl) (by rfl) (by exact Nat.le_of_ble_eq_true rfl) d_Mo_varint0_96 (fun H locs hP hD hS => ?_)
                have hP : va_P g.1 pc_cl [(y, .inr (5, [.ref ta, .ref oa, .ref ma, .int vn, .int (nI (n + (vsz (iN k)))), .int vm, .ref ca, .ref na, .ref la, .int vc, .int vk, .int va, .int vt])), (oa, .inl (g.2.1, 32768, .inl (bA v)))] H := hP
                have hD : va_D A [(y, .inr (5, [.ref ta, .ref oa, .ref ma, .int vn, .int (nI (n + (vsz (iN k)))), .int vm, .ref ca, .ref na, .ref la, .int vc, .int vk, .int va, .int vt])), (oa, .inl (g.2.1, 32768, .inl (bA v)))] := hD
                refine lv_iload_n hx hb d_Mo_varint0_99 rfl (lv_at hl 2 rfl) ?_
                exact hR _ _ 100 _ (nI (vsz (iN k))) (n + (vsz (iN k)), v) d_Mo_varint0_100 rfl (Or.inl (⟨rfl, iN_pos hk31, by omega, rfl, var_end hc (by omega)⟩)) (hP.sub [0, 1] rfl) (hD.sub [0, 1] (by decide) rfl) hS
              · skip
                have hpd := divlt (h := 7 * i) hk31
                refine lv_aload_n hx hb d_Mo_varint0_46 rfl (lv_at hl 0 rfl) ?_
                refine va_get (ci := 5) (C := R_Mo) (T := F_Mo) (N := 13) hx hb hE.hts in_Mo hown hE.2.1 hP 0 rfl rfl 1 (by decide) (hE.w m_491) (fun _ h9 => h9) rfl d_Mo_varint0_47 ?_
                refine lv_aload_n hx hb d_Mo_varint0_50 rfl (lv_at hl 0 rfl) ?_
                refine va_get (ci := 5) (C := R_Mo) (T := F_Mo) (N := 13) hx hb hE.hts in_Mo hown hE.2.1 hP 0 rfl rfl 4 (by decide) (hE.w m_494) (fun _ h9 => h9) rfl d_Mo_varint0_51 ?_
                refine lv_iload_n hx hb d_Mo_varint0_54 rfl (lv_at hl 3 rfl) ?_
                refine lv_iadd hx hb d_Mo_varint0_55 ?_
                refine pc_ti (y := nI (n + i)) (nI_add _ _) ?_
                refine lv_iload_n hx hb d_Mo_varint0_56 rfl (lv_at hl 1 rfl) ?_
                refine lv_bipush (v := nI 7) hx hb d_Mo_varint0_57 (by decide) ?_
                refine lv_iload_n hx hb d_Mo_varint0_59 rfl (lv_at hl 3 rfl) ?_
                refine lv_imul hx hb d_Mo_varint0_60 ?_
                refine pc_ti (y := nI (7 * i)) (pk_mul _ _) ?_
                refine lv_ishr hx hb d_Mo_varint0_61 ?_
                refine pc_ti (y := nI ((iN k) / 2 ^ (7 * i))) (pc_shr (by omega) (by omega)) ?_
                refine lv_sipush (v := nI 128) hx hb d_Mo_varint0_62 (by decide) ?_
                refine lv_irem hx hb d_Mo_varint0_65 (by decide) ?_
                refine pc_ti (y := nI (((iN k) / 2 ^ (7 * i)) % 128)) (pk_rem (by omega) (by omega) (by omega)) ?_
                refine lv_iload_n hx hb d_Mo_varint0_66 rfl (lv_at hl 3 rfl) ?_
                refine lv_iload_n hx hb d_Mo_varint0_67 rfl (lv_at hl 2 rfl) ?_
                refine lv_iconst (v := nI 1) hx hb d_Mo_varint0_68 (by decide) ?_
                refine lv_isub hx hb d_Mo_varint0_69 ?_
                refine pc_ti (y := nI ((vsz (iN k)) - 1)) (pk_sub (by omega)) ?_
                refine pc_jge (tgt := 79) hx hb d_Mo_varint0_70 (by decide) (by omega) (by omega) (fun h_7 => ?_) (fun h_7 => ?_)
                · skip
                  refine lv_iconst (v := nI 0) hx hb d_Mo_varint0_79 (by decide) ?_
                  refine lv_iadd hx hb d_Mo_varint0_80 ?_
                  refine pc_ti (y := nI (((iN k) / 2 ^ (7 * i)) % 128 + 0)) (nI_add _ _) ?_
                  refine lv_i2b (v := sb_b (((iN k) / 2 ^ (7 * i)) % 128 + 0)) hx hb d_Mo_varint0_81 rfl ?_
                  refine pc_bast hx hb hE.2.1 hP hD hS 1 0 rfl rfl (by omega) (by omega) d_Mo_varint0_82 (fun H locs hP hD hS => ?_)
                  have hP : va_P g.1 pc_cl [(y, .inr (5, [.ref ta, .ref oa, .ref ma, .int vn, .int (nI n), .int vm, .ref ca, .ref na, .ref la, .int vc, .int vk, .int va, .int vt])), (oa, .inl (g.2.1, 32768, .inl (bA (upB v (n + i) (((iN k) / 2 ^ (7 * i)) % 128 + 0)))))] H := hP
                  have hD : va_D A [(y, .inr (5, [.ref ta, .ref oa, .ref ma, .int vn, .int (nI n), .int vm, .ref ca, .ref na, .ref la, .int vc, .int vk, .int va, .int vt])), (oa, .inl (g.2.1, 32768, .inl (bA (upB v (n + i) (((iN k) / 2 ^ (7 * i)) % 128 + 0)))))] := hD
                  refine lv_iinc (v := nI (i + 1)) (lv' := [(3, .int (nI (i + 1))), (0, .ref y), (1, .int (nI (iN k))), (2, .int (nI (vsz (iN k))))]) hx hb d_Mo_varint0_83 hl (k := 3) rfl (pc_inc i 1) (by decide) rfl (fun ls hl => ?_)
                  refine lv_goto (tgt := 41) hx hb d_Mo_varint0_86 (by decide) ?_
                  exact ih_41 (i + 1) (upB v (n + i) (((iN k) / 2 ^ (7 * i)) % 128 + 0)) (by omega) (var_l hk31 hc (by omega) (by omega)) (by omega) _ _ (hP.sub [0, 1] rfl) (hD.sub [0, 1] (by decide) rfl) hS _ (lv_sub hl [1, 2, 3, 0] rfl)
                · skip
                  refine lv_sipush (v := nI 128) hx hb d_Mo_varint0_73 (by decide) ?_
                  refine lv_goto (tgt := 80) hx hb d_Mo_varint0_76 (by decide) ?_
                  refine lv_iadd hx hb d_Mo_varint0_80 ?_
                  refine pc_ti (y := nI (((iN k) / 2 ^ (7 * i)) % 128 + 128)) (nI_add _ _) ?_
                  refine lv_i2b (v := sb_b (((iN k) / 2 ^ (7 * i)) % 128 + 128)) hx hb d_Mo_varint0_81 rfl ?_
                  refine pc_bast hx hb hE.2.1 hP hD hS 1 0 rfl rfl (by omega) (by omega) d_Mo_varint0_82 (fun H locs hP hD hS => ?_)
                  have hP : va_P g.1 pc_cl [(y, .inr (5, [.ref ta, .ref oa, .ref ma, .int vn, .int (nI n), .int vm, .ref ca, .ref na, .ref la, .int vc, .int vk, .int va, .int vt])), (oa, .inl (g.2.1, 32768, .inl (bA (upB v (n + i) (((iN k) / 2 ^ (7 * i)) % 128 + 128)))))] H := hP
                  have hD : va_D A [(y, .inr (5, [.ref ta, .ref oa, .ref ma, .int vn, .int (nI n), .int vm, .ref ca, .ref na, .ref la, .int vc, .int vk, .int va, .int vt])), (oa, .inl (g.2.1, 32768, .inl (bA (upB v (n + i) (((iN k) / 2 ^ (7 * i)) % 128 + 128)))))] := hD
                  refine lv_iinc (v := nI (i + 1)) (lv' := [(3, .int (nI (i + 1))), (0, .ref y), (1, .int (nI (iN k))), (2, .int (nI (vsz (iN k))))]) hx hb d_Mo_varint0_83 hl (k := 3) rfl (pc_inc i 1) (by decide) rfl (fun ls hl => ?_)
                  refine lv_goto (tgt := 41) hx hb d_Mo_varint0_86 (by decide) ?_
                  exact ih_41 (i + 1) (upB v (n + i) (((iN k) / 2 ^ (7 * i)) % 128 + 128)) (by omega) (var_s hc (by omega)) (by omega) _ _ (hP.sub [0, 1] rfl) (hD.sub [0, 1] (by decide) rfl) hS _ (lv_sub hl [1, 2, 3, 0] rfl)
          exact lp_41 (vsz (iN k) - 0 + 1) 0 t (by omega) (by rw [List.take_zero, List.append_nil]; rfl) (Nat.lt_succ_self _) _ _ (hP.sub [1, 0] rfl) (hD.sub [1, 0] (by decide) rfl) hS _ (lv_sub hl [1, 2, 3, 0] rfl)
        · skip
          have hw_5 : 32768 < n + (vsz (iN k)) := hw_5
          refine tx_onX (fun q_8 ce hq1 hq2 hq3 => ?_)
          exact hO "java/lang/IllegalStateException" _ _ _ _ 36 _ _ (n, t) q_8 ce (by decide) ⟨by exact Nat.le_of_ble_eq_true rfl, by exact Nat.le_of_ble_eq_true rfl⟩ hq1 hq2 hq3 (Or.inr (Or.inr (⟨rfl, iN_pos hk31, by omega, rfl, rfl⟩))) (hP.sub [1, 0] rfl) (hD.sub [1, 0] (by decide) rfl) hS
    refine lv_iconst (v := nI 1) hx hb d_Mo_varint0_12 (by decide) ?_
    refine lv_istore_n (lv' := [(2, .int (nI 1)), (0, .ref y), (1, .int (nI (iN k)))]) hx hb d_Mo_varint0_13 rfl hl (by decide) rfl (fun ls hl => ?_)
    have lp_14 : ∀ (n9 : Nat) (i : Nat) (h1 : 1 ≤ i) (h5 : i ≤ 5) (hlo : i = 1 ∨ 2 ^ (7 * (i - 1)) ≤ iN k) (hmu : 5 - i < n9) (H : Heap) (locs : List Loc) (hP : va_P g.1 pc_cl [(y, .inr (5, [.ref ta, .ref oa, .ref ma, .int vn, .int (nI n), .int vm, .ref ca, .ref na, .ref la, .int vc, .int vk, .int va, .int vt])), (oa, .inl (g.2.1, 32768, .inl (bA t)))] H) (hD : va_D A [(y, .inr (5, [.ref ta, .ref oa, .ref ma, .int vn, .int (nI n), .int vm, .ref ca, .ref na, .ref la, .int vc, .int vk, .int va, .int vt])), (oa, .inl (g.2.1, 32768, .inl (bA t)))]) (hS : va_S A s.heap H locs) (ls : Array Slot) (hl : lv_has ls 4 [(0, .ref y), (1, .int (nI (iN k))), (2, .int (nI i))]), W p l e rm_Mo_varint0 s m ([.ref y, .int k] : List Value).toArray below meth c H locs 0 0 Q (F0 m 14 ls []) := by
      intro n9
      induction n9 with
      | zero => intros; omega
      | succ n9 ih_14 =>
        intro i h1 h5 hlo hmu H locs hP hD hS ls hl
        refine lv_iload_n hx hb d_Mo_varint0_14 rfl (lv_at hl 2 rfl) ?_
        refine lv_iconst (v := nI 5) hx hb d_Mo_varint0_15 (by decide) ?_
        refine pc_jge (tgt := 34) hx hb d_Mo_varint0_16 (by decide) (by omega) (by omega) (fun h_9 => ?_) (fun h_9 => ?_)
        · skip
          have hl : lv_has ls 4 [(0, .ref y), (1, .int (nI (iN k))), (2, .int (nI (vsz (iN k))))] := by rw [← show nI i = nI (vsz (iN k)) from congrArg nI (vsz_of h1 (by omega) (by omega) (by first | exact Or.inl (by omega) | exact Or.inr (vs_hi (by assumption))))]; exact hl
          exact lp_34 (0 + 1)  (Nat.lt_succ_self _) _ _ (hP.sub [0, 1] rfl) (hD.sub [0, 1] (by decide) rfl) hS _ (lv_sub hl [0, 1, 2] rfl)
        · skip
          refine lv_iload_n hx hb d_Mo_varint0_19 rfl (lv_at hl 1 rfl) ?_
          refine lv_bipush (v := nI 7) hx hb d_Mo_varint0_20 (by decide) ?_
          refine lv_iload_n hx hb d_Mo_varint0_22 rfl (lv_at hl 2 rfl) ?_
          refine lv_imul hx hb d_Mo_varint0_23 ?_
          refine pc_ti (y := nI (7 * i)) (pk_mul _ _) ?_
          refine lv_ishr hx hb d_Mo_varint0_24 ?_
          refine pc_ti (y := nI ((iN k) / 2 ^ (7 * i))) (pc_shr (by omega) (by omega)) ?_
          refine pc_zle (tgt := 34) hx hb d_Mo_varint0_25 (by decide) (divlt hk31) (fun h_10 => ?_) (fun h_10 => ?_)
          · skip
            have hl : lv_has ls 4 [(0, .ref y), (1, .int (nI (iN k))), (2, .int (nI (vsz (iN k))))] := by rw [← show nI i = nI (vsz (iN k)) from congrArg nI (vsz_of h1 (by omega) (by omega) (by first | exact Or.inl (by omega) | exact Or.inr (vs_hi (by assumption))))]; exact hl
            exact lp_34 (0 + 1)  (Nat.lt_succ_self _) _ _ (hP.sub [0, 1] rfl) (hD.sub [0, 1] (by decide) rfl) hS _ (lv_sub hl [0, 1, 2] rfl)
          · skip
            refine lv_iinc (v := nI (i + 1)) (lv' := [(2, .int (nI (i + 1))), (0, .ref y), (1, .int (nI (iN k)))]) hx hb d_Mo_varint0_28 hl (k := 2) rfl (pc_inc i 1) (by decide) rfl (fun ls hl => ?_)
            refine lv_goto (tgt := 14) hx hb d_Mo_varint0_31 (by decide) ?_
            exact ih_14 (i + 1) (by omega) (by omega) (Or.inr (vs_lo h1 (by assumption))) (by omega) _ _ (hP.sub [0, 1] rfl) (hD.sub [0, 1] (by decide) rfl) hS _ (lv_sub hl [1, 2, 0] rfl)
    exact lp_14 (5 - 1 + 1) 1 (by omega) (by omega) (Or.inl rfl) (Nat.lt_succ_self _) _ _ (hP.sub [0, 1] rfl) (hD.sub [0, 1] (by decide) rfl) hS _ (lv_sub hl [1, 2, 0] rfl)
  · skip
    exact hT "java/lang/IllegalArgumentException" 37 39 _ _ 0 0 4 _ (n, t) (by decide) m_548 m_10 ta_3 (hl.1.trans hml.symm) d_Mo_varint0_4 d_Mo_varint0_7 d_Mo_varint0_8 d_Mo_varint0_11 (by decide) ⟨by exact Nat.le_of_ble_eq_true rfl, by exact Nat.le_of_ble_eq_true rfl, by exact Nat.le_of_ble_eq_true rfl, by exact Nat.le_of_ble_eq_true rfl⟩ (Or.inr (Or.inl (⟨rfl, Int32.not_le.mp (by assumption), rfl, rfl⟩))) (hP.sub [0, 1] rfl) (hD.sub [0, 1] (by decide) rfl) hS
abbrev rm_Mo_longest : Room := { frames := 0, cells := 0, slots := 0, locals := 0 }
set_option maxHeartbeats 1000000 in
set_option maxRecDepth 100000 in
/-- how many bytes from k on are those from d back -/
theorem c_Mo_longest (l : Launch) (g : pc_G) (y : Nat) (ta : Nat) (oa : Nat) (ma : Nat) (ca : Nat) (na : Nat) (la : Nat) (vo : Int32) (vm : Int32) (vc : Int32) (vk : Int32) (va : Int32) (vt : Int32) (n : Nat) (t : Nat → UInt8) (d : Nat) (k : Nat) (hn : n ≤ 32768) (hd : 1 ≤ d) (hdk : d ≤ k) (hkn : k < n) : pc_Ci (S := Unit) l y_Mo_longest prog_11_method_7_code 4 .int rm_Mo_longest g [(y, .inr (5, [.ref ta, .ref oa, .ref ma, .int (nI n), .int vo, .int vm, .ref ca, .ref na, .ref la, .int vc, .int vk, .int va, .int vt])), (ta, .inl (g.2.1, 32768, .inl (bA t)))] [.ref y, .int (nI d), .int (nI k)] (fun rv _ => rv = nI (cl (bl t n) (k - d) k (min 64 (n - k)))) (fun _ => [(y, .inr (5, [.ref ta, .ref oa, .ref ma, .int (nI n), .int vo, .int vm, .ref ca, .ref na, .ref la, .int vc, .int vk, .int va, .int vt])), (ta, .inl (g.2.1, 32768, .inl (bA t)))]) := by
  refine pc_Ci.of (by decide) (by exact Nat.le_of_ble_eq_true rfl) ?_
  intro p e s m below meth c A Q hx hb hml hown hE hA hQ hP hD ls hl
  have hS : va_S A s.heap s.heap [] := va_S.rf
  have hl : lv_has ls 4 [(0, .ref y), (1, .int (nI d)), (2, .int (nI k))] := hl
  refine lv_iconst (v := nI 0) hx hb d_Mo_longest_0 (by decide) ?_
  refine lv_istore_n (lv' := [(3, .int (nI 0)), (0, .ref y), (1, .int (nI d)), (2, .int (nI k))]) hx hb d_Mo_longest_1 rfl hl (by decide) rfl (fun ls hl => ?_)
  have lp_2 : ∀ (n9 : Nat) (i : Nat) (hi : i ≤ min 64 (n - k)) (he : ∀ j, j < i → bN t (k - d + j) = bN t (k + j)) (hmu : 64 - i < n9) (H : Heap) (locs : List Loc) (hP : va_P g.1 pc_cl [(y, .inr (5, [.ref ta, .ref oa, .ref ma, .int (nI n), .int vo, .int vm, .ref ca, .ref na, .ref la, .int vc, .int vk, .int va, .int vt])), (ta, .inl (g.2.1, 32768, .inl (bA t)))] H) (hD : va_D A [(y, .inr (5, [.ref ta, .ref oa, .ref ma, .int (nI n), .int vo, .int vm, .ref ca, .ref na, .ref la, .int vc, .int vk, .int va, .int vt])), (ta, .inl (g.2.1, 32768, .inl (bA t)))]) (hS : va_S A s.heap H locs) (ls : Array Slot) (hl : lv_has ls 4 [(0, .ref y), (1, .int (nI d)), (2, .int (nI k)), (3, .int (nI i))]), W p l e rm_Mo_longest s m ([.ref y, .int (nI d), .int (nI k)] : List Value).toArray below meth c H locs 0 0 Q (F0 m 2 ls []) := by
    intro n9
    induction n9 with
    | zero => intros; omega
    | succ n9 ih_2 =>
      intro i hi he hmu H locs hP hD hS ls hl
      refine lv_iload_n hx hb d_Mo_longest_2 rfl (lv_at hl 3 rfl) ?_
      refine lv_bipush (v := nI 64) hx hb d_Mo_longest_3 (by decide) ?_
      refine pc_jge (tgt := 45) hx hb d_Mo_longest_5 (by decide) (by omega) (by omega) (fun h_1 => ?_) (fun h_1 => ?_)
      · skip
        refine lv_iload_n hx hb d_Mo_longest_45 rfl (lv_at hl 3 rfl) ?_
        exact hQ _ _ 46 _ (nI i) () d_Mo_longest_46 rfl (congrArg nI (cl_lcp (by omega) (by omega) ⟨hi, he, by first | exact Or.inl (by omega) | exact Or.inr (by assumption)⟩).symm) (hP.sub [0, 1] rfl) (hD.sub [0, 1] (by decide) rfl) hS
      · skip
        refine lv_iload_n hx hb d_Mo_longest_8 rfl (lv_at hl 2 rfl) ?_
        refine lv_iload_n hx hb d_Mo_longest_9 rfl (lv_at hl 3 rfl) ?_
        refine lv_iadd hx hb d_Mo_longest_10 ?_
        refine pc_ti (y := nI (k + i)) (nI_add _ _) ?_
        refine lv_aload_n hx hb d_Mo_longest_11 rfl (lv_at hl 0 rfl) ?_
        refine va_get (ci := 5) (C := R_Mo) (T := F_Mo) (N := 13) hx hb hE.hts in_Mo hown hE.2.1 hP 0 rfl rfl 3 (by decide) (hE.w m_493) (fun _ h9 => h9) rfl d_Mo_longest_12 ?_
        refine pc_jge (tgt := 45) hx hb d_Mo_longest_15 (by decide) (by omega) (by omega) (fun h_2 => ?_) (fun h_2 => ?_)
        · skip
          refine lv_iload_n hx hb d_Mo_longest_45 rfl (lv_at hl 3 rfl) ?_
          exact hQ _ _ 46 _ (nI i) () d_Mo_longest_46 rfl (congrArg nI (cl_lcp (by omega) (by omega) ⟨hi, he, by first | exact Or.inl (by omega) | exact Or.inr (by assumption)⟩).symm) (hP.sub [0, 1] rfl) (hD.sub [0, 1] (by decide) rfl) hS
        · skip
          refine lv_aload_n hx hb d_Mo_longest_18 rfl (lv_at hl 0 rfl) ?_
          refine va_get (ci := 5) (C := R_Mo) (T := F_Mo) (N := 13) hx hb hE.hts in_Mo hown hE.2.1 hP 0 rfl rfl 0 (by decide) (hE.w m_490) (fun _ h9 => h9) rfl d_Mo_longest_19 ?_
          refine lv_iload_n hx hb d_Mo_longest_22 rfl (lv_at hl 2 rfl) ?_
          refine lv_iload_n hx hb d_Mo_longest_23 rfl (lv_at hl 3 rfl) ?_
          refine lv_iadd hx hb d_Mo_longest_24 ?_
          refine pc_ti (y := nI (k + i)) (nI_add _ _) ?_
          refine pc_bald hx hb hE.2.1 hP 1 0 rfl rfl (by omega) (by omega) d_Mo_longest_25 ?_
          refine lv_aload_n hx hb d_Mo_longest_26 rfl (lv_at hl 0 rfl) ?_
          refine va_get (ci := 5) (C := R_Mo) (T := F_Mo) (N := 13) hx hb hE.hts in_Mo hown hE.2.1 hP 0 rfl rfl 0 (by decide) (hE.w m_490) (fun _ h9 => h9) rfl d_Mo_longest_27 ?_
          refine lv_iload_n hx hb d_Mo_longest_30 rfl (lv_at hl 2 rfl) ?_
          refine lv_iload_n hx hb d_Mo_longest_31 rfl (lv_at hl 3 rfl) ?_
          refine lv_iadd hx hb d_Mo_longest_32 ?_
          refine pc_ti (y := nI (k + i)) (nI_add _ _) ?_
          refine lv_iload_n hx hb d_Mo_longest_33 rfl (lv_at hl 1 rfl) ?_
          refine lv_isub hx hb d_Mo_longest_34 ?_
          refine pc_ti (y := nI ((k + i) - d)) (pk_sub (by omega)) ?_
          refine pc_bald hx hb hE.2.1 hP 1 0 rfl rfl (by omega) (by omega) d_Mo_longest_35 ?_
          refine lv_icmp_ne (tgt := 45) hx hb d_Mo_longest_36 (by decide) (fun h_3 => ?_) (fun h_3 => ?_)
          · skip
            have h_3 : bN t (k - d + i) ≠ bN t (k + i) := by rw [show k - d + i = k + i - d by omega]; exact fun z9 => h_3 ((bA_eq _ _ _).mpr z9.symm)
            refine lv_iload_n hx hb d_Mo_longest_45 rfl (lv_at hl 3 rfl) ?_
            exact hQ _ _ 46 _ (nI i) () d_Mo_longest_46 rfl (congrArg nI (cl_lcp (by omega) (by omega) ⟨hi, he, by first | exact Or.inl (by omega) | exact Or.inr (by assumption)⟩).symm) (hP.sub [0, 1] rfl) (hD.sub [0, 1] (by decide) rfl) hS
          · skip
            have h_3 : bN t (k - d + i) = bN t (k + i) := by rw [show k - d + i = k + i - d by omega]; exact ((bA_eq _ _ _).mp h_3).symm
            refine lv_iinc (v := nI (i + 1)) (lv' := [(3, .int (nI (i + 1))), (0, .ref y), (1, .int (nI d)), (2, .int (nI k))]) hx hb d_Mo_longest_39 hl (k := 3) rfl (pc_inc i 1) (by decide) rfl (fun ls hl => ?_)
            refine lv_goto (tgt := 2) hx hb d_Mo_longest_42 (by decide) ?_
            exact ih_2 (i + 1) (by omega) (lt_s he (by assumption)) (by omega) _ _ (hP.sub [0, 1] rfl) (hD.sub [0, 1] (by decide) rfl) hS _ (lv_sub hl [1, 2, 3, 0] rfl)
  exact lp_2 (64 - 0 + 1) 0 (by omega) (fun j hj => absurd hj (Nat.not_lt_zero j)) (Nat.lt_succ_self _) _ _ (hP.sub [0, 1] rfl) (hD.sub [0, 1] (by decide) rfl) hS _ (lv_sub hl [1, 2, 3, 0] rfl)
abbrev rm_Mo_write : Room := { frames := 1, cells := 0, slots := 0, locals := 21 }
set_option maxHeartbeats 1000000 in
set_option maxRecDepth 100000 in
/-- a varint more, as far as there is room -/
theorem c_Mo_write (l : Launch) (g : pc_G) (y : Nat) (ta : Nat) (oa : Nat) (ma : Nat) (ca : Nat) (na : Nat) (la : Nat) (vn : Int32) (vo : Int32) (vc : Int32) (vk : Int32) (va : Int32) (vt : Int32) (n : Nat) (v : Nat) (t : Nat → UInt8) (hn : n ≤ 32768) (hv : v < 2 ^ 31) : pc_Ci (S := Nat × (Nat → UInt8)) l y_Mo_write prog_11_method_5_code 4 .boolean rm_Mo_write g [(y, .inr (5, [.ref ta, .ref oa, .ref ma, .int vn, .int vo, .int (nI n), .ref ca, .ref na, .ref la, .int vc, .int vk, .int va, .int vt])), (ma, .inl (g.2.1, 32768, .inl (bA t)))] [.ref y, .int (nI v)] (fun rv u => rv = bI (n + vsz v ≤ 32768) ∧ bl u.2 u.1 = (bl t n ++ vL v).take 32768 ∧ u.1 ≤ 32768) (fun u => [(y, .inr (5, [.ref ta, .ref oa, .ref ma, .int vn, .int vo, .int (nI u.1), .ref ca, .ref na, .ref la, .int vc, .int vk, .int va, .int vt])), (ma, .inl (g.2.1, 32768, .inl (bA u.2)))]) := by
  refine pc_Ci.of (by decide) (by exact Nat.le_of_ble_eq_true rfl) ?_
  intro p e s m below meth c A Q hx hb hml hown hE hA hQ hP hD ls hl
  have hS : va_S A s.heap s.heap [] := va_S.rf
  have hl : lv_has ls 4 [(0, .ref y), (1, .int (nI v))] := hl
  refine lv_iload_n hx hb d_Mo_write_0 rfl (lv_at hl 1 rfl) ?_
  refine lv_istore_n (lv' := [(2, .int (nI v)), (0, .ref y), (1, .int (nI v))]) hx hb d_Mo_write_1 rfl hl (by decide) rfl (fun ls hl => ?_)
  have hl : lv_has ls 4 [(2, .int (nI (v / 2 ^ (7 * 0)))), (0, .ref y), (1, .int (nI v))] := by rw [← show nI v = nI (v / 2 ^ (7 * 0)) from by rw [Nat.mul_zero, Nat.pow_zero, Nat.div_one]]; exact hl
  refine lv_iconst (v := nI 1) hx hb d_Mo_write_2 (by decide) ?_
  refine pc_ti (y := bI (n + 0 ≤ 32768)) ((bI_t (by omega)).symm) ?_
  refine lv_istore_n (lv' := [(3, .int (bI (n + 0 ≤ 32768))), (2, .int (nI (v / 2 ^ (7 * 0)))), (0, .ref y), (1, .int (nI v))]) hx hb d_Mo_write_3 rfl hl (by decide) rfl (fun ls hl => ?_)
  have lp_4 : ∀ (n9 : Nat) (i : Nat) (w : Nat) (u : Nat → UInt8) (hi : i < vsz v) (hc : bl u w = (bl t n ++ (vL v).take i).take 32768) (hw2 : w ≤ 32768) (hmu : vsz v - i < n9) (H : Heap) (locs : List Loc) (hP : va_P g.1 pc_cl [(y, .inr (5, [.ref ta, .ref oa, .ref ma, .int vn, .int vo, .int (nI w), .ref ca, .ref na, .ref la, .int vc, .int vk, .int va, .int vt])), (ma, .inl (g.2.1, 32768, .inl (bA u)))] H) (hD : va_D A [(y, .inr (5, [.ref ta, .ref oa, .ref ma, .int vn, .int vo, .int (nI w), .ref ca, .ref na, .ref la, .int vc, .int vk, .int va, .int vt])), (ma, .inl (g.2.1, 32768, .inl (bA u)))]) (hS : va_S A s.heap H locs) (ls : Array Slot) (hl : lv_has ls 4 [(0, .ref y), (2, .int (nI (v / 2 ^ (7 * i)))), (3, .int (bI (n + i ≤ 32768)))]), W p l e rm_Mo_write s m ([.ref y, .int (nI v)] : List Value).toArray below meth c H locs 0 0 Q (F0 m 4 ls []) := by
    intro n9
    induction n9 with
    | zero => intros; omega
    | succ n9 ih_4 =>
      intro i w u hi hc hw2 hmu H locs hP hD hS ls hl
      refine lv_iload_n hx hb d_Mo_write_4 rfl (lv_at hl 1 rfl) ?_
      have hq31 := divlt (h := 7 * i) hv
      refine lv_bipush (v := nI 127) hx hb d_Mo_write_5 (by decide) ?_
      refine pc_jle (tgt := 33) hx hb d_Mo_write_7 (by decide) (by omega) (by omega) (fun h_1 => ?_) (fun h_1 => ?_)
      · skip
        have hlast := vs_last hi (by omega)
        have hwl := wr_len hc
        rw [vL_tk_len (by omega)] at hwl
        have hvz := vsz_in v
        refine lv_aload_n hx hb d_Mo_write_33 rfl (lv_at hl 0 rfl) ?_
        refine lv_iload_n hx hb d_Mo_write_34 rfl (lv_at hl 1 rfl) ?_
        refine pc_i (wc := [(y, .inr (5, [.ref ta, .ref oa, .ref ma, .int vn, .int vo, .int (nI w), .ref ca, .ref na, .ref la, .int vc, .int vk, .int va, .int vt])), (ma, .inl (g.2.1, 32768, .inl (bA u)))]) (wr := []) (cells' := 0) (slots' := 0) hP hD hS hA [0, 1] [] rfl rfl (by decide) (by decide) rfl rfl (va_runV (n := 1) (As := [.int (nI (v / 2 ^ (7 * i)))]) (rest := []) (C := R_Mo) ⟨hx, hb, hml, hown, hE.hts⟩ (c_Mo_one l g y ta oa ma ca na la vn vo vc vk va vt w (nI (v / 2 ^ (7 * i))) (v / 2 ^ (7 * i)) u (by omega) rfl _) ⟨pc_cb hE m_569 m_5 m_566 (by decide +kernel) ⟨by exact Nat.le_of_ble_eq_true rfl, by exact Nat.le_of_ble_eq_true rfl⟩, hE.w m_568, hE.w ms_25⟩ (pc_preV (ci := 5) (q0 := 0) hP hD hE hS hA [0, 1] (by decide) rfl [.int (nI (v / 2 ^ (7 * i)))] rfl rfl) rfl rfl hl.1 rfl (lv_room (by exact Nat.le_of_ble_eq_true rfl)) d_Mo_write_35 ⟨by exact Nat.le_of_ble_eq_true rfl, by exact Nat.le_of_ble_eq_true rfl⟩) (fun r_3 u_2 H locs hw hP hD hS => ?_)
        obtain ⟨w2, u2⟩ := u_2
        obtain ⟨rfl, hc2, hw3⟩ := hw
        have hc2 : bl u2 w2 = (bl u w ++ [(v / 2 ^ (7 * i)) % 256]).take 32768 := hc2
        have hw3 : w2 ≤ 32768 := hw3
        have hP : va_P g.1 pc_cl [(y, .inr (5, [.ref ta, .ref oa, .ref ma, .int vn, .int vo, .int (nI w2), .ref ca, .ref na, .ref la, .int vc, .int vk, .int va, .int vt])), (ma, .inl (g.2.1, 32768, .inl (bA u2)))] H := hP
        have hD : va_D A [(y, .inr (5, [.ref ta, .ref oa, .ref ma, .int vn, .int vo, .int (nI w2), .ref ca, .ref na, .ref la, .int vc, .int vk, .int va, .int vt])), (ma, .inl (g.2.1, 32768, .inl (bA u2)))] := hD
        refine pc_beq (tgt := 49) hx hb d_Mo_write_38 (by decide) (fun h_4 => ?_) (fun h_4 => ?_)
        · skip
          refine lv_iconst (v := nI 0) hx hb d_Mo_write_49 (by decide) ?_
          exact hQ _ _ 50 _ (nI 0) (w2, u2) d_Mo_write_50 rfl (⟨(bI_f (by omega)).symm, wr_end hv hlast hc hc2, hw3⟩) (hP.sub [0, 1] rfl) (hD.sub [0, 1] (by decide) rfl) hS
        · skip
          refine lv_iload_n hx hb d_Mo_write_41 rfl (lv_at hl 2 rfl) ?_
          refine pc_beq (tgt := 49) hx hb d_Mo_write_42 (by decide) (fun h_5 => ?_) (fun h_5 => ?_)
          · skip
            refine lv_iconst (v := nI 0) hx hb d_Mo_write_49 (by decide) ?_
            exact hQ _ _ 50 _ (nI 0) (w2, u2) d_Mo_write_50 rfl (⟨(bI_f (by omega)).symm, wr_end hv hlast hc hc2, hw3⟩) (hP.sub [0, 1] rfl) (hD.sub [0, 1] (by decide) rfl) hS
          · skip
            refine lv_iconst (v := nI 1) hx hb d_Mo_write_45 (by decide) ?_
            refine lv_goto (tgt := 50) hx hb d_Mo_write_46 (by decide) ?_
            exact hQ _ _ 50 _ (nI 1) (w2, u2) d_Mo_write_50 rfl (⟨(bI_t (by omega)).symm, wr_end hv hlast hc hc2, hw3⟩) (hP.sub [0, 1] rfl) (hD.sub [0, 1] (by decide) rfl) hS
      · skip
        refine lv_iload_n hx hb d_Mo_write_10 rfl (lv_at hl 2 rfl) ?_
        refine lv_aload_n hx hb d_Mo_write_11 rfl (lv_at hl 0 rfl) ?_
        refine lv_iload_n hx hb d_Mo_write_12 rfl (lv_at hl 1 rfl) ?_
        refine lv_bipush (v := nI 127) hx hb d_Mo_write_13 (by decide) ?_
        refine lv_iand hx hb d_Mo_write_15 ?_
        refine pc_ti (y := nI ((v / 2 ^ (7 * i)) % 128)) (pk_andN (by omega) 7 (by decide)) ?_
        refine lv_sipush (v := nI 128) hx hb d_Mo_write_16 (by decide) ?_
        refine lv_ior hx hb d_Mo_write_19 ?_
        refine pc_ti (y := nI (v / 2 ^ (7 * i) % 128 + 128)) (or_128 _) ?_
        refine pc_i (wc := [(y, .inr (5, [.ref ta, .ref oa, .ref ma, .int vn, .int vo, .int (nI w), .ref ca, .ref na, .ref la, .int vc, .int vk, .int va, .int vt])), (ma, .inl (g.2.1, 32768, .inl (bA u)))]) (wr := []) (cells' := 0) (slots' := 0) hP hD hS hA [0, 1] [] rfl rfl (by decide) (by decide) rfl rfl (va_runV (n := 1) (As := [.int (nI (v / 2 ^ (7 * i) % 128 + 128))]) (rest := [.int (bI (n + i ≤ 32768))]) (C := R_Mo) ⟨hx, hb, hml, hown, hE.hts⟩ (c_Mo_one l g y ta oa ma ca na la vn vo vc vk va vt w (nI (v / 2 ^ (7 * i) % 128 + 128)) (v / 2 ^ (7 * i) % 128 + 128) u (by omega) rfl _) ⟨pc_cb hE m_569 m_5 m_566 (by decide +kernel) ⟨by exact Nat.le_of_ble_eq_true rfl, by exact Nat.le_of_ble_eq_true rfl⟩, hE.w m_568, hE.w ms_25⟩ (pc_preV (ci := 5) (q0 := 0) hP hD hE hS hA [0, 1] (by decide) rfl [.int (nI (v / 2 ^ (7 * i) % 128 + 128))] rfl rfl) rfl rfl hl.1 rfl (lv_room (by exact Nat.le_of_ble_eq_true rfl)) d_Mo_write_20 ⟨by exact Nat.le_of_ble_eq_true rfl, by exact Nat.le_of_ble_eq_true rfl⟩) (fun r_7 u_6 H locs hw hP hD hS => ?_)
        obtain ⟨w2, u2⟩ := u_6
        obtain ⟨rfl, hc2, hw3⟩ := hw
        have hc2 : bl u2 w2 = (bl u w ++ [(v / 2 ^ (7 * i) % 128 + 128) % 256]).take 32768 := hc2
        have hw3 : w2 ≤ 32768 := hw3
        have hP : va_P g.1 pc_cl [(y, .inr (5, [.ref ta, .ref oa, .ref ma, .int vn, .int vo, .int (nI w2), .ref ca, .ref na, .ref la, .int vc, .int vk, .int va, .int vt])), (ma, .inl (g.2.1, 32768, .inl (bA u2)))] H := hP
        have hD : va_D A [(y, .inr (5, [.ref ta, .ref oa, .ref ma, .int vn, .int vo, .int (nI w2), .ref ca, .ref na, .ref la, .int vc, .int vk, .int va, .int vt])), (ma, .inl (g.2.1, 32768, .inl (bA u2)))] := hD
        refine lv_iand hx hb d_Mo_write_23 ?_
        have hwl := wr_len hc
        rw [vL_tk_len (by omega)] at hwl
        refine pc_ti (y := bI (n + (i + 1) ≤ 32768)) (bI_and (by omega)) ?_
        refine lv_istore_n (lv' := [(3, .int (bI (n + (i + 1) ≤ 32768))), (0, .ref y), (2, .int (nI (v / 2 ^ (7 * i))))]) hx hb d_Mo_write_24 rfl hl (by decide) rfl (fun ls hl => ?_)
        refine lv_iload_n hx hb d_Mo_write_25 rfl (lv_at hl 2 rfl) ?_
        refine lv_bipush (v := nI 7) hx hb d_Mo_write_26 (by decide) ?_
        refine lv_ishr hx hb d_Mo_write_28 ?_
        refine pc_ti (y := nI ((v / 2 ^ (7 * i)) / 2 ^ 7)) (pc_shr (by omega) (by omega)) ?_
        refine pc_ti (y := nI (v / 2 ^ (7 * (i + 1)))) (by rw [Nat.div_div_eq_div_mul, ← Nat.pow_add, Nat.mul_succ]) ?_
        refine lv_istore_n (lv' := [(2, .int (nI (v / 2 ^ (7 * (i + 1))))), (3, .int (bI (n + (i + 1) ≤ 32768))), (0, .ref y)]) hx hb d_Mo_write_29 rfl hl (by decide) rfl (fun ls hl => ?_)
        refine lv_goto (tgt := 4) hx hb d_Mo_write_30 (by decide) ?_
        exact ih_4 (i + 1) w2 u2 (vs_more hv hi (by omega)) (wr_step hc hc2 (by omega) (vL_step (vs_more hv hi (by omega)))) (by omega) (by have := vs_more hv hi (by omega); omega) _ _ (hP.sub [0, 1] rfl) (hD.sub [0, 1] (by decide) rfl) hS _ (lv_sub hl [2, 0, 1] rfl)
  exact lp_4 (vsz v - 0 + 1) 0 n t ((vsz_in v).1) (by rw [List.take_zero, List.append_nil, List.take_of_length_le (by rw [bl_len]; exact hn)]) (by omega) (Nat.lt_succ_self _) _ _ (hP.sub [0, 1] rfl) (hD.sub [0, 1] (by decide) rfl) hS _ (lv_sub hl [2, 1, 0] rfl)
abbrev rm_Mo_plain : Room := { frames := 2, cells := 0, slots := 0, locals := 44 }
set_option maxHeartbeats 1000000 in
set_option maxRecDepth 100000 in
/-- a plain piece, as far as there is room -/
theorem c_Mo_plain (l : Launch) (g : pc_G) (y : Nat) (ta : Nat) (oa : Nat) (ma : Nat) (ca : Nat) (na : Nat) (la : Nat) (vo : Int32) (vc : Int32) (vk : Int32) (va : Int32) (vt : Int32) (n : Nat) (t : Nat → UInt8) (m0 : Nat) (mt : Nat → UInt8) (a : Nat) (b : Nat) (hn : n ≤ 32768) (hm : m0 ≤ 32768) (hab : a ≤ b) (hbn : b ≤ n) : pc_Ci (S := Nat × (Nat → UInt8)) l y_Mo_plain prog_11_method_8_code 5 .boolean rm_Mo_plain g [(y, .inr (5, [.ref ta, .ref oa, .ref ma, .int (nI n), .int vo, .int (nI m0), .ref ca, .ref na, .ref la, .int vc, .int vk, .int va, .int vt])), (ta, .inl (g.2.1, 32768, .inl (bA t))), (ma, .inl (g.2.1, 32768, .inl (bA mt)))] [.ref y, .int (nI a), .int (nI b)] (fun rv u => rv = bI (m0 + (plL (bl t n) a b).length ≤ 32768) ∧ bl u.2 u.1 = (bl mt m0 ++ plL (bl t n) a b).take 32768 ∧ u.1 ≤ 32768) (fun u => [(y, .inr (5, [.ref ta, .ref oa, .ref ma, .int (nI n), .int vo, .int (nI u.1), .ref ca, .ref na, .ref la, .int vc, .int vk, .int va, .int vt])), (ta, .inl (g.2.1, 32768, .inl (bA t))), (ma, .inl (g.2.1, 32768, .inl (bA u.2)))]) := by
  refine pc_Ci.of (by decide) (by exact Nat.le_of_ble_eq_true rfl) ?_
  intro p e s m below meth c A Q hx hb hml hown hE hA hQ hP hD ls hl
  have hS : va_S A s.heap s.heap [] := va_S.rf
  have hl : lv_has ls 5 [(0, .ref y), (1, .int (nI a)), (2, .int (nI b))] := hl
  refine lv_iload_n hx hb d_Mo_plain_0 rfl (lv_at hl 1 rfl) ?_
  refine lv_iload_n hx hb d_Mo_plain_1 rfl (lv_at hl 2 rfl) ?_
  refine pc_jne (tgt := 7) hx hb d_Mo_plain_2 (by decide) (by omega) (by omega) (fun h_1 => ?_) (fun h_1 => ?_)
  · skip
    refine lv_aload_n hx hb d_Mo_plain_7 rfl (lv_at hl 0 rfl) ?_
    refine lv_iconst (v := nI 2) hx hb d_Mo_plain_8 (by decide) ?_
    refine lv_iload_n hx hb d_Mo_plain_9 rfl (lv_at hl 2 rfl) ?_
    refine lv_iload_n hx hb d_Mo_plain_10 rfl (lv_at hl 1 rfl) ?_
    refine lv_isub hx hb d_Mo_plain_11 ?_
    refine pc_ti (y := nI (b - a)) (pk_sub (by omega)) ?_
    refine lv_imul hx hb d_Mo_plain_12 ?_
    refine pc_ti (y := nI (2 * (b - a))) (pk_mul _ _) ?_
    refine pc_i (wc := [(y, .inr (5, [.ref ta, .ref oa, .ref ma, .int (nI n), .int vo, .int (nI m0), .ref ca, .ref na, .ref la, .int vc, .int vk, .int va, .int vt])), (ma, .inl (g.2.1, 32768, .inl (bA mt)))]) (wr := [(ta, .inl (g.2.1, 32768, .inl (bA t)))]) (cells' := 0) (slots' := 0) hP hD hS hA [0, 2] [1] rfl rfl (by decide) (by decide) rfl rfl (va_runV (n := 1) (As := [.int (nI (2 * (b - a)))]) (rest := []) (C := R_Mo) ⟨hx, hb, hml, hown, hE.hts⟩ (c_Mo_write l g y ta oa ma ca na la (nI n) vo vc vk va vt m0 (2 * (b - a)) mt (by omega) (by omega) _) ⟨pc_cb hE m_565 m_5 m_562 (by decide +kernel) ⟨by exact Nat.le_of_ble_eq_true rfl, by exact Nat.le_of_ble_eq_true rfl⟩, hE.w m_564, hE.w ms_24⟩ (pc_preV (ci := 5) (q0 := 0) hP hD hE hS hA [0, 2] (by decide) rfl [.int (nI (2 * (b - a)))] rfl rfl) rfl rfl hl.1 rfl (lv_room (by exact Nat.le_of_ble_eq_true rfl)) d_Mo_plain_13 ⟨by exact Nat.le_of_ble_eq_true rfl, by exact Nat.le_of_ble_eq_true rfl⟩) (fun r_3 u_2 H locs hw hP hD hS => ?_)
    obtain ⟨w1, u1⟩ := u_2
    obtain ⟨rfl, hc1, hw1⟩ := hw
    have hc1 : bl u1 w1 = (bl mt m0 ++ vL (2 * (b - a))).take 32768 := hc1
    have hw1 : w1 ≤ 32768 := hw1
    have hP : va_P g.1 pc_cl [(ta, .inl (g.2.1, 32768, .inl (bA t))), (y, .inr (5, [.ref ta, .ref oa, .ref ma, .int (nI n), .int vo, .int (nI w1), .ref ca, .ref na, .ref la, .int vc, .int vk, .int va, .int vt])), (ma, .inl (g.2.1, 32768, .inl (bA u1)))] H := hP
    have hD : va_D A [(ta, .inl (g.2.1, 32768, .inl (bA t))), (y, .inr (5, [.ref ta, .ref oa, .ref ma, .int (nI n), .int vo, .int (nI w1), .ref ca, .ref na, .ref la, .int vc, .int vk, .int va, .int vt])), (ma, .inl (g.2.1, 32768, .inl (bA u1)))] := hD
    refine lv_istore_n (lv' := [(3, .int (bI (m0 + vsz (2 * (b - a)) ≤ 32768))), (0, .ref y), (1, .int (nI a)), (2, .int (nI b))]) hx hb d_Mo_plain_16 rfl hl (by decide) rfl (fun ls hl => ?_)
    have hl : lv_has ls 5 [(3, .int (bI (m0 + vsz (2 * (b - a)) + (a - a) ≤ 32768))), (0, .ref y), (1, .int (nI a)), (2, .int (nI b))] := by rw [← show bI (m0 + vsz (2 * (b - a)) ≤ 32768) = bI (m0 + vsz (2 * (b - a)) + (a - a) ≤ 32768) from bI_c (by omega)]; exact hl
    refine lv_iload_n hx hb d_Mo_plain_17 rfl (lv_at hl 2 rfl) ?_
    refine lv_istore (lv' := [(4, .int (nI a)), (3, .int (bI (m0 + vsz (2 * (b - a)) + (a - a) ≤ 32768))), (0, .ref y), (1, .int (nI a)), (2, .int (nI b))]) hx hb d_Mo_plain_18 hl (by decide) rfl (fun ls hl => ?_)
    have lp_20 : ∀ (n9 : Nat) (i : Nat) (w : Nat) (v : Nat → UInt8) (hi1 : a ≤ i) (hi2 : i ≤ b) (hc : bl v w = (bl mt m0 ++ (vL (2 * (b - a)) ++ ((bl t n).drop a).take (i - a))).take 32768) (hw2 : w ≤ 32768) (hmu : b - i < n9) (H : Heap) (locs : List Loc) (hP : va_P g.1 pc_cl [(y, .inr (5, [.ref ta, .ref oa, .ref ma, .int (nI n), .int vo, .int (nI w), .ref ca, .ref na, .ref la, .int vc, .int vk, .int va, .int vt])), (ta, .inl (g.2.1, 32768, .inl (bA t))), (ma, .inl (g.2.1, 32768, .inl (bA v)))] H) (hD : va_D A [(y, .inr (5, [.ref ta, .ref oa, .ref ma, .int (nI n), .int vo, .int (nI w), .ref ca, .ref na, .ref la, .int vc, .int vk, .int va, .int vt])), (ta, .inl (g.2.1, 32768, .inl (bA t))), (ma, .inl (g.2.1, 32768, .inl (bA v)))]) (hS : va_S A s.heap H locs) (ls : Array Slot) (hl : lv_has ls 5 [(0, .ref y), (1, .int (nI a)), (2, .int (nI b)), (4, .int (nI i)), (3, .int (bI (m0 + vsz (2 * (b - a)) + (i - a) ≤ 32768)))]), W p l e rm_Mo_plain s m ([.ref y, .int (nI a), .int (nI b)] : List Value).toArray below meth c H locs 0 0 Q (F0 m 20 ls []) := by
      intro n9
      induction n9 with
      | zero => intros; omega
      | succ n9 ih_20 =>
        intro i w v hi1 hi2 hc hw2 hmu H locs hP hD hS ls hl
        refine lv_iload hx hb d_Mo_plain_20 (lv_at hl 3 rfl) ?_
        refine lv_iload_n hx hb d_Mo_plain_22 rfl (lv_at hl 2 rfl) ?_
        refine pc_jge (tgt := 46) hx hb d_Mo_plain_23 (by decide) (by omega) (by omega) (fun h_4 => ?_) (fun h_4 => ?_)
        · skip
          refine lv_iload_n hx hb d_Mo_plain_46 rfl (lv_at hl 4 rfl) ?_
          exact hQ _ _ 47 _ (bI (m0 + vsz (2 * (b - a)) + (i - a) ≤ 32768)) (w, v) d_Mo_plain_47 bI_nar (⟨bI_c (by rw [plL_len (by omega) (by rw [bl_len]; exact hbn)]; omega), by rw [plL_eq (by omega), show b - a = i - a by omega]; rw [show b - a = i - a by omega] at hc; exact hc, hw2⟩) (hP.sub [0, 1, 2] rfl) (hD.sub [0, 1, 2] (by decide) rfl) hS
        · skip
          refine lv_iload_n hx hb d_Mo_plain_26 rfl (lv_at hl 4 rfl) ?_
          refine lv_aload_n hx hb d_Mo_plain_27 rfl (lv_at hl 0 rfl) ?_
          refine lv_aload_n hx hb d_Mo_plain_28 rfl (lv_at hl 0 rfl) ?_
          refine va_get (ci := 5) (C := R_Mo) (T := F_Mo) (N := 13) hx hb hE.hts in_Mo hown hE.2.1 hP 0 rfl rfl 0 (by decide) (hE.w m_490) (fun _ h9 => h9) rfl d_Mo_plain_29 ?_
          refine lv_iload hx hb d_Mo_plain_32 (lv_at hl 3 rfl) ?_
          refine pc_bald hx hb hE.2.1 hP 1 0 rfl rfl (by omega) (by omega) d_Mo_plain_34 ?_
          refine pc_i (wc := [(y, .inr (5, [.ref ta, .ref oa, .ref ma, .int (nI n), .int vo, .int (nI w), .ref ca, .ref na, .ref la, .int vc, .int vk, .int va, .int vt])), (ma, .inl (g.2.1, 32768, .inl (bA v)))]) (wr := [(ta, .inl (g.2.1, 32768, .inl (bA t)))]) (cells' := 0) (slots' := 0) hP hD hS hA [0, 2] [1] rfl rfl (by decide) (by decide) rfl rfl (va_runV (n := 1) (As := [.int (bA t i)]) (rest := [.int (bI (m0 + vsz (2 * (b - a)) + (i - a) ≤ 32768))]) (C := R_Mo) ⟨hx, hb, hml, hown, hE.hts⟩ (c_Mo_one l g y ta oa ma ca na la (nI n) vo vc vk va vt w (bA t i) (bN t i) v (by omega) (sb_bA t i) _) ⟨pc_cb hE m_569 m_5 m_566 (by decide +kernel) ⟨by exact Nat.le_of_ble_eq_true rfl, by exact Nat.le_of_ble_eq_true rfl⟩, hE.w m_568, hE.w ms_25⟩ (pc_preV (ci := 5) (q0 := 0) hP hD hE hS hA [0, 2] (by decide) rfl [.int (bA t i)] rfl rfl) rfl rfl hl.1 rfl (lv_room (by exact Nat.le_of_ble_eq_true rfl)) d_Mo_plain_35 ⟨by exact Nat.le_of_ble_eq_true rfl, by exact Nat.le_of_ble_eq_true rfl⟩) (fun r_6 u_5 H locs hw hP hD hS => ?_)
          obtain ⟨w2, u2⟩ := u_5
          obtain ⟨rfl, hc2, hw3⟩ := hw
          have hc2 : bl u2 w2 = (bl v w ++ [(bN t i) % 256]).take 32768 := hc2
          have hw3 : w2 ≤ 32768 := hw3
          have hP : va_P g.1 pc_cl [(ta, .inl (g.2.1, 32768, .inl (bA t))), (y, .inr (5, [.ref ta, .ref oa, .ref ma, .int (nI n), .int vo, .int (nI w2), .ref ca, .ref na, .ref la, .int vc, .int vk, .int va, .int vt])), (ma, .inl (g.2.1, 32768, .inl (bA u2)))] H := hP
          have hD : va_D A [(ta, .inl (g.2.1, 32768, .inl (bA t))), (y, .inr (5, [.ref ta, .ref oa, .ref ma, .int (nI n), .int vo, .int (nI w2), .ref ca, .ref na, .ref la, .int vc, .int vk, .int va, .int vt])), (ma, .inl (g.2.1, 32768, .inl (bA u2)))] := hD
          refine lv_iand hx hb d_Mo_plain_38 ?_
          have hwl := wr_len hc
          rw [List.length_append, vL_len, List.length_take, List.length_drop, bl_len] at hwl
          refine pc_ti (y := bI (m0 + vsz (2 * (b - a)) + ((i + 1) - a) ≤ 32768)) (bI_and (by omega)) ?_
          refine lv_istore_n (lv' := [(3, .int (bI (m0 + vsz (2 * (b - a)) + ((i + 1) - a) ≤ 32768))), (0, .ref y), (1, .int (nI a)), (2, .int (nI b)), (4, .int (nI i))]) hx hb d_Mo_plain_39 rfl hl (by decide) rfl (fun ls hl => ?_)
          refine lv_iinc (v := nI (i + 1)) (lv' := [(4, .int (nI (i + 1))), (3, .int (bI (m0 + vsz (2 * (b - a)) + ((i + 1) - a) ≤ 32768))), (0, .ref y), (1, .int (nI a)), (2, .int (nI b))]) hx hb d_Mo_plain_40 hl (k := 4) rfl (pc_inc i 1) (by decide) rfl (fun ls hl => ?_)
          refine lv_goto (tgt := 20) hx hb d_Mo_plain_43 (by decide) ?_
          exact ih_20 (i + 1) w2 u2 (by omega) (by omega) (wr_step hc hc2 (bN_lt t i) (by rw [pl_step hi1 (by omega), ← List.append_assoc])) (by omega) (by omega) _ _ (hP.sub [1, 0, 2] rfl) (hD.sub [1, 0, 2] (by decide) rfl) hS _ (lv_sub hl [2, 3, 4, 0, 1] rfl)
    exact lp_20 (b - a + 1) a w1 u1 (by omega) (by omega) (by rw [Nat.sub_self, List.take_zero, List.append_nil]; exact hc1) (by omega) (Nat.lt_succ_self _) _ _ (hP.sub [1, 0, 2] rfl) (hD.sub [1, 0, 2] (by decide) rfl) hS _ (lv_sub hl [2, 3, 4, 0, 1] rfl)
  · skip
    refine lv_iconst (v := nI 1) hx hb d_Mo_plain_5 (by decide) ?_
    exact hQ _ _ 6 _ (nI 1) (m0, mt) d_Mo_plain_6 rfl (⟨(bI_t (by rw [plL_0 (by omega)]; exact hm)).symm, by rw [plL_0 (by omega), List.append_nil, List.take_of_length_le (by rw [bl_len]; exact hm)], hm⟩) (hP.sub [0, 1, 2] rfl) (hD.sub [0, 1, 2] (by decide) rfl) hS
