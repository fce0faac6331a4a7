abbrev rm_Mo_read : Room := { frames := 0, cells := 0, slots := 0, locals := 0 }
set_option maxHeartbeats 1000000 in
set_option maxRecDepth 100000 in
/-- a varint read, or -1 -/
theorem c_Mo_read (l : Launch) (g : pc_G) (y : Nat) (ta : Nat) (oa : Nat) (ma : Nat) (ca : Nat) (na : Nat) (la : Nat) (vn : Int32) (vo : Int32) (vm : Int32) (vc : Int32) (vk : Int32) (vt : Int32) (n : Nat) (t : Nat → UInt8) (p0 : Nat) (hn : n ≤ 32768) (hp0 : p0 ≤ n) : pc_Ci (S := Nat) l y_Mo_read prog_11_method_10_code 6 .int rm_Mo_read g [(y, .inr (5, [.ref ta, .ref oa, .ref ma, .int vn, .int vo, .int vm, .ref ca, .ref na, .ref la, .int vc, .int vk, .int (nI p0), .int vt])), (ta, .inl (g.2.1, 32768, .inl (bA t)))] [.ref y, .int (nI n)] (fun rv u => rdRes (readV (bl t n) p0) rv u n) (fun u => [(y, .inr (5, [.ref ta, .ref oa, .ref ma, .int vn, .int vo, .int vm, .ref ca, .ref na, .ref la, .int vc, .int vk, .int (nI u), .int vt])), (ta, .inl (g.2.1, 32768, .inl (bA t)))]) := by
  refine pc_Ci.of (by decide) (by exact Nat.le_of_ble_eq_true rfl) ?_
  intro p e s m below meth c A Q hx hb hml hown hE hA hQ hP hD ls hl
  have hS : va_S A s.heap s.heap [] := va_S.rf
  have hl : lv_has ls 6 [(0, .ref y), (1, .int (nI n))] := hl
  refine lv_lconst (v := lN 0) hx hb d_Mo_read_0 (by decide) ?_
  refine lv_lstore_n (lv' := [(2, .long (lN 0)), (0, .ref y), (1, .int (nI n))]) hx hb d_Mo_read_1 rfl hl (by decide) rfl (fun ls hl => ?_)
  refine lv_iconst (v := nI 0) hx hb d_Mo_read_2 (by decide) ?_
  refine lv_istore (lv' := [(4, .int (nI 0)), (2, .long (lN 0)), (0, .ref y), (1, .int (nI n))]) hx hb d_Mo_read_3 hl (by decide) rfl (fun ls hl => ?_)
  have lp_5 : ∀ (n9 : Nat) (k : Nat) (a : Nat) (w : Nat) (hk : k ≤ 5) (hwn : w ≤ n) (ha : a < 2 ^ (7 * k)) (hr2 : rdV (bl t n) (5 - k) k w a = readV (bl t n) p0) (hmu : 5 - k < n9) (H : Heap) (locs : List Loc) (hP : va_P g.1 pc_cl [(y, .inr (5, [.ref ta, .ref oa, .ref ma, .int vn, .int vo, .int vm, .ref ca, .ref na, .ref la, .int vc, .int vk, .int (nI w), .int vt])), (ta, .inl (g.2.1, 32768, .inl (bA t)))] H) (hD : va_D A [(y, .inr (5, [.ref ta, .ref oa, .ref ma, .int vn, .int vo, .int vm, .ref ca, .ref na, .ref la, .int vc, .int vk, .int (nI w), .int vt])), (ta, .inl (g.2.1, 32768, .inl (bA t)))]) (hS : va_S A s.heap H locs) (ls : Array Slot) (hl : lv_has ls 6 [(0, .ref y), (1, .int (nI n)), (2, .long (lN a)), (4, .int (nI k))]), W p l e rm_Mo_read s m ([.ref y, .int (nI n)] : List Value).toArray below meth c H locs 0 0 Q (F0 m 5 ls []) := by
    intro n9
    induction n9 with
    | zero => intros; omega
    | succ n9 ih_5 =>
      intro k a w hk hwn ha hr2 hmu H locs hP hD hS ls hl
      refine lv_iload hx hb d_Mo_read_5 (lv_at hl 3 rfl) ?_
      refine lv_iconst (v := nI 5) hx hb d_Mo_read_7 (by decide) ?_
      refine pc_jge (tgt := 100) hx hb d_Mo_read_8 (by decide) (by omega) (by omega) (fun h_1 => ?_) (fun h_1 => ?_)
      · skip
        refine lv_iconst (v := (-1)) hx hb d_Mo_read_100 (by decide) ?_
        exact hQ _ _ 101 _ (-1) w d_Mo_read_101 rfl (Or.inl ⟨by rw [← hr2, show 5 - k = 0 by omega]; rfl, rfl, by omega⟩) (hP.sub [0, 1] rfl) (hD.sub [0, 1] (by decide) rfl) hS
      · skip
        refine lv_aload_n hx hb d_Mo_read_11 rfl (lv_at hl 0 rfl) ?_
        refine va_get (ci := 5) (C := R_Mo) (T := F_Mo) (N := 13) hx hb hE.hts in_Mo hown hE.2.1 hP 0 rfl rfl 11 (by decide) (hE.w m_501) (fun _ h9 => h9) rfl d_Mo_read_12 ?_
        refine lv_iload_n hx hb d_Mo_read_15 rfl (lv_at hl 1 rfl) ?_
        refine pc_jlt (tgt := 21) hx hb d_Mo_read_16 (by decide) (by omega) (by omega) (fun h_2 => ?_) (fun h_2 => ?_)
        · skip
          refine lv_aload_n hx hb d_Mo_read_21 rfl (lv_at hl 0 rfl) ?_
          refine va_get (ci := 5) (C := R_Mo) (T := F_Mo) (N := 13) hx hb hE.hts in_Mo hown hE.2.1 hP 0 rfl rfl 0 (by decide) (hE.w m_490) (fun _ h9 => h9) rfl d_Mo_read_22 ?_
          refine lv_aload_n hx hb d_Mo_read_25 rfl (lv_at hl 0 rfl) ?_
          refine va_get (ci := 5) (C := R_Mo) (T := F_Mo) (N := 13) hx hb hE.hts in_Mo hown hE.2.1 hP 0 rfl rfl 11 (by decide) (hE.w m_501) (fun _ h9 => h9) rfl d_Mo_read_26 ?_
          refine pc_bald hx hb hE.2.1 hP 1 0 rfl rfl (by omega) (by omega) d_Mo_read_29 ?_
          refine lv_sipush (v := nI 255) hx hb d_Mo_read_30 (by decide) ?_
          refine lv_iand hx hb d_Mo_read_33 ?_
          refine pc_ti (y := nI (bN t w)) (bA_and _ _) ?_
          refine lv_istore (lv' := [(5, .int (nI (bN t w))), (0, .ref y), (1, .int (nI n)), (2, .long (lN a)), (4, .int (nI k))]) hx hb d_Mo_read_34 hl (by decide) rfl (fun ls hl => ?_)
          have hb8 := bN_lt t w
          refine lv_aload_n hx hb d_Mo_read_36 rfl (lv_at hl 1 rfl) ?_
          refine lv_dup hx hb d_Mo_read_37 rfl ?_
          refine va_get (ci := 5) (C := R_Mo) (T := F_Mo) (N := 13) hx hb hE.hts in_Mo hown hE.2.1 hP 0 rfl rfl 11 (by decide) (hE.w m_501) (fun _ h9 => h9) rfl d_Mo_read_38 ?_
          refine lv_iconst (v := nI 1) hx hb d_Mo_read_41 (by decide) ?_
          refine lv_iadd hx hb d_Mo_read_42 ?_
          refine pc_ti (y := nI (w + 1)) (nI_add _ _) ?_
          refine va_put (ci := 5) (ty := .int) (C := R_Mo) (T := F_Mo) (N := 13) hx hb hE.hts in_Mo t_Mo tk_Mo nn_Mo hown hE.2.1 hP hD hS 0 rfl rfl 11 (by decide) (hE.w m_501) (fun _ h9 => h9) rfl (by decide +kernel) (by rfl) (by rfl) (by exact Nat.le_of_ble_eq_true rfl) d_Mo_read_43 (fun H locs hP hD hS => ?_)
          have hP : va_P g.1 pc_cl [(y, .inr (5, [.ref ta, .ref oa, .ref ma, .int vn, .int vo, .int vm, .ref ca, .ref na, .ref la, .int vc, .int vk, .int (nI (w + 1)), .int vt])), (ta, .inl (g.2.1, 32768, .inl (bA t)))] H := hP
          have hD : va_D A [(y, .inr (5, [.ref ta, .ref oa, .ref ma, .int vn, .int vo, .int vm, .ref ca, .ref na, .ref la, .int vc, .int vk, .int (nI (w + 1)), .int vt])), (ta, .inl (g.2.1, 32768, .inl (bA t)))] := hD
          refine lv_lload_n hx hb d_Mo_read_46 rfl (lv_at hl 3 rfl) ?_
          refine lv_iload hx hb d_Mo_read_47 (lv_at hl 0 rfl) ?_
          refine lv_bipush (v := nI 127) hx hb d_Mo_read_49 (by decide) ?_
          refine lv_iand hx hb d_Mo_read_51 ?_
          refine pc_ti (y := nI ((bN t w) % 128)) (pk_andN (by omega) 7 (by decide)) ?_
          refine lv_i2l (v := lN ((bN t w) % 128)) hx hb d_Mo_read_52 (nI_l (by omega)) ?_
          refine lv_bipush (v := nI 7) hx hb d_Mo_read_53 (by decide) ?_
          refine lv_iload hx hb d_Mo_read_55 (lv_at hl 4 rfl) ?_
          refine lv_imul hx hb d_Mo_read_57 ?_
          refine pc_ti (y := nI (7 * k)) (pk_mul _ _) ?_
          refine lv_lshl (v := lN (((bN t w) % 128) * 2 ^ (7 * k))) hx hb d_Mo_read_58 (l_shl (by omega)) ?_
          refine lv_ladd hx hb d_Mo_read_59 ?_
          refine pc_tl (y := lN (a + (((bN t w) % 128) * 2 ^ (7 * k)))) (lN_add _ _) ?_
          refine lv_lstore_n (lv' := [(2, .long (lN (a + (((bN t w) % 128) * 2 ^ (7 * k))))), (5, .int (nI (bN t w))), (0, .ref y), (1, .int (nI n)), (4, .int (nI k))]) hx hb d_Mo_read_60 rfl hl (by decide) rfl (fun ls hl => ?_)
          refine lv_iload hx hb d_Mo_read_61 (lv_at hl 1 rfl) ?_
          refine lv_sipush (v := nI 128) hx hb d_Mo_read_63 (by decide) ?_
          refine pc_jge (tgt := 94) hx hb d_Mo_read_66 (by decide) (by omega) (by omega) (fun h_3 => ?_) (fun h_3 => ?_)
          · skip
            refine lv_iinc (v := nI (k + 1)) (lv' := [(4, .int (nI (k + 1))), (2, .long (lN (a + (((bN t w) % 128) * 2 ^ (7 * k))))), (5, .int (nI (bN t w))), (0, .ref y), (1, .int (nI n))]) hx hb d_Mo_read_94 hl (k := 4) rfl (pc_inc k 1) (by decide) rfl (fun ls hl => ?_)
            refine lv_goto (tgt := 5) hx hb d_Mo_read_97 (by decide) ?_
            exact ih_5 (k + 1) (a + (((bN t w) % 128) * 2 ^ (7 * k))) (w + 1) (by omega) (by omega) (by rw [mod128 (by omega) hb8]; exact (rdV_more (by omega) (by rw [bl_len]; omega) (bl_at (by omega)) (by omega) hb8 ha).1) (by rw [mod128 (by omega) hb8, ← (rdV_more (by omega) (by rw [bl_len]; omega) (bl_at (by omega)) (by omega) hb8 ha).2]; exact hr2) (by omega) _ _ (hP.sub [0, 1] rfl) (hD.sub [0, 1] (by decide) rfl) hS _ (lv_sub hl [3, 4, 1, 0] rfl)
          · skip
            have hmod : bN t w % 128 = bN t w := Nat.mod_eq_of_lt (by omega)
            have hl : lv_has ls 6 [(2, .long (lN (a + bN t w * 2 ^ (7 * k)))), (5, .int (nI (bN t w))), (0, .ref y), (1, .int (nI n)), (4, .int (nI k))] := by rw [← show lN (a + (((bN t w) % 128) * 2 ^ (7 * k))) = lN (a + bN t w * 2 ^ (7 * k)) from by rw [hmod]]; exact hl
            have hbig := rd_big (k := k) (by omega) ha h_3
            refine lv_iload hx hb d_Mo_read_69 (lv_at hl 1 rfl) ?_
            refine pc_zne (tgt := 79) hx hb d_Mo_read_71 (by decide) (by omega) (fun h_4 => ?_) (fun h_4 => ?_)
            · skip
              refine lv_lload_n hx hb d_Mo_read_79 rfl (lv_at hl 0 rfl) ?_
              refine lv_ldc2 hx hb hown (hE.w m_599) d_Mo_read_80 ?_
              refine pc_tl (y := lN 2147483647) (by decide) ?_
              refine W.lcmp hx hb d_Mo_read_83 ?_
              refine lv_if_le (tgt := 91) hx hb d_Mo_read_84 (by decide) (fun h_5 => ?_) (fun h_5 => ?_)
              · skip
                have hle := (l_cmp hbig (by decide)).1 h_5
                refine lv_lload_n hx hb d_Mo_read_91 rfl (lv_at hl 0 rfl) ?_
                refine lv_l2i (v := nI (a + bN t w * 2 ^ (7 * k))) hx hb d_Mo_read_92 (lN_i _) ?_
                exact hQ _ _ 93 _ (nI (a + bN t w * 2 ^ (7 * k))) (w + 1) d_Mo_read_93 rfl (Or.inr ⟨_, by rw [← hr2]; exact rd_some (by omega) (by rw [bl_len]; omega) (bl_at (by omega)) (by omega) (by omega) hle, rfl, by omega, by omega⟩) (hP.sub [0, 1] rfl) (hD.sub [0, 1] (by decide) rfl) hS
              · skip
                have hgt := (l_cmp hbig (by decide)).2 h_5
                refine lv_iconst (v := (-1)) hx hb d_Mo_read_87 (by decide) ?_
                refine lv_goto (tgt := 93) hx hb d_Mo_read_88 (by decide) ?_
                exact hQ _ _ 93 _ (-1) (w + 1) d_Mo_read_93 rfl (Or.inl ⟨by rw [← hr2]; exact rd_none (by omega) (by rw [bl_len]; omega) (bl_at (by omega)) (by omega) (by first | exact Or.inl ⟨by omega, by omega⟩ | exact Or.inr (by omega)), rfl, by omega⟩) (hP.sub [0, 1] rfl) (hD.sub [0, 1] (by decide) rfl) hS
            · skip
              refine lv_iload hx hb d_Mo_read_74 (lv_at hl 4 rfl) ?_
              refine pc_zgt (tgt := 87) hx hb d_Mo_read_76 (by decide) (by omega) (fun h_6 => ?_) (fun h_6 => ?_)
              · skip
                refine lv_iconst (v := (-1)) hx hb d_Mo_read_87 (by decide) ?_
                refine lv_goto (tgt := 93) hx hb d_Mo_read_88 (by decide) ?_
                exact hQ _ _ 93 _ (-1) (w + 1) d_Mo_read_93 rfl (Or.inl ⟨by rw [← hr2]; exact rd_none (by omega) (by rw [bl_len]; omega) (bl_at (by omega)) (by omega) (by first | exact Or.inl ⟨by omega, by omega⟩ | exact Or.inr (by omega)), rfl, by omega⟩) (hP.sub [0, 1] rfl) (hD.sub [0, 1] (by decide) rfl) hS
              · skip
                refine lv_lload_n hx hb d_Mo_read_79 rfl (lv_at hl 0 rfl) ?_
                refine lv_ldc2 hx hb hown (hE.w m_599) d_Mo_read_80 ?_
                refine pc_tl (y := lN 2147483647) (by decide) ?_
                refine W.lcmp hx hb d_Mo_read_83 ?_
                refine lv_if_le (tgt := 91) hx hb d_Mo_read_84 (by decide) (fun h_7 => ?_) (fun h_7 => ?_)
                · skip
                  have hle := (l_cmp hbig (by decide)).1 h_7
                  refine lv_lload_n hx hb d_Mo_read_91 rfl (lv_at hl 0 rfl) ?_
                  refine lv_l2i (v := nI (a + bN t w * 2 ^ (7 * k))) hx hb d_Mo_read_92 (lN_i _) ?_
                  exact hQ _ _ 93 _ (nI (a + bN t w * 2 ^ (7 * k))) (w + 1) d_Mo_read_93 rfl (Or.inr ⟨_, by rw [← hr2]; exact rd_some (by omega) (by rw [bl_len]; omega) (bl_at (by omega)) (by omega) (by omega) hle, rfl, by omega, by omega⟩) (hP.sub [0, 1] rfl) (hD.sub [0, 1] (by decide) rfl) hS
                · skip
                  have hgt := (l_cmp hbig (by decide)).2 h_7
                  refine lv_iconst (v := (-1)) hx hb d_Mo_read_87 (by decide) ?_
                  refine lv_goto (tgt := 93) hx hb d_Mo_read_88 (by decide) ?_
                  exact hQ _ _ 93 _ (-1) (w + 1) d_Mo_read_93 rfl (Or.inl ⟨by rw [← hr2]; exact rd_none (by omega) (by rw [bl_len]; omega) (bl_at (by omega)) (by omega) (by first | exact Or.inl ⟨by omega, by omega⟩ | exact Or.inr (by omega)), rfl, by omega⟩) (hP.sub [0, 1] rfl) (hD.sub [0, 1] (by decide) rfl) hS
        · skip
          refine lv_iconst (v := (-1)) hx hb d_Mo_read_19 (by decide) ?_
          exact hQ _ _ 20 _ (-1) w d_Mo_read_20 rfl (Or.inl ⟨by rw [← hr2]; exact rdV_short (by rw [bl_len]; omega), rfl, by omega⟩) (hP.sub [0, 1] rfl) (hD.sub [0, 1] (by decide) rfl) hS
  exact lp_5 (5 - 0 + 1) 0 0 p0 (by omega) (by omega) (by decide) rfl (Nat.lt_succ_self _) _ _ (hP.sub [0, 1] rfl) (hD.sub [0, 1] (by decide) rfl) hS _ (lv_sub hl [2, 3, 1, 0] rfl)
abbrev rm_Mo_numbers0 : Room := { frames := 6, cells := 1, slots := 6, locals := 81 }
set_option maxHeartbeats 1000000 in
set_option maxRecDepth 100000 in
/-- numbers -/
theorem c_Mo_numbers0 (l : Launch) (htr : l.stackTraces = false) (g : pc_G) (y : Nat) (ta : Nat) (oa : Nat) (ma : Nat) (ca : Nat) (na : Nat) (la : Nat) (vo : Int32) (vm : Int32) (vc : Int32) (vk : Int32) (va : Int32) (vt : Int32) (n : Nat) (t : Nat → UInt8) (lf : Nat → Int32) (nf : Nat → Int32) (hn : n ≤ 32768) : pc_X (S := Nat × Int32 × (Nat → Int32) × (Nat → Int32) × Nat) l y_Mo_numbers0 (.code y_Mo_numbers0 prog_11_method_23_code 4 (some .int)) (some .int) rm_Mo_numbers0 g [(y, .inr (5, [.ref ta, .ref oa, .ref ma, .int (nI n), .int vo, .int vm, .ref ca, .ref na, .ref la, .int vc, .int vk, .int va, .int vt])), (ta, .inl (g.2.1, 32768, .inl (bA t))), (la, .inl (g.2.2.1, 32768, .inl lf)), (na, .inl (g.2.2.1, 32768, .inl nf))] [.ref y] (fun rv u => (rv = .inl (nI u.2.2.2.2) ∧ (∃ ns : List Nat, numsA (bl t n) (n + 1) 0 [] = some ns ∧ u.2.2.2.2 = ns.length ∧ u.2.2.2.2 ≤ 32768 ∧ ∀ j, j < u.2.2.2.2 → u.2.2.2.1 j = nI (ns.getD j 0)) ∧ u.2.1 = nI u.2.2.2.2) ∨ (rv = .inr "java/lang/IllegalArgumentException" ∧ numsA (bl t n) (n + 1) 0 [] = none ∧ u.2.1 = vk ∧ u.2.2.2.1 = nf)) (fun u => [(y, .inr (5, [.ref ta, .ref oa, .ref ma, .int (nI 0), .int vo, .int vm, .ref ca, .ref na, .ref la, .int vc, .int u.2.1, .int (nI u.1), .int vt])), (ta, .inl (g.2.1, 32768, .inl (bA t))), (la, .inl (g.2.2.1, 32768, .inl u.2.2.1)), (na, .inl (g.2.2.1, 32768, .inl u.2.2.2.1))]) := by
  refine pc_X.of (cc := prog_11_method_23_code) (nL := 4) (rt := (some .int)) (hh := []) (by decide) tx_wd.plain (by exact Nat.le_of_ble_eq_true rfl) htr ?_
  intro p e s m below meth c A Q hx hb hml hown hE hA htab hR hT hO hP hD ls hl
  have hS : va_S A s.heap s.heap [] := va_S.rf
  have hl : lv_has ls 4 [(0, .ref y)] := hl
  refine lv_aload_n hx hb d_Mo_numbers0_0 rfl (lv_at hl 0 rfl) ?_
  refine va_get (ci := 5) (C := R_Mo) (T := F_Mo) (N := 13) hx hb hE.hts in_Mo hown hE.2.1 hP 0 rfl rfl 3 (by decide) (hE.w m_493) (fun _ h9 => h9) rfl d_Mo_numbers0_1 ?_
  refine lv_istore_n (lv' := [(1, .int (nI n)), (0, .ref y)]) hx hb d_Mo_numbers0_4 rfl hl (by decide) rfl (fun ls hl => ?_)
  refine lv_iconst (v := nI 0) hx hb d_Mo_numbers0_5 (by decide) ?_
  refine lv_istore_n (lv' := [(2, .int (nI 0)), (1, .int (nI n)), (0, .ref y)]) hx hb d_Mo_numbers0_6 rfl hl (by decide) rfl (fun ls hl => ?_)
  refine lv_aload_n hx hb d_Mo_numbers0_7 rfl (lv_at hl 2 rfl) ?_
  refine lv_iconst (v := nI 0) hx hb d_Mo_numbers0_8 (by decide) ?_
  refine va_put (ci := 5) (ty := .int) (C := R_Mo) (T := F_Mo) (N := 13) hx hb hE.hts in_Mo t_Mo tk_Mo nn_Mo hown hE.2.1 hP hD hS 0 rfl rfl 3 (by decide) (hE.w m_493) (fun _ h9 => h9) rfl (by decide +kernel) (by rfl) (by rfl) (by exact Nat.le_of_ble_eq_true rfl) d_Mo_numbers0_9 (fun H locs hP hD hS => ?_)
  have hP : va_P g.1 pc_cl [(y, .inr (5, [.ref ta, .ref oa, .ref ma, .int (nI 0), .int vo, .int vm, .ref ca, .ref na, .ref la, .int vc, .int vk, .int va, .int vt])), (ta, .inl (g.2.1, 32768, .inl (bA t))), (la, .inl (g.2.2.1, 32768, .inl lf)), (na, .inl (g.2.2.1, 32768, .inl nf))] H := hP
  have hD : va_D A [(y, .inr (5, [.ref ta, .ref oa, .ref ma, .int (nI 0), .int vo, .int vm, .ref ca, .ref na, .ref la, .int vc, .int vk, .int va, .int vt])), (ta, .inl (g.2.1, 32768, .inl (bA t))), (la, .inl (g.2.2.1, 32768, .inl lf)), (na, .inl (g.2.2.1, 32768, .inl nf))] := hD
  refine lv_aload_n hx hb d_Mo_numbers0_12 rfl (lv_at hl 2 rfl) ?_
  refine lv_iconst (v := nI 0) hx hb d_Mo_numbers0_13 (by decide) ?_
  refine va_put (ci := 5) (ty := .int) (C := R_Mo) (T := F_Mo) (N := 13) hx hb hE.hts in_Mo t_Mo tk_Mo nn_Mo hown hE.2.1 hP hD hS 0 rfl rfl 11 (by decide) (hE.w m_501) (fun _ h9 => h9) rfl (by decide +kernel) (by rfl) (by rfl) (by exact Nat.le_of_ble_eq_true rfl) d_Mo_numbers0_14 (fun H locs hP hD hS => ?_)
  have hP : va_P g.1 pc_cl [(y, .inr (5, [.ref ta, .ref oa, .ref ma, .int (nI 0), .int vo, .int vm, .ref ca, .ref na, .ref la, .int vc, .int vk, .int (nI 0), .int vt])), (ta, .inl (g.2.1, 32768, .inl (bA t))), (la, .inl (g.2.2.1, 32768, .inl lf)), (na, .inl (g.2.2.1, 32768, .inl nf))] H := hP
  have hD : va_D A [(y, .inr (5, [.ref ta, .ref oa, .ref ma, .int (nI 0), .int vo, .int vm, .ref ca, .ref na, .ref la, .int vc, .int vk, .int (nI 0), .int vt])), (ta, .inl (g.2.1, 32768, .inl (bA t))), (la, .inl (g.2.2.1, 32768, .inl lf)), (na, .inl (g.2.2.1, 32768, .inl nf))] := hD
  have lp_17 : ∀ (n9 : Nat) (k : Nat) (w : Nat) (f : Nat → Int32) (fu : Nat) (ns : List Nat) (hwn : w ≤ n) (hkw : k ≤ w) (hfu : n - w < fu) (hns : k = ns.length) (hf : numsA (bl t n) fu w ns = numsA (bl t n) (n + 1) 0 []) (hold : ∀ j, j < k → f j = nI (ns.getD j 0)) (hmu : n - w < n9) (H : Heap) (locs : List Loc) (hP : va_P g.1 pc_cl [(y, .inr (5, [.ref ta, .ref oa, .ref ma, .int (nI 0), .int vo, .int vm, .ref ca, .ref na, .ref la, .int vc, .int vk, .int (nI w), .int vt])), (ta, .inl (g.2.1, 32768, .inl (bA t))), (la, .inl (g.2.2.1, 32768, .inl f)), (na, .inl (g.2.2.1, 32768, .inl nf))] H) (hD : va_D A [(y, .inr (5, [.ref ta, .ref oa, .ref ma, .int (nI 0), .int vo, .int vm, .ref ca, .ref na, .ref la, .int vc, .int vk, .int (nI w), .int vt])), (ta, .inl (g.2.1, 32768, .inl (bA t))), (la, .inl (g.2.2.1, 32768, .inl f)), (na, .inl (g.2.2.1, 32768, .inl nf))]) (hS : va_S A s.heap H locs) (ls : Array Slot) (hl : lv_has ls 4 [(0, .ref y), (1, .int (nI n)), (2, .int (nI k))]), W p l e rm_Mo_numbers0 s m ([.ref y] : List Value).toArray below meth c H locs 0 0 Q (F0 m 17 ls []) := by
    intro n9
    induction n9 with
    | zero => intros; omega
    | succ n9 ih_17 =>
      intro k w f fu ns hwn hkw hfu hns hf hold hmu H locs hP hD hS ls hl
      refine lv_aload_n hx hb d_Mo_numbers0_17 rfl (lv_at hl 0 rfl) ?_
      refine va_get (ci := 5) (C := R_Mo) (T := F_Mo) (N := 13) hx hb hE.hts in_Mo hown hE.2.1 hP 0 rfl rfl 11 (by decide) (hE.w m_501) (fun _ h9 => h9) rfl d_Mo_numbers0_18 ?_
      refine lv_iload_n hx hb d_Mo_numbers0_21 rfl (lv_at hl 1 rfl) ?_
      refine pc_jge (tgt := 56) hx hb d_Mo_numbers0_22 (by decide) (by omega) (by omega) (fun h_1 => ?_) (fun h_1 => ?_)
      · skip
        refine lv_aload_n hx hb d_Mo_numbers0_56 rfl (lv_at hl 0 rfl) ?_
        refine va_get (ci := 5) (C := R_Mo) (T := F_Mo) (N := 13) hx hb hE.hts in_Mo hown hE.2.1 hP 0 rfl rfl 8 (by decide) (hE.w m_498) (fun _ h9 => h9) rfl d_Mo_numbers0_57 ?_
        refine lv_iconst (v := nI 0) hx hb d_Mo_numbers0_60 (by decide) ?_
        refine lv_aload_n hx hb d_Mo_numbers0_61 rfl (lv_at hl 0 rfl) ?_
        refine va_get (ci := 5) (C := R_Mo) (T := F_Mo) (N := 13) hx hb hE.hts in_Mo hown hE.2.1 hP 0 rfl rfl 7 (by decide) (hE.w m_497) (fun _ h9 => h9) rfl d_Mo_numbers0_62 ?_
        refine lv_iconst (v := nI 0) hx hb d_Mo_numbers0_65 (by decide) ?_
        refine lv_iload_n hx hb d_Mo_numbers0_66 rfl (lv_at hl 2 rfl) ?_
        refine pc_copyn hx hb (hml.trans hl.1.symm) hown (hE.w m_582) (hE.w m_266) (hE.w m_265) (hE.w m_14) hE.2.1 hP hD hS 2 3 rfl rfl (by omega) (by omega) (by omega) (by omega) (by exact Nat.le_of_ble_eq_true rfl) (by exact Nat.le_of_ble_eq_true rfl) d_Mo_numbers0_67 (fun H locs hP hD hS => ?_)
        have hP : va_P g.1 pc_cl [(y, .inr (5, [.ref ta, .ref oa, .ref ma, .int (nI 0), .int vo, .int vm, .ref ca, .ref na, .ref la, .int vc, .int vk, .int (nI w), .int vt])), (ta, .inl (g.2.1, 32768, .inl (bA t))), (la, .inl (g.2.2.1, 32768, .inl f)), (na, .inl (g.2.2.1, 32768, .inl (va_cpy f nf 0 0 k)))] H := hP
        have hD : va_D A [(y, .inr (5, [.ref ta, .ref oa, .ref ma, .int (nI 0), .int vo, .int vm, .ref ca, .ref na, .ref la, .int vc, .int vk, .int (nI w), .int vt])), (ta, .inl (g.2.1, 32768, .inl (bA t))), (la, .inl (g.2.2.1, 32768, .inl f)), (na, .inl (g.2.2.1, 32768, .inl (va_cpy f nf 0 0 k)))] := hD
        refine lv_aload_n hx hb d_Mo_numbers0_70 rfl (lv_at hl 0 rfl) ?_
        refine lv_iload_n hx hb d_Mo_numbers0_71 rfl (lv_at hl 2 rfl) ?_
        refine va_put (ci := 5) (ty := .int) (C := R_Mo) (T := F_Mo) (N := 13) hx hb hE.hts in_Mo t_Mo tk_Mo nn_Mo hown hE.2.1 hP hD hS 0 rfl rfl 10 (by decide) (hE.w m_500) (fun _ h9 => h9) rfl (by decide +kernel) (by rfl) (by rfl) (by exact Nat.le_of_ble_eq_true rfl) d_Mo_numbers0_72 (fun H locs hP hD hS => ?_)
        have hP : va_P g.1 pc_cl [(y, .inr (5, [.ref ta, .ref oa, .ref ma, .int (nI 0), .int vo, .int vm, .ref ca, .ref na, .ref la, .int vc, .int (nI k), .int (nI w), .int vt])), (ta, .inl (g.2.1, 32768, .inl (bA t))), (la, .inl (g.2.2.1, 32768, .inl f)), (na, .inl (g.2.2.1, 32768, .inl (va_cpy f nf 0 0 k)))] H := hP
        have hD : va_D A [(y, .inr (5, [.ref ta, .ref oa, .ref ma, .int (nI 0), .int vo, .int vm, .ref ca, .ref na, .ref la, .int vc, .int (nI k), .int (nI w), .int vt])), (ta, .inl (g.2.1, 32768, .inl (bA t))), (la, .inl (g.2.2.1, 32768, .inl f)), (na, .inl (g.2.2.1, 32768, .inl (va_cpy f nf 0 0 k)))] := hD
        refine lv_iload_n hx hb d_Mo_numbers0_75 rfl (lv_at hl 2 rfl) ?_
        refine W.widen (k := rm_Mo_numbers0.cells) (n := rm_Mo_numbers0.slots) (by exact Nat.le_of_ble_eq_true rfl) (by exact Nat.le_of_ble_eq_true rfl) ?_
        exact hR _ _ 76 _ (nI k) (w, nI k, f, va_cpy f nf 0 0 k, k) d_Mo_numbers0_76 rfl (Or.inl (⟨rfl, ⟨ns, by rw [← hf]; exact numsA_end (by omega) (by rw [bl_len]; omega), hns, show k ≤ 32768 by omega, cp_0 hold⟩, rfl⟩)) (hP.sub [0, 1, 2, 3] rfl) (hD.sub [0, 1, 2, 3] (by decide) rfl) hS
      · skip
        refine lv_aload_n hx hb d_Mo_numbers0_25 rfl (lv_at hl 0 rfl) ?_
        refine lv_iload_n hx hb d_Mo_numbers0_26 rfl (lv_at hl 1 rfl) ?_
        refine pc_i (wc := [(y, .inr (5, [.ref ta, .ref oa, .ref ma, .int (nI 0), .int vo, .int vm, .ref ca, .ref na, .ref la, .int vc, .int vk, .int (nI w), .int vt])), (ta, .inl (g.2.1, 32768, .inl (bA t)))]) (wr := [(la, .inl (g.2.2.1, 32768, .inl f)), (na, .inl (g.2.2.1, 32768, .inl nf))]) (cells' := 0) (slots' := 0) hP hD hS hA [0, 1] [2, 3] rfl rfl (by decide) (by decide) rfl rfl (va_runV (n := 1) (As := [.int (nI n)]) (rest := []) (C := R_Mo) ⟨hx, hb, hml, hown, hE.hts⟩ (c_Mo_read l g y ta oa ma ca na la (nI 0) vo vm vc vk vt n t w (by omega) (by omega) _) ⟨pc_cb hE m_598 m_5 m_595 (by decide +kernel) ⟨by exact Nat.le_of_ble_eq_true rfl, by exact Nat.le_of_ble_eq_true rfl⟩, hE.w m_597, hE.w ms_31⟩ (pc_preV (ci := 5) (q0 := 0) hP hD hE hS hA [0, 1] (by decide) rfl [.int (nI n)] rfl rfl) rfl rfl hl.1 rfl (lv_room (by exact Nat.le_of_ble_eq_true rfl)) d_Mo_numbers0_27 ⟨by exact Nat.le_of_ble_eq_true rfl, by exact Nat.le_of_ble_eq_true rfl⟩) (fun r_3 u_2 H locs hw hP hD hS => ?_)
        obtain ⟨p2_4, rfl⟩ : ∃ z, z = u_2 := ⟨_, rfl⟩
        have hw_5 := hw
        have hw_5 : rdRes (readV (bl t n) w) r_3 p2_4 n := hw_5
        have hP : va_P g.1 pc_cl [(la, .inl (g.2.2.1, 32768, .inl f)), (na, .inl (g.2.2.1, 32768, .inl nf)), (y, .inr (5, [.ref ta, .ref oa, .ref ma, .int (nI 0), .int vo, .int vm, .ref ca, .ref na, .ref la, .int vc, .int vk, .int (nI p2_4), .int vt])), (ta, .inl (g.2.1, 32768, .inl (bA t)))] H := hP
        have hD : va_D A [(la, .inl (g.2.2.1, 32768, .inl f)), (na, .inl (g.2.2.1, 32768, .inl nf)), (y, .inr (5, [.ref ta, .ref oa, .ref ma, .int (nI 0), .int vo, .int vm, .ref ca, .ref na, .ref la, .int vc, .int vk, .int (nI p2_4), .int vt])), (ta, .inl (g.2.1, 32768, .inl (bA t)))] := hD
        rcases hw_5 with ⟨hno, rfl, hp2⟩ | ⟨v, hyes, rfl, hv31, hp2⟩
        · skip
          refine lv_istore_n (lv' := [(3, .int (-1)), (0, .ref y), (1, .int (nI n)), (2, .int (nI k))]) hx hb d_Mo_numbers0_30 rfl hl (by decide) rfl (fun ls hl => ?_)
          refine lv_iload_n hx hb d_Mo_numbers0_31 rfl (lv_at hl 0 rfl) ?_
          refine lv_if_ge (tgt := 43) hx hb d_Mo_numbers0_32 (by decide) (fun h_d => absurd h_d (by decide)) (fun h_d => ?_)
          exact hT "java/lang/IllegalArgumentException" 37 39 _ _ 0 0 35 _ (p2_4, vk, f, nf, 0) (by decide) m_548 m_10 ta_3 (hl.1.trans hml.symm) d_Mo_numbers0_35 d_Mo_numbers0_38 d_Mo_numbers0_39 d_Mo_numbers0_42 (by decide) ⟨by exact Nat.le_of_ble_eq_true rfl, by exact Nat.le_of_ble_eq_true rfl, by exact Nat.le_of_ble_eq_true rfl, by exact Nat.le_of_ble_eq_true rfl⟩ (Or.inr (⟨rfl, by rw [← hf]; exact numsA_bad (by rw [bl_len]; omega) hno, rfl, rfl⟩)) (hP.sub [2, 3, 0, 1] rfl) (hD.sub [2, 3, 0, 1] (by decide) rfl) hS
        · skip
          have hin := readV_in hyes
          refine lv_istore_n (lv' := [(3, .int (nI v)), (0, .ref y), (1, .int (nI n)), (2, .int (nI k))]) hx hb d_Mo_numbers0_30 rfl hl (by decide) rfl (fun ls hl => ?_)
          refine lv_iload_n hx hb d_Mo_numbers0_31 rfl (lv_at hl 0 rfl) ?_
          refine pc_zge (tgt := 43) hx hb d_Mo_numbers0_32 (by decide) (by omega) (fun h_d => ?_) (fun h_d => absurd h_d (not_false))
          obtain ⟨fu9, rfl⟩ : ∃ z, fu = z + 1 := ⟨fu - 1, by omega⟩
          refine lv_aload_n hx hb d_Mo_numbers0_43 rfl (lv_at hl 1 rfl) ?_
          refine va_get (ci := 5) (C := R_Mo) (T := F_Mo) (N := 13) hx hb hE.hts in_Mo hown hE.2.1 hP 2 rfl rfl 8 (by decide) (hE.w m_498) (fun _ h9 => h9) rfl d_Mo_numbers0_44 ?_
          refine lv_iload_n hx hb d_Mo_numbers0_47 rfl (lv_at hl 3 rfl) ?_
          refine lv_iload_n hx hb d_Mo_numbers0_48 rfl (lv_at hl 0 rfl) ?_
          refine pc_iast hx hb hE.2.1 hP hD hS 0 1 rfl rfl (by omega) (by omega) d_Mo_numbers0_49 (fun H locs hP hD hS => ?_)
          have hP : va_P g.1 pc_cl [(la, .inl (g.2.2.1, 32768, .inl (upd f k (nI v)))), (na, .inl (g.2.2.1, 32768, .inl nf)), (y, .inr (5, [.ref ta, .ref oa, .ref ma, .int (nI 0), .int vo, .int vm, .ref ca, .ref na, .ref la, .int vc, .int vk, .int (nI p2_4), .int vt])), (ta, .inl (g.2.1, 32768, .inl (bA t)))] H := hP
          have hD : va_D A [(la, .inl (g.2.2.1, 32768, .inl (upd f k (nI v)))), (na, .inl (g.2.2.1, 32768, .inl nf)), (y, .inr (5, [.ref ta, .ref oa, .ref ma, .int (nI 0), .int vo, .int vm, .ref ca, .ref na, .ref la, .int vc, .int vk, .int (nI p2_4), .int vt])), (ta, .inl (g.2.1, 32768, .inl (bA t)))] := hD
          refine lv_iinc (v := nI (k + 1)) (lv' := [(2, .int (nI (k + 1))), (3, .int (nI v)), (0, .ref y), (1, .int (nI n))]) hx hb d_Mo_numbers0_50 hl (k := 3) rfl (pc_inc k 1) (by decide) rfl (fun ls hl => ?_)
          refine lv_goto (tgt := 17) hx hb d_Mo_numbers0_53 (by decide) ?_
          exact ih_17 (k + 1) p2_4 (upd f k (nI v)) fu9 (ns ++ [v]) (by omega) (by omega) (by omega) (by simp [hns]) (by rw [← numsA_more (by rw [bl_len]; omega) hyes]; exact hf) (upd_put hns hold) (by omega) _ _ (hP.sub [2, 3, 0, 1] rfl) (hD.sub [2, 3, 0, 1] (by decide) rfl) hS _ (lv_sub hl [2, 3, 0] rfl)
  exact lp_17 (n - 0 + 1) 0 0 lf (n + 1) ([]) (by omega) (by omega) (by omega) rfl rfl (fun j hj => absurd hj (Nat.not_lt_zero j)) (Nat.lt_succ_self _) _ _ (hP.sub [0, 1, 2, 3] rfl) (hD.sub [0, 1, 2, 3] (by decide) rfl) hS _ (lv_sub hl [2, 1, 0] rfl)
abbrev rm_Mo_character : Room := { frames := 1, cells := 0, slots := 0, locals := 20 }
set_option maxHeartbeats 1000000 in
set_option maxRecDepth 100000 in
/-- a character, or -1 -/
theorem c_Mo_character (l : Launch) (g : pc_G) (y : Nat) (ta : Nat) (oa : Nat) (ma : Nat) (ca : Nat) (na : Nat) (la : Nat) (vn : Int32) (vo : Int32) (vm : Int32) (vc : Int32) (vk : Int32) (va : Int32) (vt : Int32) (n : Nat) (t : Nat → UInt8) (p0 : Nat) (hn : n ≤ 32768) (hp0 : p0 < n) : pc_Ci (S := Unit) l y_Mo_character prog_11_method_15_code 8 .int rm_Mo_character g [(y, .inr (5, [.ref ta, .ref oa, .ref ma, .int vn, .int vo, .int vm, .ref ca, .ref na, .ref la, .int vc, .int vk, .int va, .int vt])), (ta, .inl (g.2.1, 32768, .inl (bA t)))] [.ref y, .int (nI p0), .int (nI n)] (fun rv _ => ((chV (bl t n) p0 = none ∧ rv = -1) ∨ ∃ v, chV (bl t n) p0 = some (v, p0 + chW v) ∧ rv = nI v ∧ v ≤ 1114111)) (fun _ => [(y, .inr (5, [.ref ta, .ref oa, .ref ma, .int vn, .int vo, .int vm, .ref ca, .ref na, .ref la, .int vc, .int vk, .int va, .int vt])), (ta, .inl (g.2.1, 32768, .inl (bA t)))]) := by
  refine pc_Ci.of (by decide) (by exact Nat.le_of_ble_eq_true rfl) ?_
  intro p e s m below meth c A Q hx hb hml hown hE hA hQ hP hD ls hl
  have hS : va_S A s.heap s.heap [] := va_S.rf
  have hl : lv_has ls 8 [(0, .ref y), (1, .int (nI p0)), (2, .int (nI n))] := hl
  refine lv_aload_n hx hb d_Mo_character_0 rfl (lv_at hl 0 rfl) ?_
  refine va_get (ci := 5) (C := R_Mo) (T := F_Mo) (N := 13) hx hb hE.hts in_Mo hown hE.2.1 hP 0 rfl rfl 0 (by decide) (hE.w m_490) (fun _ h9 => h9) rfl d_Mo_character_1 ?_
  refine lv_iload_n hx hb d_Mo_character_4 rfl (lv_at hl 1 rfl) ?_
  refine pc_bald hx hb hE.2.1 hP 1 0 rfl rfl (by omega) (by omega) d_Mo_character_5 ?_
  refine lv_sipush (v := nI 255) hx hb d_Mo_character_6 (by decide) ?_
  refine lv_iand hx hb d_Mo_character_9 ?_
  refine pc_ti (y := nI (bN t p0)) (bA_and _ _) ?_
  refine lv_istore_n (lv' := [(3, .int (nI (bN t p0))), (0, .ref y), (1, .int (nI p0)), (2, .int (nI n))]) hx hb d_Mo_character_10 rfl hl (by decide) rfl (fun ls hl => ?_)
  have hb8 := bN_lt t p0
  have hs4 := chS_in (bN t p0)
  have lp_67 : ∀ (n9 : Nat)   (hmu : 0 < n9) (H : Heap) (locs : List Loc) (hP : va_P g.1 pc_cl [(y, .inr (5, [.ref ta, .ref oa, .ref ma, .int vn, .int vo, .int vm, .ref ca, .ref na, .ref la, .int vc, .int vk, .int va, .int vt])), (ta, .inl (g.2.1, 32768, .inl (bA t)))] H) (hD : va_D A [(y, .inr (5, [.ref ta, .ref oa, .ref ma, .int vn, .int vo, .int vm, .ref ca, .ref na, .ref la, .int vc, .int vk, .int va, .int vt])), (ta, .inl (g.2.1, 32768, .inl (bA t)))]) (hS : va_S A s.heap H locs) (ls : Array Slot) (hl : lv_has ls 8 [(0, .ref y), (1, .int (nI p0)), (2, .int (nI n)), (3, .int (nI (bN t p0)))]), W p l e rm_Mo_character s m ([.ref y, .int (nI p0), .int (nI n)] : List Value).toArray below meth c H locs 0 0 Q (F0 m 67 ls [.int (nI (chS (bN t p0)))]) := by
    intro n9
    induction n9 with
    | zero => intros; omega
    | succ n9 ih_67 =>
      intro   hmu H locs hP hD hS ls hl
      refine lv_istore (lv' := [(4, .int (nI (chS (bN t p0)))), (0, .ref y), (1, .int (nI p0)), (2, .int (nI n)), (3, .int (nI (bN t p0)))]) hx hb d_Mo_character_67 hl (by decide) rfl (fun ls hl => ?_)
      refine lv_iload hx hb d_Mo_character_69 (lv_at hl 0 rfl) ?_
      refine pc_zeq (tgt := 82) hx hb d_Mo_character_71 (by decide) (by omega) (fun h_1 => ?_) (fun h_1 => ?_)
      · skip
        refine lv_iconst (v := (-1)) hx hb d_Mo_character_82 (by decide) ?_
        exact hQ _ _ 83 _ (-1) () d_Mo_character_83 rfl (Or.inl ⟨by first | (exact chV_nof (bl_at (by omega)) (by assumption)) | (exact chV_cut (by rw [bl_len]; omega) (bl_at (by omega)) hs0 (by rw [bl_len]; omega)) | (exact chV_bad (by rw [bl_len]; omega) (bl_at (by omega)) hs0 hend (fun z => absurd ((chI_nI (by omega)).mpr z.1) (by assumption))) | (exact chV_bad (by rw [bl_len]; omega) (bl_at (by omega)) hs0 hend (fun z => absurd z.2 (by assumption))) | (exact chV_fail (by rw [bl_len]; omega) (bl_at (by omega)) hs0 (by rw [← hr2]; exact chR_bad (by omega) (bl_at (by omega)) (by omega))), rfl⟩) (hP.sub [0, 1] rfl) (hD.sub [0, 1] (by decide) rfl) hS
      · skip
        have hs0 := h_1
        refine lv_iload_n hx hb d_Mo_character_74 rfl (lv_at hl 2 rfl) ?_
        refine lv_iload hx hb d_Mo_character_75 (lv_at hl 0 rfl) ?_
        refine lv_iadd hx hb d_Mo_character_77 ?_
        refine pc_ti (y := nI (p0 + (chS (bN t p0)))) (nI_add _ _) ?_
        refine lv_iload_n hx hb d_Mo_character_78 rfl (lv_at hl 3 rfl) ?_
        refine pc_jle (tgt := 84) hx hb d_Mo_character_79 (by decide) (by omega) (by omega) (fun h_2 => ?_) (fun h_2 => ?_)
        · skip
          have hlo3 := chS_lo (bN t p0)
          have hcm := chM_le hs0
          have hct := chM_top hb8 hs0
          have lp_127 : ∀ (n9 : Nat)   (hmu : 0 < n9) (H : Heap) (locs : List Loc) (hP : va_P g.1 pc_cl [(y, .inr (5, [.ref ta, .ref oa, .ref ma, .int vn, .int vo, .int vm, .ref ca, .ref na, .ref la, .int vc, .int vk, .int va, .int vt])), (ta, .inl (g.2.1, 32768, .inl (bA t)))] H) (hD : va_D A [(y, .inr (5, [.ref ta, .ref oa, .ref ma, .int vn, .int vo, .int vm, .ref ca, .ref na, .ref la, .int vc, .int vk, .int va, .int vt])), (ta, .inl (g.2.1, 32768, .inl (bA t)))]) (hS : va_S A s.heap H locs) (ls : Array Slot) (hl : lv_has ls 8 [(0, .ref y), (1, .int (nI p0)), (2, .int (nI n)), (4, .int (nI (chS (bN t p0))))]), W p l e rm_Mo_character s m ([.ref y, .int (nI p0), .int (nI n)] : List Value).toArray below meth c H locs 0 0 Q (F0 m 127 ls [.int (nI (bN t p0 - chM (chS (bN t p0))))]) := by
            intro n9
            induction n9 with
            | zero => intros; omega
            | succ n9 ih_127 =>
              intro   hmu H locs hP hD hS ls hl
              refine lv_istore (lv' := [(5, .int (nI (bN t p0 - chM (chS (bN t p0))))), (0, .ref y), (1, .int (nI p0)), (2, .int (nI n)), (4, .int (nI (chS (bN t p0))))]) hx hb d_Mo_character_127 hl (by decide) rfl (fun ls hl => ?_)
              refine lv_iconst (v := nI 1) hx hb d_Mo_character_129 (by decide) ?_
              refine lv_istore (lv' := [(6, .int (nI 1)), (5, .int (nI (bN t p0 - chM (chS (bN t p0))))), (0, .ref y), (1, .int (nI p0)), (2, .int (nI n)), (4, .int (nI (chS (bN t p0))))]) hx hb d_Mo_character_130 hl (by decide) rfl (fun ls hl => ?_)
              have lp_132 : ∀ (n9 : Nat) (k : Nat) (a : Nat) (hk1 : 1 ≤ k) (hks : k ≤ chS (bN t p0)) (ha : a < 128 * 64 ^ (k - 1)) (hr2 : chR (bl t n) (chS (bN t p0) - k) (p0 + k) a = chR (bl t n) (chS (bN t p0) - 1) (p0 + 1) (bN t p0 - chM (chS (bN t p0)))) (hmu : 5 - k < n9) (H : Heap) (locs : List Loc) (hP : va_P g.1 pc_cl [(y, .inr (5, [.ref ta, .ref oa, .ref ma, .int vn, .int vo, .int vm, .ref ca, .ref na, .ref la, .int vc, .int vk, .int va, .int vt])), (ta, .inl (g.2.1, 32768, .inl (bA t)))] H) (hD : va_D A [(y, .inr (5, [.ref ta, .ref oa, .ref ma, .int vn, .int vo, .int vm, .ref ca, .ref na, .ref la, .int vc, .int vk, .int va, .int vt])), (ta, .inl (g.2.1, 32768, .inl (bA t)))]) (hS : va_S A s.heap H locs) (ls : Array Slot) (hl : lv_has ls 8 [(0, .ref y), (1, .int (nI p0)), (2, .int (nI n)), (4, .int (nI (chS (bN t p0)))), (5, .int (nI a)), (6, .int (nI k))]), W p l e rm_Mo_character s m ([.ref y, .int (nI p0), .int (nI n)] : List Value).toArray below meth c H locs 0 0 Q (F0 m 132 ls []) := by
                intro n9
                induction n9 with
                | zero => intros; omega
                | succ n9 ih_132 =>
                  intro k a hk1 hks ha hr2 hmu H locs hP hD hS ls hl
                  refine lv_iload hx hb d_Mo_character_132 (lv_at hl 5 rfl) ?_
                  refine lv_iload hx hb d_Mo_character_134 (lv_at hl 3 rfl) ?_
                  refine pc_jge (tgt := 192) hx hb d_Mo_character_136 (by decide) (by omega) (by omega) (fun h_3 => ?_) (fun h_3 => ?_)
                  · skip
                    have hend : chR (bl t n) (chS (bN t p0) - 1) (p0 + 1) (bN t p0 - chM (chS (bN t p0))) = some a := by rw [← hr2, show chS (bN t p0) - k = 0 by omega]; rfl
                    have hab := ch_bound hk1 (by omega) ha
                    have hcw := chW_in a
                    refine lv_iload hx hb d_Mo_character_192 (lv_at hl 4 rfl) ?_
                    refine pc_i (wc := []) (wr := [(y, .inr (5, [.ref ta, .ref oa, .ref ma, .int vn, .int vo, .int vm, .ref ca, .ref na, .ref la, .int vc, .int vk, .int va, .int vt])), (ta, .inl (g.2.1, 32768, .inl (bA t)))]) (cells' := 0) (slots' := 0) hP hD hS hA [] [0, 1] rfl rfl (by decide) (by decide) rfl rfl (va_runS (n := 1) (As := [.int (nI a)]) (rest := []) ⟨hx, hb, hml, hown, hE.hts⟩ (c_Mo_isCharacter l g (nI a) _) ⟨pc_cb hE m_614 m_5 m_612 (by decide +kernel) ⟨by exact Nat.le_of_ble_eq_true rfl, by exact Nat.le_of_ble_eq_true rfl⟩, hE.w m_613⟩ (pc_pre hP hD hE hS hA [] (by decide) rfl [.int (nI a)]) rfl rfl hl.1 rfl (lv_room (by exact Nat.le_of_ble_eq_true rfl)) d_Mo_character_194 ⟨by exact Nat.le_of_ble_eq_true rfl, by exact Nat.le_of_ble_eq_true rfl⟩) (fun r_5 u_4 H locs hw hP hD hS => ?_)
                    obtain rfl := hw
                    have hP : va_P g.1 pc_cl [(y, .inr (5, [.ref ta, .ref oa, .ref ma, .int vn, .int vo, .int vm, .ref ca, .ref na, .ref la, .int vc, .int vk, .int va, .int vt])), (ta, .inl (g.2.1, 32768, .inl (bA t)))] H := hP
                    have hD : va_D A [(y, .inr (5, [.ref ta, .ref oa, .ref ma, .int vn, .int vo, .int vm, .ref ca, .ref na, .ref la, .int vc, .int vk, .int va, .int vt])), (ta, .inl (g.2.1, 32768, .inl (bA t)))] := hD
                    refine pc_beq (tgt := 215) hx hb d_Mo_character_197 (by decide) (fun h_6 => ?_) (fun h_6 => ?_)
                    · skip
                      refine lv_iconst (v := (-1)) hx hb d_Mo_character_215 (by decide) ?_
                      exact hQ _ _ 216 _ (-1) () d_Mo_character_216 rfl (Or.inl ⟨by first | (exact chV_nof (bl_at (by omega)) (by assumption)) | (exact chV_cut (by rw [bl_len]; omega) (bl_at (by omega)) hs0 (by rw [bl_len]; omega)) | (exact chV_bad (by rw [bl_len]; omega) (bl_at (by omega)) hs0 hend (fun z => absurd ((chI_nI (by omega)).mpr z.1) (by assumption))) | (exact chV_bad (by rw [bl_len]; omega) (bl_at (by omega)) hs0 hend (fun z => absurd z.2 (by assumption))) | (exact chV_fail (by rw [bl_len]; omega) (bl_at (by omega)) hs0 (by rw [← hr2]; exact chR_bad (by omega) (bl_at (by omega)) (by omega))), rfl⟩) (hP.sub [0, 1] rfl) (hD.sub [0, 1] (by decide) rfl) hS
                    · skip
                      refine lv_iload hx hb d_Mo_character_200 (lv_at hl 4 rfl) ?_
                      refine pc_i (wc := []) (wr := [(y, .inr (5, [.ref ta, .ref oa, .ref ma, .int vn, .int vo, .int vm, .ref ca, .ref na, .ref la, .int vc, .int vk, .int va, .int vt])), (ta, .inl (g.2.1, 32768, .inl (bA t)))]) (cells' := 0) (slots' := 0) hP hD hS hA [] [0, 1] rfl rfl (by decide) (by decide) rfl rfl (va_runS (n := 1) (As := [.int (nI a)]) (rest := []) ⟨hx, hb, hml, hown, hE.hts⟩ (c_Mo_width l g a (by omega) _) ⟨pc_cb hE m_620 m_5 m_618 (by decide +kernel) ⟨by exact Nat.le_of_ble_eq_true rfl, by exact Nat.le_of_ble_eq_true rfl⟩, hE.w m_619⟩ (pc_pre hP hD hE hS hA [] (by decide) rfl [.int (nI a)]) rfl rfl hl.1 rfl (lv_room (by exact Nat.le_of_ble_eq_true rfl)) d_Mo_character_202 ⟨by exact Nat.le_of_ble_eq_true rfl, by exact Nat.le_of_ble_eq_true rfl⟩) (fun r_8 u_7 H locs hw hP hD hS => ?_)
                      obtain rfl := hw
                      have hP : va_P g.1 pc_cl [(y, .inr (5, [.ref ta, .ref oa, .ref ma, .int vn, .int vo, .int vm, .ref ca, .ref na, .ref la, .int vc, .int vk, .int va, .int vt])), (ta, .inl (g.2.1, 32768, .inl (bA t)))] H := hP
                      have hD : va_D A [(y, .inr (5, [.ref ta, .ref oa, .ref ma, .int vn, .int vo, .int vm, .ref ca, .ref na, .ref la, .int vc, .int vk, .int va, .int vt])), (ta, .inl (g.2.1, 32768, .inl (bA t)))] := hD
                      refine lv_iload hx hb d_Mo_character_205 (lv_at hl 3 rfl) ?_
                      refine pc_jne (tgt := 215) hx hb d_Mo_character_207 (by decide) (by omega) (by omega) (fun h_9 => ?_) (fun h_9 => ?_)
                      · skip
                        refine lv_iconst (v := (-1)) hx hb d_Mo_character_215 (by decide) ?_
                        exact hQ _ _ 216 _ (-1) () d_Mo_character_216 rfl (Or.inl ⟨by first | (exact chV_nof (bl_at (by omega)) (by assumption)) | (exact chV_cut (by rw [bl_len]; omega) (bl_at (by omega)) hs0 (by rw [bl_len]; omega)) | (exact chV_bad (by rw [bl_len]; omega) (bl_at (by omega)) hs0 hend (fun z => absurd ((chI_nI (by omega)).mpr z.1) (by assumption))) | (exact chV_bad (by rw [bl_len]; omega) (bl_at (by omega)) hs0 hend (fun z => absurd z.2 (by assumption))) | (exact chV_fail (by rw [bl_len]; omega) (bl_at (by omega)) hs0 (by rw [← hr2]; exact chR_bad (by omega) (bl_at (by omega)) (by omega))), rfl⟩) (hP.sub [0, 1] rfl) (hD.sub [0, 1] (by decide) rfl) hS
                      · skip
                        refine lv_iload hx hb d_Mo_character_210 (lv_at hl 4 rfl) ?_
                        refine lv_goto (tgt := 216) hx hb d_Mo_character_212 (by decide) ?_
                        exact hQ _ _ 216 _ (nI a) () d_Mo_character_216 rfl (Or.inr ⟨a, chV_w (by rw [bl_len]; omega) (bl_at (by omega)) hs0 hend ⟨(chI_nI (by omega)).mp (by assumption), by assumption⟩, rfl, ((chI_nI (by omega)).mp (by assumption)).1⟩) (hP.sub [0, 1] rfl) (hD.sub [0, 1] (by decide) rfl) hS
                  · skip
                    have hab := ch_bound hk1 (by omega) ha
                    have hbx := bN_lt t (p0 + k)
                    refine lv_aload_n hx hb d_Mo_character_139 rfl (lv_at hl 0 rfl) ?_
                    refine va_get (ci := 5) (C := R_Mo) (T := F_Mo) (N := 13) hx hb hE.hts in_Mo hown hE.2.1 hP 0 rfl rfl 0 (by decide) (hE.w m_490) (fun _ h9 => h9) rfl d_Mo_character_140 ?_
                    refine lv_iload_n hx hb d_Mo_character_143 rfl (lv_at hl 1 rfl) ?_
                    refine lv_iload hx hb d_Mo_character_144 (lv_at hl 5 rfl) ?_
                    refine lv_iadd hx hb d_Mo_character_146 ?_
                    refine pc_ti (y := nI (p0 + k)) (nI_add _ _) ?_
                    refine pc_bald hx hb hE.2.1 hP 1 0 rfl rfl (by omega) (by omega) d_Mo_character_147 ?_
                    refine lv_sipush (v := nI 255) hx hb d_Mo_character_148 (by decide) ?_
                    refine lv_iand hx hb d_Mo_character_151 ?_
                    refine pc_ti (y := nI (bN t (p0 + k))) (bA_and _ _) ?_
                    refine lv_istore (lv' := [(7, .int (nI (bN t (p0 + k)))), (0, .ref y), (1, .int (nI p0)), (2, .int (nI n)), (4, .int (nI (chS (bN t p0)))), (5, .int (nI a)), (6, .int (nI k))]) hx hb d_Mo_character_152 hl (by decide) rfl (fun ls hl => ?_)
                    refine lv_iload hx hb d_Mo_character_154 (lv_at hl 0 rfl) ?_
                    refine lv_sipush (v := nI 128) hx hb d_Mo_character_156 (by decide) ?_
                    refine pc_jlt (tgt := 170) hx hb d_Mo_character_159 (by decide) (by omega) (by omega) (fun h_10 => ?_) (fun h_10 => ?_)
                    · skip
                      refine lv_iconst (v := (-1)) hx hb d_Mo_character_170 (by decide) ?_
                      exact hQ _ _ 171 _ (-1) () d_Mo_character_171 rfl (Or.inl ⟨by first | (exact chV_nof (bl_at (by omega)) (by assumption)) | (exact chV_cut (by rw [bl_len]; omega) (bl_at (by omega)) hs0 (by rw [bl_len]; omega)) | (exact chV_bad (by rw [bl_len]; omega) (bl_at (by omega)) hs0 hend (fun z => absurd ((chI_nI (by omega)).mpr z.1) (by assumption))) | (exact chV_bad (by rw [bl_len]; omega) (bl_at (by omega)) hs0 hend (fun z => absurd z.2 (by assumption))) | (exact chV_fail (by rw [bl_len]; omega) (bl_at (by omega)) hs0 (by rw [← hr2]; exact chR_bad (by omega) (bl_at (by omega)) (by omega))), rfl⟩) (hP.sub [0, 1] rfl) (hD.sub [0, 1] (by decide) rfl) hS
                    · skip
                      refine lv_iload hx hb d_Mo_character_162 (lv_at hl 0 rfl) ?_
                      refine lv_sipush (v := nI 191) hx hb d_Mo_character_164 (by decide) ?_
                      refine pc_jle (tgt := 172) hx hb d_Mo_character_167 (by decide) (by omega) (by omega) (fun h_11 => ?_) (fun h_11 => ?_)
                      · skip
                        refine lv_bipush (v := nI 64) hx hb d_Mo_character_172 (by decide) ?_
                        refine lv_iload hx hb d_Mo_character_174 (lv_at hl 5 rfl) ?_
                        refine lv_imul hx hb d_Mo_character_176 ?_
                        refine pc_ti (y := nI (64 * a)) (pk_mul _ _) ?_
                        refine lv_iload hx hb d_Mo_character_177 (lv_at hl 0 rfl) ?_
                        refine lv_iadd hx hb d_Mo_character_179 ?_
                        refine pc_ti (y := nI (64 * a + (bN t (p0 + k)))) (nI_add _ _) ?_
                        refine lv_sipush (v := nI 128) hx hb d_Mo_character_180 (by decide) ?_
                        refine lv_isub hx hb d_Mo_character_183 ?_
                        refine pc_ti (y := nI ((64 * a + (bN t (p0 + k))) - 128)) (pk_sub (by omega)) ?_
                        refine pc_ti (y := nI (a * 64 + (bN t (p0 + k) - 128))) (congrArg nI (by omega)) ?_
                        refine lv_istore (lv' := [(5, .int (nI (a * 64 + (bN t (p0 + k) - 128)))), (7, .int (nI (bN t (p0 + k)))), (0, .ref y), (1, .int (nI p0)), (2, .int (nI n)), (4, .int (nI (chS (bN t p0)))), (6, .int (nI k))]) hx hb d_Mo_character_184 hl (by decide) rfl (fun ls hl => ?_)
                        refine lv_iinc (v := nI (k + 1)) (lv' := [(6, .int (nI (k + 1))), (5, .int (nI (a * 64 + (bN t (p0 + k) - 128)))), (7, .int (nI (bN t (p0 + k)))), (0, .ref y), (1, .int (nI p0)), (2, .int (nI n)), (4, .int (nI (chS (bN t p0))))]) hx hb d_Mo_character_186 hl (k := 6) rfl (pc_inc k 1) (by decide) rfl (fun ls hl => ?_)
                        refine lv_goto (tgt := 132) hx hb d_Mo_character_189 (by decide) ?_
                        exact ih_132 (k + 1) (a * 64 + (bN t (p0 + k) - 128)) (by omega) (by omega) (ch_grow hk1 (by omega) ha) (by rw [← Nat.add_assoc, ← chR_more (by omega) (by rw [bl_len]; omega) (bl_at (by omega)) (by omega) (by omega)]; exact hr2) (by omega) _ _ (hP.sub [0, 1] rfl) (hD.sub [0, 1] (by decide) rfl) hS _ (lv_sub hl [3, 4, 5, 6, 1, 0] rfl)
                      · skip
                        refine lv_iconst (v := (-1)) hx hb d_Mo_character_170 (by decide) ?_
                        exact hQ _ _ 171 _ (-1) () d_Mo_character_171 rfl (Or.inl ⟨by first | (exact chV_nof (bl_at (by omega)) (by assumption)) | (exact chV_cut (by rw [bl_len]; omega) (bl_at (by omega)) hs0 (by rw [bl_len]; omega)) | (exact chV_bad (by rw [bl_len]; omega) (bl_at (by omega)) hs0 hend (fun z => absurd ((chI_nI (by omega)).mpr z.1) (by assumption))) | (exact chV_bad (by rw [bl_len]; omega) (bl_at (by omega)) hs0 hend (fun z => absurd z.2 (by assumption))) | (exact chV_fail (by rw [bl_len]; omega) (bl_at (by omega)) hs0 (by rw [← hr2]; exact chR_bad (by omega) (bl_at (by omega)) (by omega))), rfl⟩) (hP.sub [0, 1] rfl) (hD.sub [0, 1] (by decide) rfl) hS
              exact lp_132 (5 - 1 + 1) 1 (bN t p0 - chM (chS (bN t p0))) (by omega) (by omega) (by simpa using hct) rfl (Nat.lt_succ_self _) _ _ (hP.sub [0, 1] rfl) (hD.sub [0, 1] (by decide) rfl) hS _ (lv_sub hl [2, 3, 4, 5, 1, 0] rfl)
          refine lv_iload hx hb d_Mo_character_84 (lv_at hl 0 rfl) ?_
          refine lv_iconst (v := nI 1) hx hb d_Mo_character_86 (by decide) ?_
          refine pc_jne (tgt := 94) hx hb d_Mo_character_87 (by decide) (by omega) (by omega) (fun h_12 => ?_) (fun h_12 => ?_)
          · skip
            refine lv_iload hx hb d_Mo_character_94 (lv_at hl 0 rfl) ?_
            refine lv_iconst (v := nI 2) hx hb d_Mo_character_96 (by decide) ?_
            refine pc_jne (tgt := 108) hx hb d_Mo_character_97 (by decide) (by omega) (by omega) (fun h_13 => ?_) (fun h_13 => ?_)
            · skip
              refine lv_iload hx hb d_Mo_character_108 (lv_at hl 0 rfl) ?_
              refine lv_iconst (v := nI 3) hx hb d_Mo_character_110 (by decide) ?_
              refine pc_jne (tgt := 122) hx hb d_Mo_character_111 (by decide) (by omega) (by omega) (fun h_14 => ?_) (fun h_14 => ?_)
              · skip
                refine lv_iload_n hx hb d_Mo_character_122 rfl (lv_at hl 4 rfl) ?_
                refine lv_sipush (v := nI 240) hx hb d_Mo_character_123 (by decide) ?_
                refine lv_isub hx hb d_Mo_character_126 ?_
                refine pc_ti (y := nI ((bN t p0) - 240)) (pk_sub (by omega)) ?_
                refine pc_ti (y := nI (bN t p0 - chM (chS (bN t p0)))) (by unfold chM; (repeat' split) <;> first | rfl | (exfalso; omega)) ?_
                exact lp_127 (0 + 1)  (Nat.lt_succ_self _) _ _ (hP.sub [0, 1] rfl) (hD.sub [0, 1] (by decide) rfl) hS _ (lv_sub hl [1, 2, 3, 0] rfl)
              · skip
                refine lv_iload_n hx hb d_Mo_character_114 rfl (lv_at hl 4 rfl) ?_
                refine lv_sipush (v := nI 224) hx hb d_Mo_character_115 (by decide) ?_
                refine lv_isub hx hb d_Mo_character_118 ?_
                refine pc_ti (y := nI ((bN t p0) - 224)) (pk_sub (by omega)) ?_
                refine lv_goto (tgt := 127) hx hb d_Mo_character_119 (by decide) ?_
                refine pc_ti (y := nI (bN t p0 - chM (chS (bN t p0)))) (by unfold chM; (repeat' split) <;> first | rfl | (exfalso; omega)) ?_
                exact lp_127 (0 + 1)  (Nat.lt_succ_self _) _ _ (hP.sub [0, 1] rfl) (hD.sub [0, 1] (by decide) rfl) hS _ (lv_sub hl [1, 2, 3, 0] rfl)
            · skip
              refine lv_iload_n hx hb d_Mo_character_100 rfl (lv_at hl 4 rfl) ?_
              refine lv_sipush (v := nI 192) hx hb d_Mo_character_101 (by decide) ?_
              refine lv_isub hx hb d_Mo_character_104 ?_
              refine pc_ti (y := nI ((bN t p0) - 192)) (pk_sub (by omega)) ?_
              refine lv_goto (tgt := 127) hx hb d_Mo_character_105 (by decide) ?_
              refine pc_ti (y := nI (bN t p0 - chM (chS (bN t p0)))) (by unfold chM; (repeat' split) <;> first | rfl | (exfalso; omega)) ?_
              exact lp_127 (0 + 1)  (Nat.lt_succ_self _) _ _ (hP.sub [0, 1] rfl) (hD.sub [0, 1] (by decide) rfl) hS _ (lv_sub hl [1, 2, 3, 0] rfl)
          · skip
            refine lv_iload_n hx hb d_Mo_character_90 rfl (lv_at hl 4 rfl) ?_
            refine lv_goto (tgt := 127) hx hb d_Mo_character_91 (by decide) ?_
            refine pc_ti (y := nI (bN t p0 - chM (chS (bN t p0)))) (by unfold chM; (repeat' split) <;> first | rfl | (exfalso; omega)) ?_
            exact lp_127 (0 + 1)  (Nat.lt_succ_self _) _ _ (hP.sub [0, 1] rfl) (hD.sub [0, 1] (by decide) rfl) hS _ (lv_sub hl [1, 2, 3, 0] rfl)
        · skip
          refine lv_iconst (v := (-1)) hx hb d_Mo_character_82 (by decide) ?_
          exact hQ _ _ 83 _ (-1) () d_Mo_character_83 rfl (Or.inl ⟨by first | (exact chV_nof (bl_at (by omega)) (by assumption)) | (exact chV_cut (by rw [bl_len]; omega) (bl_at (by omega)) hs0 (by rw [bl_len]; omega)) | (exact chV_bad (by rw [bl_len]; omega) (bl_at (by omega)) hs0 hend (fun z => absurd ((chI_nI (by omega)).mpr z.1) (by assumption))) | (exact chV_bad (by rw [bl_len]; omega) (bl_at (by omega)) hs0 hend (fun z => absurd z.2 (by assumption))) | (exact chV_fail (by rw [bl_len]; omega) (bl_at (by omega)) hs0 (by rw [← hr2]; exact chR_bad (by omega) (bl_at (by omega)) (by omega))), rfl⟩) (hP.sub [0, 1] rfl) (hD.sub [0, 1] (by decide) rfl) hS
  refine lv_iload_n hx hb d_Mo_character_11 rfl (lv_at hl 0 rfl) ?_
  refine lv_sipush (v := nI 128) hx hb d_Mo_character_12 (by decide) ?_
  refine pc_jge (tgt := 22) hx hb d_Mo_character_15 (by decide) (by omega) (by omega) (fun h_15 => ?_) (fun h_15 => ?_)
  · skip
    refine lv_iload_n hx hb d_Mo_character_22 rfl (lv_at hl 0 rfl) ?_
    refine lv_sipush (v := nI 192) hx hb d_Mo_character_23 (by decide) ?_
    refine pc_jge (tgt := 33) hx hb d_Mo_character_26 (by decide) (by omega) (by omega) (fun h_16 => ?_) (fun h_16 => ?_)
    · skip
      refine lv_iload_n hx hb d_Mo_character_33 rfl (lv_at hl 0 rfl) ?_
      refine lv_sipush (v := nI 224) hx hb d_Mo_character_34 (by decide) ?_
      refine pc_jge (tgt := 44) hx hb d_Mo_character_37 (by decide) (by omega) (by omega) (fun h_17 => ?_) (fun h_17 => ?_)
      · skip
        refine lv_iload_n hx hb d_Mo_character_44 rfl (lv_at hl 0 rfl) ?_
        refine lv_sipush (v := nI 240) hx hb d_Mo_character_45 (by decide) ?_
        refine pc_jge (tgt := 55) hx hb d_Mo_character_48 (by decide) (by omega) (by omega) (fun h_18 => ?_) (fun h_18 => ?_)
        · skip
          refine lv_iload_n hx hb d_Mo_character_55 rfl (lv_at hl 0 rfl) ?_
          refine lv_sipush (v := nI 248) hx hb d_Mo_character_56 (by decide) ?_
          refine pc_jge (tgt := 66) hx hb d_Mo_character_59 (by decide) (by omega) (by omega) (fun h_19 => ?_) (fun h_19 => ?_)
          · skip
            refine lv_iconst (v := nI 0) hx hb d_Mo_character_66 (by decide) ?_
            refine pc_ti (y := nI (chS (bN t p0))) (by unfold chS; (repeat' split) <;> first | rfl | (exfalso; omega)) ?_
            exact lp_67 (0 + 1)  (Nat.lt_succ_self _) _ _ (hP.sub [0, 1] rfl) (hD.sub [0, 1] (by decide) rfl) hS _ (lv_sub hl [1, 2, 3, 0] rfl)
          · skip
            refine lv_iconst (v := nI 4) hx hb d_Mo_character_62 (by decide) ?_
            refine lv_goto (tgt := 67) hx hb d_Mo_character_63 (by decide) ?_
            refine pc_ti (y := nI (chS (bN t p0))) (by unfold chS; (repeat' split) <;> first | rfl | (exfalso; omega)) ?_
            exact lp_67 (0 + 1)  (Nat.lt_succ_self _) _ _ (hP.sub [0, 1] rfl) (hD.sub [0, 1] (by decide) rfl) hS _ (lv_sub hl [1, 2, 3, 0] rfl)
        · skip
          refine lv_iconst (v := nI 3) hx hb d_Mo_character_51 (by decide) ?_
          refine lv_goto (tgt := 67) hx hb d_Mo_character_52 (by decide) ?_
          refine pc_ti (y := nI (chS (bN t p0))) (by unfold chS; (repeat' split) <;> first | rfl | (exfalso; omega)) ?_
          exact lp_67 (0 + 1)  (Nat.lt_succ_self _) _ _ (hP.sub [0, 1] rfl) (hD.sub [0, 1] (by decide) rfl) hS _ (lv_sub hl [1, 2, 3, 0] rfl)
      · skip
        refine lv_iconst (v := nI 2) hx hb d_Mo_character_40 (by decide) ?_
        refine lv_goto (tgt := 67) hx hb d_Mo_character_41 (by decide) ?_
        refine pc_ti (y := nI (chS (bN t p0))) (by unfold chS; (repeat' split) <;> first | rfl | (exfalso; omega)) ?_
        exact lp_67 (0 + 1)  (Nat.lt_succ_self _) _ _ (hP.sub [0, 1] rfl) (hD.sub [0, 1] (by decide) rfl) hS _ (lv_sub hl [1, 2, 3, 0] rfl)
    · skip
      refine lv_iconst (v := nI 0) hx hb d_Mo_character_29 (by decide) ?_
      refine lv_goto (tgt := 67) hx hb d_Mo_character_30 (by decide) ?_
      refine pc_ti (y := nI (chS (bN t p0))) (by unfold chS; (repeat' split) <;> first | rfl | (exfalso; omega)) ?_
      exact lp_67 (0 + 1)  (Nat.lt_succ_self _) _ _ (hP.sub [0, 1] rfl) (hD.sub [0, 1] (by decide) rfl) hS _ (lv_sub hl [1, 2, 3, 0] rfl)
  · skip
    refine lv_iconst (v := nI 1) hx hb d_Mo_character_18 (by decide) ?_
    refine lv_goto (tgt := 67) hx hb d_Mo_character_19 (by decide) ?_
    refine pc_ti (y := nI (chS (bN t p0))) (by unfold chS; (repeat' split) <;> first | rfl | (exfalso; omega)) ?_
    exact lp_67 (0 + 1)  (Nat.lt_succ_self _) _ _ (hP.sub [0, 1] rfl) (hD.sub [0, 1] (by decide) rfl) hS _ (lv_sub hl [1, 2, 3, 0] rfl)
abbrev rm_Mo_text0 : Room := { frames := 6, cells := 1, slots := 6, locals := 81 }
set_option maxHeartbeats 1000000 in
set_option maxRecDepth 100000 in
/-- text -/
theorem c_Mo_text0 (l : Launch) (htr : l.stackTraces = false) (g : pc_G) (y : Nat) (ta : Nat) (oa : Nat) (ma : Nat) (ca : Nat) (na : Nat) (la : Nat) (vo : Int32) (vm : Int32) (vc : Int32) (vk : Int32) (va : Int32) (vt : Int32) (n : Nat) (t : Nat → UInt8) (lf : Nat → Int32) (nf : Nat → Int32) (hn : n ≤ 32768) : pc_X (S := Int32 × (Nat → Int32) × (Nat → Int32) × Nat) l y_Mo_text0 (.code y_Mo_text0 prog_11_method_16_code 5 (some .int)) (some .int) rm_Mo_text0 g [(y, .inr (5, [.ref ta, .ref oa, .ref ma, .int (nI n), .int vo, .int vm, .ref ca, .ref na, .ref la, .int vc, .int vk, .int va, .int vt])), (ta, .inl (g.2.1, 32768, .inl (bA t))), (la, .inl (g.2.2.1, 32768, .inl lf)), (ca, .inl (g.2.2.1, 32768, .inl nf))] [.ref y] (fun rv u => (rv = .inl (nI u.2.2.2) ∧ (∃ ns : List Nat, chsA (bl t n) (n + 1) 0 [] = some ns ∧ u.2.2.2 = ns.length ∧ u.2.2.2 ≤ 32768 ∧ ∀ j, j < u.2.2.2 → u.2.2.1 j = nI (ns.getD j 0)) ∧ u.1 = nI u.2.2.2) ∨ (rv = .inr "java/lang/IllegalArgumentException" ∧ chsA (bl t n) (n + 1) 0 [] = none ∧ u.1 = vc ∧ u.2.2.1 = nf)) (fun u => [(y, .inr (5, [.ref ta, .ref oa, .ref ma, .int (nI 0), .int vo, .int vm, .ref ca, .ref na, .ref la, .int u.1, .int vk, .int va, .int vt])), (ta, .inl (g.2.1, 32768, .inl (bA t))), (la, .inl (g.2.2.1, 32768, .inl u.2.1)), (ca, .inl (g.2.2.1, 32768, .inl u.2.2.1))]) := by
  refine pc_X.of (cc := prog_11_method_16_code) (nL := 5) (rt := (some .int)) (hh := []) (by decide) tx_wd.plain (by exact Nat.le_of_ble_eq_true rfl) htr ?_
  intro p e s m below meth c A Q hx hb hml hown hE hA htab hR hT hO hP hD ls hl
  have hS : va_S A s.heap s.heap [] := va_S.rf
  have hl : lv_has ls 5 [(0, .ref y)] := hl
  refine lv_aload_n hx hb d_Mo_text0_0 rfl (lv_at hl 0 rfl) ?_
  refine va_get (ci := 5) (C := R_Mo) (T := F_Mo) (N := 13) hx hb hE.hts in_Mo hown hE.2.1 hP 0 rfl rfl 3 (by decide) (hE.w m_493) (fun _ h9 => h9) rfl d_Mo_text0_1 ?_
  refine lv_istore_n (lv' := [(1, .int (nI n)), (0, .ref y)]) hx hb d_Mo_text0_4 rfl hl (by decide) rfl (fun ls hl => ?_)
  refine lv_iconst (v := nI 0) hx hb d_Mo_text0_5 (by decide) ?_
  refine lv_istore_n (lv' := [(2, .int (nI 0)), (1, .int (nI n)), (0, .ref y)]) hx hb d_Mo_text0_6 rfl hl (by decide) rfl (fun ls hl => ?_)
  refine lv_iconst (v := nI 0) hx hb d_Mo_text0_7 (by decide) ?_
  refine lv_istore_n (lv' := [(3, .int (nI 0)), (2, .int (nI 0)), (1, .int (nI n)), (0, .ref y)]) hx hb d_Mo_text0_8 rfl hl (by decide) rfl (fun ls hl => ?_)
  refine lv_aload_n hx hb d_Mo_text0_9 rfl (lv_at hl 3 rfl) ?_
  refine lv_iconst (v := nI 0) hx hb d_Mo_text0_10 (by decide) ?_
  refine va_put (ci := 5) (ty := .int) (C := R_Mo) (T := F_Mo) (N := 13) hx hb hE.hts in_Mo t_Mo tk_Mo nn_Mo hown hE.2.1 hP hD hS 0 rfl rfl 3 (by decide) (hE.w m_493) (fun _ h9 => h9) rfl (by decide +kernel) (by rfl) (by rfl) (by exact Nat.le_of_ble_eq_true rfl) d_Mo_text0_11 (fun H locs hP hD hS => ?_)
  have hP : va_P g.1 pc_cl [(y, .inr (5, [.ref ta, .ref oa, .ref ma, .int (nI 0), .int vo, .int vm, .ref ca, .ref na, .ref la, .int vc, .int vk, .int va, .int vt])), (ta, .inl (g.2.1, 32768, .inl (bA t))), (la, .inl (g.2.2.1, 32768, .inl lf)), (ca, .inl (g.2.2.1, 32768, .inl nf))] H := hP
  have hD : va_D A [(y, .inr (5, [.ref ta, .ref oa, .ref ma, .int (nI 0), .int vo, .int vm, .ref ca, .ref na, .ref la, .int vc, .int vk, .int va, .int vt])), (ta, .inl (g.2.1, 32768, .inl (bA t))), (la, .inl (g.2.2.1, 32768, .inl lf)), (ca, .inl (g.2.2.1, 32768, .inl nf))] := hD
  have lp_14 : ∀ (n9 : Nat) (k : Nat) (w : Nat) (f : Nat → Int32) (fu : Nat) (ns : List Nat) (hwn : k ≤ w) (hw7 : w ≤ n + 4) (hkn : k ≤ n) (hfu : n - w < fu) (hns : k = ns.length) (hf : chsA (bl t n) fu w ns = chsA (bl t n) (n + 1) 0 []) (hold : ∀ j, j < k → f j = nI (ns.getD j 0)) (hmu : n - w < n9) (H : Heap) (locs : List Loc) (hP : va_P g.1 pc_cl [(y, .inr (5, [.ref ta, .ref oa, .ref ma, .int (nI 0), .int vo, .int vm, .ref ca, .ref na, .ref la, .int vc, .int vk, .int va, .int vt])), (ta, .inl (g.2.1, 32768, .inl (bA t))), (la, .inl (g.2.2.1, 32768, .inl f)), (ca, .inl (g.2.2.1, 32768, .inl nf))] H) (hD : va_D A [(y, .inr (5, [.ref ta, .ref oa, .ref ma, .int (nI 0), .int vo, .int vm, .ref ca, .ref na, .ref la, .int vc, .int vk, .int va, .int vt])), (ta, .inl (g.2.1, 32768, .inl (bA t))), (la, .inl (g.2.2.1, 32768, .inl f)), (ca, .inl (g.2.2.1, 32768, .inl nf))]) (hS : va_S A s.heap H locs) (ls : Array Slot) (hl : lv_has ls 5 [(0, .ref y), (1, .int (nI n)), (2, .int (nI w)), (3, .int (nI k))]), W p l e rm_Mo_text0 s m ([.ref y] : List Value).toArray below meth c H locs 0 0 Q (F0 m 14 ls []) := by
    intro n9
    induction n9 with
    | zero => intros; omega
    | succ n9 ih_14 =>
      intro k w f fu ns hwn hw7 hkn hfu hns hf hold hmu H locs hP hD hS ls hl
      refine lv_iload_n hx hb d_Mo_text0_14 rfl (lv_at hl 2 rfl) ?_
      refine lv_iload_n hx hb d_Mo_text0_15 rfl (lv_at hl 1 rfl) ?_
      refine pc_jge (tgt := 62) hx hb d_Mo_text0_16 (by decide) (by omega) (by omega) (fun h_1 => ?_) (fun h_1 => ?_)
      · skip
        refine lv_aload_n hx hb d_Mo_text0_62 rfl (lv_at hl 0 rfl) ?_
        refine va_get (ci := 5) (C := R_Mo) (T := F_Mo) (N := 13) hx hb hE.hts in_Mo hown hE.2.1 hP 0 rfl rfl 8 (by decide) (hE.w m_498) (fun _ h9 => h9) rfl d_Mo_text0_63 ?_
        refine lv_iconst (v := nI 0) hx hb d_Mo_text0_66 (by decide) ?_
        refine lv_aload_n hx hb d_Mo_text0_67 rfl (lv_at hl 0 rfl) ?_
        refine va_get (ci := 5) (C := R_Mo) (T := F_Mo) (N := 13) hx hb hE.hts in_Mo hown hE.2.1 hP 0 rfl rfl 6 (by decide) (hE.w m_496) (fun _ h9 => h9) rfl d_Mo_text0_68 ?_
        refine lv_iconst (v := nI 0) hx hb d_Mo_text0_71 (by decide) ?_
        refine lv_iload_n hx hb d_Mo_text0_72 rfl (lv_at hl 3 rfl) ?_
        refine pc_copyn hx hb (hml.trans hl.1.symm) hown (hE.w m_582) (hE.w m_266) (hE.w m_265) (hE.w m_14) hE.2.1 hP hD hS 2 3 rfl rfl (by omega) (by omega) (by omega) (by omega) (by exact Nat.le_of_ble_eq_true rfl) (by exact Nat.le_of_ble_eq_true rfl) d_Mo_text0_73 (fun H locs hP hD hS => ?_)
        have hP : va_P g.1 pc_cl [(y, .inr (5, [.ref ta, .ref oa, .ref ma, .int (nI 0), .int vo, .int vm, .ref ca, .ref na, .ref la, .int vc, .int vk, .int va, .int vt])), (ta, .inl (g.2.1, 32768, .inl (bA t))), (la, .inl (g.2.2.1, 32768, .inl f)), (ca, .inl (g.2.2.1, 32768, .inl (va_cpy f nf 0 0 k)))] H := hP
        have hD : va_D A [(y, .inr (5, [.ref ta, .ref oa, .ref ma, .int (nI 0), .int vo, .int vm, .ref ca, .ref na, .ref la, .int vc, .int vk, .int va, .int vt])), (ta, .inl (g.2.1, 32768, .inl (bA t))), (la, .inl (g.2.2.1, 32768, .inl f)), (ca, .inl (g.2.2.1, 32768, .inl (va_cpy f nf 0 0 k)))] := hD
        refine lv_aload_n hx hb d_Mo_text0_76 rfl (lv_at hl 0 rfl) ?_
        refine lv_iload_n hx hb d_Mo_text0_77 rfl (lv_at hl 3 rfl) ?_
        refine va_put (ci := 5) (ty := .int) (C := R_Mo) (T := F_Mo) (N := 13) hx hb hE.hts in_Mo t_Mo tk_Mo nn_Mo hown hE.2.1 hP hD hS 0 rfl rfl 9 (by decide) (hE.w m_499) (fun _ h9 => h9) rfl (by decide +kernel) (by rfl) (by rfl) (by exact Nat.le_of_ble_eq_true rfl) d_Mo_text0_78 (fun H locs hP hD hS => ?_)
        have hP : va_P g.1 pc_cl [(y, .inr (5, [.ref ta, .ref oa, .ref ma, .int (nI 0), .int vo, .int vm, .ref ca, .ref na, .ref la, .int (nI k), .int vk, .int va, .int vt])), (ta, .inl (g.2.1, 32768, .inl (bA t))), (la, .inl (g.2.2.1, 32768, .inl f)), (ca, .inl (g.2.2.1, 32768, .inl (va_cpy f nf 0 0 k)))] H := hP
        have hD : va_D A [(y, .inr (5, [.ref ta, .ref oa, .ref ma, .int (nI 0), .int vo, .int vm, .ref ca, .ref na, .ref la, .int (nI k), .int vk, .int va, .int vt])), (ta, .inl (g.2.1, 32768, .inl (bA t))), (la, .inl (g.2.2.1, 32768, .inl f)), (ca, .inl (g.2.2.1, 32768, .inl (va_cpy f nf 0 0 k)))] := hD
        refine lv_iload_n hx hb d_Mo_text0_81 rfl (lv_at hl 3 rfl) ?_
        refine W.widen (k := rm_Mo_text0.cells) (n := rm_Mo_text0.slots) (by exact Nat.le_of_ble_eq_true rfl) (by exact Nat.le_of_ble_eq_true rfl) ?_
        exact hR _ _ 82 _ (nI k) (nI k, f, va_cpy f nf 0 0 k, k) d_Mo_text0_82 rfl (Or.inl (⟨rfl, ⟨ns, by rw [← hf]; exact chsA_end (by omega) (by rw [bl_len]; omega), hns, show k ≤ 32768 by omega, cp_0 hold⟩, rfl⟩)) (hP.sub [0, 1, 2, 3] rfl) (hD.sub [0, 1, 2, 3] (by decide) rfl) hS
      · skip
        refine lv_aload_n hx hb d_Mo_text0_19 rfl (lv_at hl 0 rfl) ?_
        refine lv_iload_n hx hb d_Mo_text0_20 rfl (lv_at hl 2 rfl) ?_
        refine lv_iload_n hx hb d_Mo_text0_21 rfl (lv_at hl 1 rfl) ?_
        refine pc_i (wc := [(y, .inr (5, [.ref ta, .ref oa, .ref ma, .int (nI 0), .int vo, .int vm, .ref ca, .ref na, .ref la, .int vc, .int vk, .int va, .int vt])), (ta, .inl (g.2.1, 32768, .inl (bA t)))]) (wr := [(la, .inl (g.2.2.1, 32768, .inl f)), (ca, .inl (g.2.2.1, 32768, .inl nf))]) (cells' := 0) (slots' := 0) hP hD hS hA [0, 1] [2, 3] rfl rfl (by decide) (by decide) rfl rfl (va_runV (n := 2) (As := [.int (nI w), .int (nI n)]) (rest := []) (C := R_Mo) ⟨hx, hb, hml, hown, hE.hts⟩ (c_Mo_character l g y ta oa ma ca na la (nI 0) vo vm vc vk va vt n t w (by omega) (by omega) _) ⟨pc_cb hE m_611 m_5 m_608 (by decide +kernel) ⟨by exact Nat.le_of_ble_eq_true rfl, by exact Nat.le_of_ble_eq_true rfl⟩, hE.w m_610, hE.w ms_33⟩ (pc_preV (ci := 5) (q0 := 0) hP hD hE hS hA [0, 1] (by decide) rfl [.int (nI w), .int (nI n)] rfl rfl) rfl rfl hl.1 rfl (lv_room (by exact Nat.le_of_ble_eq_true rfl)) d_Mo_text0_22 ⟨by exact Nat.le_of_ble_eq_true rfl, by exact Nat.le_of_ble_eq_true rfl⟩) (fun r_3 u_2 H locs hw hP hD hS => ?_)
        have hw_4 := hw
        have hw_4 : (chV (bl t n) w = none ∧ r_3 = -1) ∨ ∃ v, chV (bl t n) w = some (v, w + chW v) ∧ r_3 = nI v ∧ v ≤ 1114111 := hw_4
        have hP : va_P g.1 pc_cl [(la, .inl (g.2.2.1, 32768, .inl f)), (ca, .inl (g.2.2.1, 32768, .inl nf)), (y, .inr (5, [.ref ta, .ref oa, .ref ma, .int (nI 0), .int vo, .int vm, .ref ca, .ref na, .ref la, .int vc, .int vk, .int va, .int vt])), (ta, .inl (g.2.1, 32768, .inl (bA t)))] H := hP
        have hD : va_D A [(la, .inl (g.2.2.1, 32768, .inl f)), (ca, .inl (g.2.2.1, 32768, .inl nf)), (y, .inr (5, [.ref ta, .ref oa, .ref ma, .int (nI 0), .int vo, .int vm, .ref ca, .ref na, .ref la, .int vc, .int vk, .int va, .int vt])), (ta, .inl (g.2.1, 32768, .inl (bA t)))] := hD
        rcases hw_4 with ⟨hno, rfl⟩ | ⟨v, hyes, rfl, hv⟩
        · skip
          refine lv_istore (lv' := [(4, .int (-1)), (0, .ref y), (1, .int (nI n)), (2, .int (nI w)), (3, .int (nI k))]) hx hb d_Mo_text0_25 hl (by decide) rfl (fun ls hl => ?_)
          refine lv_iload hx hb d_Mo_text0_27 (lv_at hl 0 rfl) ?_
          refine lv_if_ge (tgt := 40) hx hb d_Mo_text0_29 (by decide) (fun h_d => absurd h_d (by decide)) (fun h_d => ?_)
          exact hT "java/lang/IllegalArgumentException" 37 39 _ _ 0 0 32 _ (vc, f, nf, 0) (by decide) m_548 m_10 ta_3 (hl.1.trans hml.symm) d_Mo_text0_32 d_Mo_text0_35 d_Mo_text0_36 d_Mo_text0_39 (by decide) ⟨by exact Nat.le_of_ble_eq_true rfl, by exact Nat.le_of_ble_eq_true rfl, by exact Nat.le_of_ble_eq_true rfl, by exact Nat.le_of_ble_eq_true rfl⟩ (Or.inr (⟨rfl, by rw [← hf]; exact chsA_bad (by rw [bl_len]; omega) hno, rfl, rfl⟩)) (hP.sub [2, 3, 0, 1] rfl) (hD.sub [2, 3, 0, 1] (by decide) rfl) hS
        · skip
          have hcw := chW_in v
          refine lv_istore (lv' := [(4, .int (nI v)), (0, .ref y), (1, .int (nI n)), (2, .int (nI w)), (3, .int (nI k))]) hx hb d_Mo_text0_25 hl (by decide) rfl (fun ls hl => ?_)
          refine lv_iload hx hb d_Mo_text0_27 (lv_at hl 0 rfl) ?_
          refine pc_zge (tgt := 40) hx hb d_Mo_text0_29 (by decide) (by omega) (fun h_d => ?_) (fun h_d => absurd h_d (not_false))
          obtain ⟨fu9, rfl⟩ : ∃ z, fu = z + 1 := ⟨fu - 1, by omega⟩
          refine lv_aload_n hx hb d_Mo_text0_40 rfl (lv_at hl 1 rfl) ?_
          refine va_get (ci := 5) (C := R_Mo) (T := F_Mo) (N := 13) hx hb hE.hts in_Mo hown hE.2.1 hP 2 rfl rfl 8 (by decide) (hE.w m_498) (fun _ h9 => h9) rfl d_Mo_text0_41 ?_
          refine lv_iload_n hx hb d_Mo_text0_44 rfl (lv_at hl 4 rfl) ?_
          refine lv_iload hx hb d_Mo_text0_45 (lv_at hl 0 rfl) ?_
          refine pc_iast hx hb hE.2.1 hP hD hS 0 1 rfl rfl (by omega) (by omega) d_Mo_text0_47 (fun H locs hP hD hS => ?_)
          have hP : va_P g.1 pc_cl [(la, .inl (g.2.2.1, 32768, .inl (upd f k (nI v)))), (ca, .inl (g.2.2.1, 32768, .inl nf)), (y, .inr (5, [.ref ta, .ref oa, .ref ma, .int (nI 0), .int vo, .int vm, .ref ca, .ref na, .ref la, .int vc, .int vk, .int va, .int vt])), (ta, .inl (g.2.1, 32768, .inl (bA t)))] H := hP
          have hD : va_D A [(la, .inl (g.2.2.1, 32768, .inl (upd f k (nI v)))), (ca, .inl (g.2.2.1, 32768, .inl nf)), (y, .inr (5, [.ref ta, .ref oa, .ref ma, .int (nI 0), .int vo, .int vm, .ref ca, .ref na, .ref la, .int vc, .int vk, .int va, .int vt])), (ta, .inl (g.2.1, 32768, .inl (bA t)))] := hD
          refine lv_iinc (v := nI (k + 1)) (lv' := [(3, .int (nI (k + 1))), (4, .int (nI v)), (0, .ref y), (1, .int (nI n)), (2, .int (nI w))]) hx hb d_Mo_text0_48 hl (k := 4) rfl (pc_inc k 1) (by decide) rfl (fun ls hl => ?_)
          refine lv_iload_n hx hb d_Mo_text0_51 rfl (lv_at hl 4 rfl) ?_
          refine lv_iload hx hb d_Mo_text0_52 (lv_at hl 1 rfl) ?_
          refine pc_i (wc := []) (wr := [(la, .inl (g.2.2.1, 32768, .inl (upd f k (nI v)))), (ca, .inl (g.2.2.1, 32768, .inl nf)), (y, .inr (5, [.ref ta, .ref oa, .ref ma, .int (nI 0), .int vo, .int vm, .ref ca, .ref na, .ref la, .int vc, .int vk, .int va, .int vt])), (ta, .inl (g.2.1, 32768, .inl (bA t)))]) (cells' := 0) (slots' := 0) hP hD hS hA [] [0, 1, 2, 3] rfl rfl (by decide) (by decide) rfl rfl (va_runS (n := 1) (As := [.int (nI v)]) (rest := [.int (nI w)]) ⟨hx, hb, hml, hown, hE.hts⟩ (c_Mo_width l g v (by omega) _) ⟨pc_cb hE m_620 m_5 m_618 (by decide +kernel) ⟨by exact Nat.le_of_ble_eq_true rfl, by exact Nat.le_of_ble_eq_true rfl⟩, hE.w m_619⟩ (pc_pre hP hD hE hS hA [] (by decide) rfl [.int (nI v)]) rfl rfl hl.1 rfl (lv_room (by exact Nat.le_of_ble_eq_true rfl)) d_Mo_text0_54 ⟨by exact Nat.le_of_ble_eq_true rfl, by exact Nat.le_of_ble_eq_true rfl⟩) (fun r_6 u_5 H locs hw hP hD hS => ?_)
          obtain rfl := hw
          have hP : va_P g.1 pc_cl [(la, .inl (g.2.2.1, 32768, .inl (upd f k (nI v)))), (ca, .inl (g.2.2.1, 32768, .inl nf)), (y, .inr (5, [.ref ta, .ref oa, .ref ma, .int (nI 0), .int vo, .int vm, .ref ca, .ref na, .ref la, .int vc, .int vk, .int va, .int vt])), (ta, .inl (g.2.1, 32768, .inl (bA t)))] H := hP
          have hD : va_D A [(la, .inl (g.2.2.1, 32768, .inl (upd f k (nI v)))), (ca, .inl (g.2.2.1, 32768, .inl nf)), (y, .inr (5, [.ref ta, .ref oa, .ref ma, .int (nI 0), .int vo, .int vm, .ref ca, .ref na, .ref la, .int vc, .int vk, .int va, .int vt])), (ta, .inl (g.2.1, 32768, .inl (bA t)))] := hD
          refine lv_iadd hx hb d_Mo_text0_57 ?_
          refine pc_ti (y := nI (w + (chW v))) (nI_add _ _) ?_
          refine lv_istore_n (lv' := [(2, .int (nI (w + (chW v)))), (3, .int (nI (k + 1))), (4, .int (nI v)), (0, .ref y), (1, .int (nI n))]) hx hb d_Mo_text0_58 rfl hl (by decide) rfl (fun ls hl => ?_)
          refine lv_goto (tgt := 14) hx hb d_Mo_text0_59 (by decide) ?_
          exact ih_14 (k + 1) (w + (chW v)) (upd f k (nI v)) fu9 (ns ++ [v]) (by omega) (by omega) (by omega) (by omega) (by simp [hns]) (by rw [← chsA_more (by rw [bl_len]; omega) hyes]; exact hf) (upd_put hns hold) (by omega) _ _ (hP.sub [2, 3, 0, 1] rfl) (hD.sub [2, 3, 0, 1] (by decide) rfl) hS _ (lv_sub hl [3, 4, 0, 1] rfl)
  exact lp_14 (n - 0 + 1) 0 0 lf (n + 1) ([]) (by omega) (by omega) (by omega) (by omega) rfl rfl (fun j hj => absurd hj (Nat.not_lt_zero j)) (Nat.lt_succ_self _) _ _ (hP.sub [0, 1, 2, 3] rfl) (hD.sub [0, 1, 2, 3] (by decide) rfl) hS _ (lv_sub hl [3, 2, 1, 0] rfl)
