abbrev rm_Mo_feed : Room := { frames := 7, cells := 1, slots := 6, locals := 108 }
set_option maxHeartbeats 1000000 in
set_option maxRecDepth 100000 in
/-- feed, with what is thrown -/
theorem c_Mo_feed (l : Launch) (htr : l.stackTraces = false) (g : pc_G) (y : Nat) (ta : Nat) (oa : Nat) (ma : Nat) (ca : Nat) (na : Nat) (la : Nat) (vo : Int32) (vm : Int32) (vc : Int32) (vk : Int32) (va : Int32) (vt : Int32) (n : Nat) (t : Nat → UInt8) (a : Nat) (b : Nat) (c2 : Nat) (d : Nat) (e2 : Nat) (hn : n ≤ 32768) : pc_X (S := Nat × (Nat → UInt8) × Nat) l y_Mo_feed (.codeWith y_Mo_feed prog_11_method_29_code 7 none [(5, 16, 19, 34)]) none rm_Mo_feed g [(y, .inr (5, [.ref ta, .ref oa, .ref ma, .int (nI n), .int vo, .int vm, .ref ca, .ref na, .ref la, .int vc, .int vk, .int va, .int vt])), (ta, .inl (g.2.1, 32768, .inl (bA t)))] [.ref y, .int (nI a), .int (nI b), .int (nI c2), .int (nI d), .int (nI e2)] (fun rv u => (rv = .inl 0 ∧ n + 20 ≤ 32768 ∧ u.1 = n + 20 ∧ bl u.2.1 u.1 = bl t n ++ feedL a b c2 d e2 ∧ u.2.2 = 0) ∨ (rv = .inl 0 ∧ 32768 < n + 20 ∧ u.1 = n ∧ u.2.1 = t ∧ u.2.2 = 1)) (fun u => [(y, .inr (5, [.ref ta, .ref oa, .ref ma, .int (nI u.1), .int vo, .int vm, .ref ca, .ref na, .ref la, .int vc, .int vk, .int va, .int (nI u.2.2)])), (ta, .inl (g.2.1, 32768, .inl (bA u.2.1)))]) := by
  refine pc_X.of (cc := prog_11_method_29_code) (nL := 7) (rt := none) (hh := [(5, 16, 19, 34)]) (by decide) tx_wd.with (by exact Nat.le_of_ble_eq_true rfl) htr ?_
  intro p e s m below meth c A Q hx hb hml hown hE hA htab hR hT hO hP hD ls hl
  have hS : va_S A s.heap s.heap [] := va_S.rf
  have hl : lv_has ls 7 [(0, .ref y), (1, .int (nI a)), (2, .int (nI b)), (3, .int (nI c2)), (4, .int (nI d)), (5, .int (nI e2))] := hl
  refine lv_aload_n hx hb d_Mo_feed_0 rfl (lv_at hl 0 rfl) ?_
  refine lv_iconst (v := nI 0) hx hb d_Mo_feed_1 (by decide) ?_
  refine va_put (ci := 5) (ty := .int) (C := R_Mo) (T := F_Mo) (N := 13) hx hb hE.hts in_Mo t_Mo tk_Mo nn_Mo hown hE.2.1 hP hD hS 0 rfl rfl 12 (by decide) (hE.w m_502) (fun _ h9 => h9) rfl (by decide +kernel) (by rfl) (by rfl) (by exact Nat.le_of_ble_eq_true rfl) d_Mo_feed_2 (fun H locs hP hD hS => ?_)
  have hP : va_P g.1 pc_cl [(y, .inr (5, [.ref ta, .ref oa, .ref ma, .int (nI n), .int vo, .int vm, .ref ca, .ref na, .ref la, .int vc, .int vk, .int va, .int (nI 0)])), (ta, .inl (g.2.1, 32768, .inl (bA t)))] H := hP
  have hD : va_D A [(y, .inr (5, [.ref ta, .ref oa, .ref ma, .int (nI n), .int vo, .int vm, .ref ca, .ref na, .ref la, .int vc, .int vk, .int va, .int (nI 0)])), (ta, .inl (g.2.1, 32768, .inl (bA t)))] := hD
  refine lv_aload_n hx hb d_Mo_feed_5 rfl (lv_at hl 0 rfl) ?_
  refine lv_iload_n hx hb d_Mo_feed_6 rfl (lv_at hl 1 rfl) ?_
  refine lv_iload_n hx hb d_Mo_feed_7 rfl (lv_at hl 2 rfl) ?_
  refine lv_iload_n hx hb d_Mo_feed_8 rfl (lv_at hl 3 rfl) ?_
  refine lv_iload hx hb d_Mo_feed_9 (lv_at hl 4 rfl) ?_
  refine lv_iload hx hb d_Mo_feed_11 (lv_at hl 5 rfl) ?_
  refine pc_x (rt := none) (wc := [(y, .inr (5, [.ref ta, .ref oa, .ref ma, .int (nI n), .int vo, .int vm, .ref ca, .ref na, .ref la, .int vc, .int vk, .int va, .int (nI 0)])), (ta, .inl (g.2.1, 32768, .inl (bA t)))]) (wr := []) (cells' := 1) (slots' := 6) hP hD hS hA [0, 1] [] rfl rfl (by decide) (by decide) rfl rfl (tx_runV (n := 5) (As := [.int (nI a), .int (nI b), .int (nI c2), .int (nI d), .int (nI e2)]) (rest := []) (C := R_Mo) hE hx hb hml hown (c_Mo_feed0 l htr g y ta oa ma ca na la vo vm vc vk va (nI 0) n t a b c2 d e2 hn _) (fun U9 hW9 => tx_wd.plain.cd (hE.1.at hW9 m_542 #[])) m_542 m_5 m_539 m_541 ms_21 (by decide +kernel) (pc_preV (ci := 5) (q0 := 0) hP hD hE hS hA [0, 1] (by decide) rfl [.int (nI a), .int (nI b), .int (nI c2), .int (nI d), .int (nI e2)] rfl rfl) ⟨by exact Nat.le_of_ble_eq_true rfl, by exact Nat.le_of_ble_eq_true rfl⟩ rfl rfl hl.1 rfl (lv_room (by exact Nat.le_of_ble_eq_true rfl)) d_Mo_feed_13 ⟨by exact Nat.le_of_ble_eq_true rfl, by exact Nat.le_of_ble_eq_true rfl⟩) (fun r_2 u_1 H locs hw hP hD hS => ?_)
  obtain ⟨n2_3, t2_4⟩ := u_1
  have hP : va_P g.1 pc_cl [(y, .inr (5, [.ref ta, .ref oa, .ref ma, .int (nI n2_3), .int vo, .int vm, .ref ca, .ref na, .ref la, .int vc, .int vk, .int va, .int (nI 0)])), (ta, .inl (g.2.1, 32768, .inl (bA t2_4)))] H := hP
  have hD : va_D A [(y, .inr (5, [.ref ta, .ref oa, .ref ma, .int (nI n2_3), .int vo, .int vm, .ref ca, .ref na, .ref la, .int vc, .int vk, .int va, .int (nI 0)])), (ta, .inl (g.2.1, 32768, .inl (bA t2_4)))] := hD
  rcases hw with ⟨rfl, hw_5, hw_6, hw_7⟩ | ⟨rfl, hw_8, hw_9, hw_10⟩
  · skip
    have hw_5 : n + 20 ≤ 32768 := hw_5
    have hw_6 : n2_3 = n + 20 := hw_6
    have hw_7 : bl t2_4 n2_3 = bl t n ++ feedL a b c2 d e2 := hw_7
    refine tx_onV ?_
    refine lv_goto (tgt := 26) hx hb d_Mo_feed_16 (by decide) ?_
    exact hR _ _ 26 _ (n2_3, t2_4, 0) d_Mo_feed_26 (Or.inl (⟨rfl, hw_5, hw_6, hw_7, rfl⟩)) (hP.sub [0, 1] rfl) (hD.sub [0, 1] (by decide) rfl) hS
  · skip
    have hw_8 : 32768 < n + 20 := hw_8
    have hw_9 : n2_3 = n := hw_9
    have hw_10 : t2_4 = t := hw_10
    refine tx_onX (fun q_11 ce hq1 hq2 hq3 => ?_)
    refine tx_catch (name := "java/lang/IllegalStateException") (E := "java/lang/IllegalStateException") hE hown [] ⟨5, 16, 19, 34⟩ [] htab (fun z hz => nomatch hz) (by decide) (by decide) m_538 m_120 hq1 hq2 hq3 ?_
    refine W.eq (g2 := F0 m 19 ls [.ref q_11]) rfl ?_
    refine lv_astore (lv' := [(6, .ref q_11), (0, .ref y), (1, .int (nI a)), (2, .int (nI b)), (3, .int (nI c2)), (4, .int (nI d)), (5, .int (nI e2))]) hx hb d_Mo_feed_19 hl (by decide) rfl (fun ls hl => ?_)
    refine lv_aload_n hx hb d_Mo_feed_21 rfl (lv_at hl 1 rfl) ?_
    refine lv_iconst (v := nI 1) hx hb d_Mo_feed_22 (by decide) ?_
    refine va_put (ci := 5) (ty := .int) (C := R_Mo) (T := F_Mo) (N := 13) hx hb hE.hts in_Mo t_Mo tk_Mo nn_Mo hown hE.2.1 hP hD hS 0 rfl rfl 12 (by decide) (hE.w m_502) (fun _ h9 => h9) rfl (by decide +kernel) (by rfl) (by rfl) (by exact Nat.le_of_ble_eq_true rfl) d_Mo_feed_23 (fun H locs hP hD hS => ?_)
    have hP : va_P g.1 pc_cl [(y, .inr (5, [.ref ta, .ref oa, .ref ma, .int (nI n2_3), .int vo, .int vm, .ref ca, .ref na, .ref la, .int vc, .int vk, .int va, .int (nI 1)])), (ta, .inl (g.2.1, 32768, .inl (bA t2_4)))] H := hP
    have hD : va_D A [(y, .inr (5, [.ref ta, .ref oa, .ref ma, .int (nI n2_3), .int vo, .int vm, .ref ca, .ref na, .ref la, .int vc, .int vk, .int va, .int (nI 1)])), (ta, .inl (g.2.1, 32768, .inl (bA t2_4)))] := hD
    exact hR _ _ 26 _ (n2_3, t2_4, 1) d_Mo_feed_26 (Or.inr (⟨rfl, hw_8, hw_9, hw_10, rfl⟩)) (hP.sub [0, 1] rfl) (hD.sub [0, 1] (by decide) rfl) hS
abbrev rm_Mo_end : Room := { frames := 7, cells := 1, slots := 6, locals := 103 }
set_option maxHeartbeats 1000000 in
set_option maxRecDepth 100000 in
/-- end, with what is thrown -/
theorem c_Mo_end (l : Launch) (htr : l.stackTraces = false) (g : pc_G) (y : Nat) (ta : Nat) (oa : Nat) (ma : Nat) (ca : Nat) (na : Nat) (la : Nat) (vo : Int32) (vm : Int32) (vc : Int32) (vk : Int32) (va : Int32) (vt : Int32) (n : Nat) (k : Int32) (hn : n ≤ 32768) : pc_X (S := Nat × Nat) l y_Mo_end (.codeWith y_Mo_end prog_11_method_30_code 3 (some .int) [(5, 10, 11, 37)]) (some .int) rm_Mo_end g [(y, .inr (5, [.ref ta, .ref oa, .ref ma, .int (nI n), .int vo, .int vm, .ref ca, .ref na, .ref la, .int vc, .int vk, .int va, .int vt]))] [.ref y, .int k] (fun rv u => (rv = .inl (nI (n - iN k)) ∧ ¬ k < 0 ∧ iN k ≤ n ∧ u.1 = iN k ∧ u.2 = 0) ∨ (rv = .inl (nI 0) ∧ (k < 0 ∨ n < iN k) ∧ u.1 = n ∧ u.2 = 1)) (fun u => [(y, .inr (5, [.ref ta, .ref oa, .ref ma, .int (nI u.1), .int vo, .int vm, .ref ca, .ref na, .ref la, .int vc, .int vk, .int va, .int (nI u.2)]))]) := by
  refine pc_X.of (cc := prog_11_method_30_code) (nL := 3) (rt := (some .int)) (hh := [(5, 10, 11, 37)]) (by decide) tx_wd.with (by exact Nat.le_of_ble_eq_true rfl) htr ?_
  intro p e s m below meth c A Q hx hb hml hown hE hA htab hR hT hO hP hD ls hl
  have hS : va_S A s.heap s.heap [] := va_S.rf
  have hl : lv_has ls 3 [(0, .ref y), (1, .int k)] := hl
  refine lv_aload_n hx hb d_Mo_end_0 rfl (lv_at hl 0 rfl) ?_
  refine lv_iconst (v := nI 0) hx hb d_Mo_end_1 (by decide) ?_
  refine va_put (ci := 5) (ty := .int) (C := R_Mo) (T := F_Mo) (N := 13) hx hb hE.hts in_Mo t_Mo tk_Mo nn_Mo hown hE.2.1 hP hD hS 0 rfl rfl 12 (by decide) (hE.w m_502) (fun _ h9 => h9) rfl (by decide +kernel) (by rfl) (by rfl) (by exact Nat.le_of_ble_eq_true rfl) d_Mo_end_2 (fun H locs hP hD hS => ?_)
  have hP : va_P g.1 pc_cl [(y, .inr (5, [.ref ta, .ref oa, .ref ma, .int (nI n), .int vo, .int vm, .ref ca, .ref na, .ref la, .int vc, .int vk, .int va, .int (nI 0)]))] H := hP
  have hD : va_D A [(y, .inr (5, [.ref ta, .ref oa, .ref ma, .int (nI n), .int vo, .int vm, .ref ca, .ref na, .ref la, .int vc, .int vk, .int va, .int (nI 0)]))] := hD
  refine lv_aload_n hx hb d_Mo_end_5 rfl (lv_at hl 0 rfl) ?_
  refine lv_iload_n hx hb d_Mo_end_6 rfl (lv_at hl 1 rfl) ?_
  refine pc_x (rt := (some .int)) (wc := [(y, .inr (5, [.ref ta, .ref oa, .ref ma, .int (nI n), .int vo, .int vm, .ref ca, .ref na, .ref la, .int vc, .int vk, .int va, .int (nI 0)]))]) (wr := []) (cells' := 1) (slots' := 6) hP hD hS hA [0] [] rfl rfl (by decide) (by decide) rfl rfl (tx_runV (n := 1) (As := [.int k]) (rest := []) (C := R_Mo) hE hx hb hml hown (c_Mo_end0 l htr g y ta oa ma ca na la vo vm vc vk va (nI 0) n k hn _) (fun U9 hW9 => tx_wd.plain.cd (hE.1.at hW9 m_552 #[])) m_552 m_5 m_549 m_551 ms_22 (by decide +kernel) (pc_preV (ci := 5) (q0 := 0) hP hD hE hS hA [0] (by decide) rfl [.int k] rfl rfl) ⟨by exact Nat.le_of_ble_eq_true rfl, by exact Nat.le_of_ble_eq_true rfl⟩ rfl rfl hl.1 rfl (lv_room (by exact Nat.le_of_ble_eq_true rfl)) d_Mo_end_7 ⟨by exact Nat.le_of_ble_eq_true rfl, by exact Nat.le_of_ble_eq_true rfl⟩) (fun r_2 u_1 H locs hw hP hD hS => ?_)
  obtain ⟨n2_3, rfl⟩ : ∃ z, z = u_1 := ⟨_, rfl⟩
  have hP : va_P g.1 pc_cl [(y, .inr (5, [.ref ta, .ref oa, .ref ma, .int (nI n2_3), .int vo, .int vm, .ref ca, .ref na, .ref la, .int vc, .int vk, .int va, .int (nI 0)]))] H := hP
  have hD : va_D A [(y, .inr (5, [.ref ta, .ref oa, .ref ma, .int (nI n2_3), .int vo, .int vm, .ref ca, .ref na, .ref la, .int vc, .int vk, .int va, .int (nI 0)]))] := hD
  rcases hw with ⟨rfl, hw_4, hw_5, hw_6⟩ | ⟨rfl, hw_7, hw_8⟩
  · skip
    have hw_4 : ¬ k < 0 := hw_4
    have hw_5 : iN k ≤ n := hw_5
    have hw_6 : n2_3 = iN k := hw_6
    refine tx_onI ?_
    exact hR _ _ 10 _ (nI (n - iN k)) (n2_3, 0) d_Mo_end_10 rfl (Or.inl (⟨rfl, hw_4, hw_5, hw_6, rfl⟩)) (hP.sub [0] rfl) (hD.sub [0] (by decide) rfl) hS
  · skip
    have hw_7 : k < 0 ∨ n < iN k := hw_7
    have hw_8 : n2_3 = n := hw_8
    refine tx_onX (fun q_9 ce hq1 hq2 hq3 => ?_)
    refine tx_catch (name := "java/lang/IllegalArgumentException") (E := "java/lang/IllegalArgumentException") hE hown [] ⟨5, 10, 11, 37⟩ [] htab (fun z hz => nomatch hz) (by decide) (by decide) m_548 m_199 hq1 hq2 hq3 ?_
    refine W.eq (g2 := F0 m 11 ls [.ref q_9]) rfl ?_
    refine lv_astore_n (lv' := [(2, .ref q_9), (0, .ref y), (1, .int k)]) hx hb d_Mo_end_11 rfl hl (by decide) rfl (fun ls hl => ?_)
    refine lv_aload_n hx hb d_Mo_end_12 rfl (lv_at hl 1 rfl) ?_
    refine lv_iconst (v := nI 1) hx hb d_Mo_end_13 (by decide) ?_
    refine va_put (ci := 5) (ty := .int) (C := R_Mo) (T := F_Mo) (N := 13) hx hb hE.hts in_Mo t_Mo tk_Mo nn_Mo hown hE.2.1 hP hD hS 0 rfl rfl 12 (by decide) (hE.w m_502) (fun _ h9 => h9) rfl (by decide +kernel) (by rfl) (by rfl) (by exact Nat.le_of_ble_eq_true rfl) d_Mo_end_14 (fun H locs hP hD hS => ?_)
    have hP : va_P g.1 pc_cl [(y, .inr (5, [.ref ta, .ref oa, .ref ma, .int (nI n2_3), .int vo, .int vm, .ref ca, .ref na, .ref la, .int vc, .int vk, .int va, .int (nI 1)]))] H := hP
    have hD : va_D A [(y, .inr (5, [.ref ta, .ref oa, .ref ma, .int (nI n2_3), .int vo, .int vm, .ref ca, .ref na, .ref la, .int vc, .int vk, .int va, .int (nI 1)]))] := hD
    refine lv_iconst (v := nI 0) hx hb d_Mo_end_17 (by decide) ?_
    exact hR _ _ 18 _ (nI 0) (n2_3, 1) d_Mo_end_18 rfl (Or.inr (⟨rfl, hw_7, hw_8, rfl⟩)) (hP.sub [0] rfl) (hD.sub [0] (by decide) rfl) hS
abbrev rm_Mo_pack : Room := { frames := 7, cells := 1, slots := 6, locals := 108 }
set_option maxHeartbeats 1000000 in
set_option maxRecDepth 100000 in
/-- pack, with what is thrown -/
theorem c_Mo_pack (l : Launch) (htr : l.stackTraces = false) (g : pc_G) (y : Nat) (ta : Nat) (oa : Nat) (ma : Nat) (ca : Nat) (na : Nat) (la : Nat) (vo : Int32) (vm : Int32) (vc : Int32) (vk : Int32) (va : Int32) (vt : Int32) (n : Nat) (t : Nat → UInt8) (mt : Nat → UInt8) (ot : Nat → UInt8) (hn : n ≤ 32768) : pc_X (S := Nat × Nat × (Nat → UInt8) × Int32 × (Nat → UInt8) × Nat × Nat) l y_Mo_pack (.codeWith y_Mo_pack prog_11_method_31_code 2 (some .int) [(5, 9, 10, 34)]) (some .int) rm_Mo_pack g [(y, .inr (5, [.ref ta, .ref oa, .ref ma, .int (nI n), .int vo, .int vm, .ref ca, .ref na, .ref la, .int vc, .int vk, .int va, .int vt])), (ta, .inl (g.2.1, 32768, .inl (bA t))), (ma, .inl (g.2.1, 32768, .inl (bA mt))), (oa, .inl (g.2.1, 32768, .inl (bA ot)))] [.ref y] (fun rv u => (rv = .inl (nI u.2.2.2.2.2.1) ∧ bl u.2.2.2.2.1 u.2.2.2.2.2.1 = packL (bl t n) ∧ u.2.2.2.2.2.1 ≤ 32768 ∧ u.1 = 0 ∧ u.2.2.2.1 = nI u.2.2.2.2.2.1 ∧ u.2.2.2.2.2.2 = 0) ∨ (rv = .inl (nI 0) ∧ 32768 < (packL (bl t n)).length ∧ u.1 = n ∧ u.2.2.2.1 = vo ∧ u.2.2.2.2.1 = ot ∧ u.2.2.2.2.2.2 = 1)) (fun u => [(y, .inr (5, [.ref ta, .ref oa, .ref ma, .int (nI u.1), .int u.2.2.2.1, .int (nI u.2.1), .ref ca, .ref na, .ref la, .int vc, .int vk, .int va, .int (nI u.2.2.2.2.2.2)])), (ta, .inl (g.2.1, 32768, .inl (bA t))), (ma, .inl (g.2.1, 32768, .inl (bA u.2.2.1))), (oa, .inl (g.2.1, 32768, .inl (bA u.2.2.2.2.1)))]) := by
  refine pc_X.of (cc := prog_11_method_31_code) (nL := 2) (rt := (some .int)) (hh := [(5, 9, 10, 34)]) (by decide) tx_wd.with (by exact Nat.le_of_ble_eq_true rfl) htr ?_
  intro p e s m below meth c A Q hx hb hml hown hE hA htab hR hT hO hP hD ls hl
  have hS : va_S A s.heap s.heap [] := va_S.rf
  have hl : lv_has ls 2 [(0, .ref y)] := hl
  refine lv_aload_n hx hb d_Mo_pack_0 rfl (lv_at hl 0 rfl) ?_
  refine lv_iconst (v := nI 0) hx hb d_Mo_pack_1 (by decide) ?_
  refine va_put (ci := 5) (ty := .int) (C := R_Mo) (T := F_Mo) (N := 13) hx hb hE.hts in_Mo t_Mo tk_Mo nn_Mo hown hE.2.1 hP hD hS 0 rfl rfl 12 (by decide) (hE.w m_502) (fun _ h9 => h9) rfl (by decide +kernel) (by rfl) (by rfl) (by exact Nat.le_of_ble_eq_true rfl) d_Mo_pack_2 (fun H locs hP hD hS => ?_)
  have hP : va_P g.1 pc_cl [(y, .inr (5, [.ref ta, .ref oa, .ref ma, .int (nI n), .int vo, .int vm, .ref ca, .ref na, .ref la, .int vc, .int vk, .int va, .int (nI 0)])), (ta, .inl (g.2.1, 32768, .inl (bA t))), (ma, .inl (g.2.1, 32768, .inl (bA mt))), (oa, .inl (g.2.1, 32768, .inl (bA ot)))] H := hP
  have hD : va_D A [(y, .inr (5, [.ref ta, .ref oa, .ref ma, .int (nI n), .int vo, .int vm, .ref ca, .ref na, .ref la, .int vc, .int vk, .int va, .int (nI 0)])), (ta, .inl (g.2.1, 32768, .inl (bA t))), (ma, .inl (g.2.1, 32768, .inl (bA mt))), (oa, .inl (g.2.1, 32768, .inl (bA ot)))] := hD
  refine lv_aload_n hx hb d_Mo_pack_5 rfl (lv_at hl 0 rfl) ?_
  refine pc_x (rt := (some .int)) (wc := [(y, .inr (5, [.ref ta, .ref oa, .ref ma, .int (nI n), .int vo, .int vm, .ref ca, .ref na, .ref la, .int vc, .int vk, .int va, .int (nI 0)])), (ta, .inl (g.2.1, 32768, .inl (bA t))), (ma, .inl (g.2.1, 32768, .inl (bA mt))), (oa, .inl (g.2.1, 32768, .inl (bA ot)))]) (wr := []) (cells' := 1) (slots' := 6) hP hD hS hA [0, 1, 2, 3] [] rfl rfl (by decide) (by decide) rfl rfl (tx_runV (n := 0) (As := []) (rest := []) (C := R_Mo) hE hx hb hml hown (c_Mo_pack0 l htr g y ta oa ma ca na la vo vm vc vk va (nI 0) n t mt ot hn _) (fun U9 hW9 => tx_wd.plain.cd (hE.1.at hW9 m_561 #[])) m_561 m_5 m_558 m_560 ms_23 (by decide +kernel) (pc_preV (ci := 5) (q0 := 0) hP hD hE hS hA [0, 1, 2, 3] (by decide) rfl [] rfl rfl) ⟨by exact Nat.le_of_ble_eq_true rfl, by exact Nat.le_of_ble_eq_true rfl⟩ rfl rfl hl.1 rfl (lv_room (by exact Nat.le_of_ble_eq_true rfl)) d_Mo_pack_6 ⟨by exact Nat.le_of_ble_eq_true rfl, by exact Nat.le_of_ble_eq_true rfl⟩) (fun r_2 u_1 H locs hw hP hD hS => ?_)
  obtain ⟨n2_3, m2_4, mt2_5, o2_6, t3_7, n3_8⟩ := u_1
  have hP : va_P g.1 pc_cl [(y, .inr (5, [.ref ta, .ref oa, .ref ma, .int (nI n2_3), .int o2_6, .int (nI m2_4), .ref ca, .ref na, .ref la, .int vc, .int vk, .int va, .int (nI 0)])), (ta, .inl (g.2.1, 32768, .inl (bA t))), (ma, .inl (g.2.1, 32768, .inl (bA mt2_5))), (oa, .inl (g.2.1, 32768, .inl (bA t3_7)))] H := hP
  have hD : va_D A [(y, .inr (5, [.ref ta, .ref oa, .ref ma, .int (nI n2_3), .int o2_6, .int (nI m2_4), .ref ca, .ref na, .ref la, .int vc, .int vk, .int va, .int (nI 0)])), (ta, .inl (g.2.1, 32768, .inl (bA t))), (ma, .inl (g.2.1, 32768, .inl (bA mt2_5))), (oa, .inl (g.2.1, 32768, .inl (bA t3_7)))] := hD
  rcases hw with ⟨rfl, hw_9, hw_10, hw_11, hw_12⟩ | ⟨rfl, hw_13, hw_14, hw_15, hw_16⟩
  · skip
    have hw_9 : bl t3_7 n3_8 = packL (bl t n) := hw_9
    have hw_10 : n3_8 ≤ 32768 := hw_10
    have hw_11 : n2_3 = 0 := hw_11
    have hw_12 : o2_6 = nI n3_8 := hw_12
    refine tx_onI ?_
    exact hR _ _ 9 _ (nI n3_8) (n2_3, m2_4, mt2_5, o2_6, t3_7, n3_8, 0) d_Mo_pack_9 rfl (Or.inl (⟨rfl, hw_9, hw_10, hw_11, hw_12, rfl⟩)) (hP.sub [0, 1, 2, 3] rfl) (hD.sub [0, 1, 2, 3] (by decide) rfl) hS
  · skip
    have hw_13 : 32768 < (packL (bl t n)).length := hw_13
    have hw_14 : n2_3 = n := hw_14
    have hw_15 : o2_6 = vo := hw_15
    have hw_16 : t3_7 = ot := hw_16
    refine tx_onX (fun q_17 ce hq1 hq2 hq3 => ?_)
    refine tx_catch (name := "java/lang/IllegalStateException") (E := "java/lang/IllegalStateException") hE hown [] ⟨5, 9, 10, 34⟩ [] htab (fun z hz => nomatch hz) (by decide) (by decide) m_538 m_120 hq1 hq2 hq3 ?_
    refine W.eq (g2 := F0 m 10 ls [.ref q_17]) rfl ?_
    refine lv_astore_n (lv' := [(1, .ref q_17), (0, .ref y)]) hx hb d_Mo_pack_10 rfl hl (by decide) rfl (fun ls hl => ?_)
    refine lv_aload_n hx hb d_Mo_pack_11 rfl (lv_at hl 1 rfl) ?_
    refine lv_iconst (v := nI 1) hx hb d_Mo_pack_12 (by decide) ?_
    refine va_put (ci := 5) (ty := .int) (C := R_Mo) (T := F_Mo) (N := 13) hx hb hE.hts in_Mo t_Mo tk_Mo nn_Mo hown hE.2.1 hP hD hS 0 rfl rfl 12 (by decide) (hE.w m_502) (fun _ h9 => h9) rfl (by decide +kernel) (by rfl) (by rfl) (by exact Nat.le_of_ble_eq_true rfl) d_Mo_pack_13 (fun H locs hP hD hS => ?_)
    have hP : va_P g.1 pc_cl [(y, .inr (5, [.ref ta, .ref oa, .ref ma, .int (nI n2_3), .int o2_6, .int (nI m2_4), .ref ca, .ref na, .ref la, .int vc, .int vk, .int va, .int (nI 1)])), (ta, .inl (g.2.1, 32768, .inl (bA t))), (ma, .inl (g.2.1, 32768, .inl (bA mt2_5))), (oa, .inl (g.2.1, 32768, .inl (bA t3_7)))] H := hP
    have hD : va_D A [(y, .inr (5, [.ref ta, .ref oa, .ref ma, .int (nI n2_3), .int o2_6, .int (nI m2_4), .ref ca, .ref na, .ref la, .int vc, .int vk, .int va, .int (nI 1)])), (ta, .inl (g.2.1, 32768, .inl (bA t))), (ma, .inl (g.2.1, 32768, .inl (bA mt2_5))), (oa, .inl (g.2.1, 32768, .inl (bA t3_7)))] := hD
    refine lv_iconst (v := nI 0) hx hb d_Mo_pack_16 (by decide) ?_
    exact hR _ _ 17 _ (nI 0) (n2_3, m2_4, mt2_5, o2_6, t3_7, n3_8, 1) d_Mo_pack_17 rfl (Or.inr (⟨rfl, hw_13, hw_14, hw_15, hw_16, rfl⟩)) (hP.sub [0, 1, 2, 3] rfl) (hD.sub [0, 1, 2, 3] (by decide) rfl) hS
abbrev rm_Mo_unpack : Room := { frames := 7, cells := 1, slots := 6, locals := 102 }
set_option maxHeartbeats 1000000 in
set_option maxRecDepth 100000 in
/-- unpack, with what is thrown -/
theorem c_Mo_unpack (l : Launch) (htr : l.stackTraces = false) (g : pc_G) (y : Nat) (ta : Nat) (oa : Nat) (ma : Nat) (ca : Nat) (na : Nat) (la : Nat) (vo : Int32) (vm : Int32) (vc : Int32) (vk : Int32) (va : Int32) (vt : Int32) (n : Nat) (t : Nat → UInt8) (mt : Nat → UInt8) (ot : Nat → UInt8) (hn : n ≤ 32768) : pc_X (S := Nat × Nat × (Nat → UInt8) × Int32 × (Nat → UInt8) × Nat × Nat) l y_Mo_unpack (.codeWith y_Mo_unpack prog_11_method_32_code 2 (some .int) [(5, 9, 10, 37)]) (some .int) rm_Mo_unpack g [(y, .inr (5, [.ref ta, .ref oa, .ref ma, .int (nI n), .int vo, .int vm, .ref ca, .ref na, .ref la, .int vc, .int vk, .int va, .int vt])), (ta, .inl (g.2.1, 32768, .inl (bA t))), (ma, .inl (g.2.1, 32768, .inl (bA mt))), (oa, .inl (g.2.1, 32768, .inl (bA ot)))] [.ref y] (fun rv u => (rv = .inl (nI u.2.2.2.2.2.1) ∧ unP (bl t n) 0 = some (bl u.2.2.2.2.1 u.2.2.2.2.2.1) ∧ u.2.2.2.2.2.1 ≤ 32768 ∧ u.2.2.2.1 = nI u.2.2.2.2.2.1 ∧ u.2.2.2.2.2.2 = 0) ∨ (rv = .inl (nI 0) ∧ unP (bl t n) 0 = none ∧ u.2.2.2.1 = vo ∧ u.2.2.2.2.1 = ot ∧ u.2.2.2.2.2.2 = 1)) (fun u => [(y, .inr (5, [.ref ta, .ref oa, .ref ma, .int (nI 0), .int u.2.2.2.1, .int (nI u.2.1), .ref ca, .ref na, .ref la, .int vc, .int vk, .int (nI u.1), .int (nI u.2.2.2.2.2.2)])), (ta, .inl (g.2.1, 32768, .inl (bA t))), (ma, .inl (g.2.1, 32768, .inl (bA u.2.2.1))), (oa, .inl (g.2.1, 32768, .inl (bA u.2.2.2.2.1)))]) := by
  refine pc_X.of (cc := prog_11_method_32_code) (nL := 2) (rt := (some .int)) (hh := [(5, 9, 10, 37)]) (by decide) tx_wd.with (by exact Nat.le_of_ble_eq_true rfl) htr ?_
  intro p e s m below meth c A Q hx hb hml hown hE hA htab hR hT hO hP hD ls hl
  have hS : va_S A s.heap s.heap [] := va_S.rf
  have hl : lv_has ls 2 [(0, .ref y)] := hl
  refine lv_aload_n hx hb d_Mo_unpack_0 rfl (lv_at hl 0 rfl) ?_
  refine lv_iconst (v := nI 0) hx hb d_Mo_unpack_1 (by decide) ?_
  refine va_put (ci := 5) (ty := .int) (C := R_Mo) (T := F_Mo) (N := 13) hx hb hE.hts in_Mo t_Mo tk_Mo nn_Mo hown hE.2.1 hP hD hS 0 rfl rfl 12 (by decide) (hE.w m_502) (fun _ h9 => h9) rfl (by decide +kernel) (by rfl) (by rfl) (by exact Nat.le_of_ble_eq_true rfl) d_Mo_unpack_2 (fun H locs hP hD hS => ?_)
  have hP : va_P g.1 pc_cl [(y, .inr (5, [.ref ta, .ref oa, .ref ma, .int (nI n), .int vo, .int vm, .ref ca, .ref na, .ref la, .int vc, .int vk, .int va, .int (nI 0)])), (ta, .inl (g.2.1, 32768, .inl (bA t))), (ma, .inl (g.2.1, 32768, .inl (bA mt))), (oa, .inl (g.2.1, 32768, .inl (bA ot)))] H := hP
  have hD : va_D A [(y, .inr (5, [.ref ta, .ref oa, .ref ma, .int (nI n), .int vo, .int vm, .ref ca, .ref na, .ref la, .int vc, .int vk, .int va, .int (nI 0)])), (ta, .inl (g.2.1, 32768, .inl (bA t))), (ma, .inl (g.2.1, 32768, .inl (bA mt))), (oa, .inl (g.2.1, 32768, .inl (bA ot)))] := hD
  refine lv_aload_n hx hb d_Mo_unpack_5 rfl (lv_at hl 0 rfl) ?_
  refine pc_x (rt := (some .int)) (wc := [(y, .inr (5, [.ref ta, .ref oa, .ref ma, .int (nI n), .int vo, .int vm, .ref ca, .ref na, .ref la, .int vc, .int vk, .int va, .int (nI 0)])), (ta, .inl (g.2.1, 32768, .inl (bA t))), (ma, .inl (g.2.1, 32768, .inl (bA mt))), (oa, .inl (g.2.1, 32768, .inl (bA ot)))]) (wr := []) (cells' := 1) (slots' := 6) hP hD hS hA [0, 1, 2, 3] [] rfl rfl (by decide) (by decide) rfl rfl (tx_runV (n := 0) (As := []) (rest := []) (C := R_Mo) hE hx hb hml hown (c_Mo_unpack0 l htr g y ta oa ma ca na la vo vm vc vk va (nI 0) n t mt ot hn _) (fun U9 hW9 => tx_wd.plain.cd (hE.1.at hW9 m_590 #[])) m_590 m_5 m_587 m_589 ms_29 (by decide +kernel) (pc_preV (ci := 5) (q0 := 0) hP hD hE hS hA [0, 1, 2, 3] (by decide) rfl [] rfl rfl) ⟨by exact Nat.le_of_ble_eq_true rfl, by exact Nat.le_of_ble_eq_true rfl⟩ rfl rfl hl.1 rfl (lv_room (by exact Nat.le_of_ble_eq_true rfl)) d_Mo_unpack_6 ⟨by exact Nat.le_of_ble_eq_true rfl, by exact Nat.le_of_ble_eq_true rfl⟩) (fun r_2 u_1 H locs hw hP hD hS => ?_)
  obtain ⟨a2_3, m2_4, mt2_5, o2_6, t3_7, n3_8⟩ := u_1
  have hP : va_P g.1 pc_cl [(y, .inr (5, [.ref ta, .ref oa, .ref ma, .int (nI 0), .int o2_6, .int (nI m2_4), .ref ca, .ref na, .ref la, .int vc, .int vk, .int (nI a2_3), .int (nI 0)])), (ta, .inl (g.2.1, 32768, .inl (bA t))), (ma, .inl (g.2.1, 32768, .inl (bA mt2_5))), (oa, .inl (g.2.1, 32768, .inl (bA t3_7)))] H := hP
  have hD : va_D A [(y, .inr (5, [.ref ta, .ref oa, .ref ma, .int (nI 0), .int o2_6, .int (nI m2_4), .ref ca, .ref na, .ref la, .int vc, .int vk, .int (nI a2_3), .int (nI 0)])), (ta, .inl (g.2.1, 32768, .inl (bA t))), (ma, .inl (g.2.1, 32768, .inl (bA mt2_5))), (oa, .inl (g.2.1, 32768, .inl (bA t3_7)))] := hD
  rcases hw with ⟨rfl, hw_9, hw_10, hw_11⟩ | ⟨rfl, hw_12, hw_13, hw_14⟩
  · skip
    have hw_9 : unP (bl t n) 0 = some (bl t3_7 n3_8) := hw_9
    have hw_10 : n3_8 ≤ 32768 := hw_10
    have hw_11 : o2_6 = nI n3_8 := hw_11
    refine tx_onI ?_
    exact hR _ _ 9 _ (nI n3_8) (a2_3, m2_4, mt2_5, o2_6, t3_7, n3_8, 0) d_Mo_unpack_9 rfl (Or.inl (⟨rfl, hw_9, hw_10, hw_11, rfl⟩)) (hP.sub [0, 1, 2, 3] rfl) (hD.sub [0, 1, 2, 3] (by decide) rfl) hS
  · skip
    have hw_12 : unP (bl t n) 0 = none := hw_12
    have hw_13 : o2_6 = vo := hw_13
    have hw_14 : t3_7 = ot := hw_14
    refine tx_onX (fun q_15 ce hq1 hq2 hq3 => ?_)
    refine tx_catch (name := "java/lang/IllegalArgumentException") (E := "java/lang/IllegalArgumentException") hE hown [] ⟨5, 9, 10, 37⟩ [] htab (fun z hz => nomatch hz) (by decide) (by decide) m_548 m_199 hq1 hq2 hq3 ?_
    refine W.eq (g2 := F0 m 10 ls [.ref q_15]) rfl ?_
    refine lv_astore_n (lv' := [(1, .ref q_15), (0, .ref y)]) hx hb d_Mo_unpack_10 rfl hl (by decide) rfl (fun ls hl => ?_)
    refine lv_aload_n hx hb d_Mo_unpack_11 rfl (lv_at hl 1 rfl) ?_
    refine lv_iconst (v := nI 1) hx hb d_Mo_unpack_12 (by decide) ?_
    refine va_put (ci := 5) (ty := .int) (C := R_Mo) (T := F_Mo) (N := 13) hx hb hE.hts in_Mo t_Mo tk_Mo nn_Mo hown hE.2.1 hP hD hS 0 rfl rfl 12 (by decide) (hE.w m_502) (fun _ h9 => h9) rfl (by decide +kernel) (by rfl) (by rfl) (by exact Nat.le_of_ble_eq_true rfl) d_Mo_unpack_13 (fun H locs hP hD hS => ?_)
    have hP : va_P g.1 pc_cl [(y, .inr (5, [.ref ta, .ref oa, .ref ma, .int (nI 0), .int o2_6, .int (nI m2_4), .ref ca, .ref na, .ref la, .int vc, .int vk, .int (nI a2_3), .int (nI 1)])), (ta, .inl (g.2.1, 32768, .inl (bA t))), (ma, .inl (g.2.1, 32768, .inl (bA mt2_5))), (oa, .inl (g.2.1, 32768, .inl (bA t3_7)))] H := hP
    have hD : va_D A [(y, .inr (5, [.ref ta, .ref oa, .ref ma, .int (nI 0), .int o2_6, .int (nI m2_4), .ref ca, .ref na, .ref la, .int vc, .int vk, .int (nI a2_3), .int (nI 1)])), (ta, .inl (g.2.1, 32768, .inl (bA t))), (ma, .inl (g.2.1, 32768, .inl (bA mt2_5))), (oa, .inl (g.2.1, 32768, .inl (bA t3_7)))] := hD
    refine lv_iconst (v := nI 0) hx hb d_Mo_unpack_16 (by decide) ?_
    exact hR _ _ 17 _ (nI 0) (a2_3, m2_4, mt2_5, o2_6, t3_7, n3_8, 1) d_Mo_unpack_17 rfl (Or.inr (⟨rfl, hw_12, hw_13, hw_14, rfl⟩)) (hP.sub [0, 1, 2, 3] rfl) (hD.sub [0, 1, 2, 3] (by decide) rfl) hS
abbrev rm_Mo_text : Room := { frames := 7, cells := 1, slots := 6, locals := 105 }
set_option maxHeartbeats 1000000 in
set_option maxRecDepth 100000 in
/-- text, with what is thrown -/
theorem c_Mo_text (l : Launch) (htr : l.stackTraces = false) (g : pc_G) (y : Nat) (ta : Nat) (oa : Nat) (ma : Nat) (ca : Nat) (na : Nat) (la : Nat) (vo : Int32) (vm : Int32) (vc : Int32) (vk : Int32) (va : Int32) (vt : Int32) (n : Nat) (t : Nat → UInt8) (lf : Nat → Int32) (nf : Nat → Int32) (hn : n ≤ 32768) : pc_X (S := Int32 × (Nat → Int32) × (Nat → Int32) × Nat × Nat) l y_Mo_text (.codeWith y_Mo_text prog_11_method_33_code 2 (some .int) [(5, 9, 10, 37)]) (some .int) rm_Mo_text g [(y, .inr (5, [.ref ta, .ref oa, .ref ma, .int (nI n), .int vo, .int vm, .ref ca, .ref na, .ref la, .int vc, .int vk, .int va, .int vt])), (ta, .inl (g.2.1, 32768, .inl (bA t))), (la, .inl (g.2.2.1, 32768, .inl lf)), (ca, .inl (g.2.2.1, 32768, .inl nf))] [.ref y] (fun rv u => (rv = .inl (nI u.2.2.2.1) ∧ (∃ ns : List Nat, chsA (bl t n) (n + 1) 0 [] = some ns ∧ u.2.2.2.1 = ns.length ∧ u.2.2.2.1 ≤ 32768 ∧ ∀ j, j < u.2.2.2.1 → u.2.2.1 j = nI (ns.getD j 0)) ∧ u.1 = nI u.2.2.2.1 ∧ u.2.2.2.2 = 0) ∨ (rv = .inl (nI 0) ∧ chsA (bl t n) (n + 1) 0 [] = none ∧ u.1 = vc ∧ u.2.2.1 = nf ∧ u.2.2.2.2 = 1)) (fun u => [(y, .inr (5, [.ref ta, .ref oa, .ref ma, .int (nI 0), .int vo, .int vm, .ref ca, .ref na, .ref la, .int u.1, .int vk, .int va, .int (nI u.2.2.2.2)])), (ta, .inl (g.2.1, 32768, .inl (bA t))), (la, .inl (g.2.2.1, 32768, .inl u.2.1)), (ca, .inl (g.2.2.1, 32768, .inl u.2.2.1))]) := by
  refine pc_X.of (cc := prog_11_method_33_code) (nL := 2) (rt := (some .int)) (hh := [(5, 9, 10, 37)]) (by decide) tx_wd.with (by exact Nat.le_of_ble_eq_true rfl) htr ?_
  intro p e s m below meth c A Q hx hb hml hown hE hA htab hR hT hO hP hD ls hl
  have hS : va_S A s.heap s.heap [] := va_S.rf
  have hl : lv_has ls 2 [(0, .ref y)] := hl
  refine lv_aload_n hx hb d_Mo_text_0 rfl (lv_at hl 0 rfl) ?_
  refine lv_iconst (v := nI 0) hx hb d_Mo_text_1 (by decide) ?_
  refine va_put (ci := 5) (ty := .int) (C := R_Mo) (T := F_Mo) (N := 13) hx hb hE.hts in_Mo t_Mo tk_Mo nn_Mo hown hE.2.1 hP hD hS 0 rfl rfl 12 (by decide) (hE.w m_502) (fun _ h9 => h9) rfl (by decide +kernel) (by rfl) (by rfl) (by exact Nat.le_of_ble_eq_true rfl) d_Mo_text_2 (fun H locs hP hD hS => ?_)
  have hP : va_P g.1 pc_cl [(y, .inr (5, [.ref ta, .ref oa, .ref ma, .int (nI n), .int vo, .int vm, .ref ca, .ref na, .ref la, .int vc, .int vk, .int va, .int (nI 0)])), (ta, .inl (g.2.1, 32768, .inl (bA t))), (la, .inl (g.2.2.1, 32768, .inl lf)), (ca, .inl (g.2.2.1, 32768, .inl nf))] H := hP
  have hD : va_D A [(y, .inr (5, [.ref ta, .ref oa, .ref ma, .int (nI n), .int vo, .int vm, .ref ca, .ref na, .ref la, .int vc, .int vk, .int va, .int (nI 0)])), (ta, .inl (g.2.1, 32768, .inl (bA t))), (la, .inl (g.2.2.1, 32768, .inl lf)), (ca, .inl (g.2.2.1, 32768, .inl nf))] := hD
  refine lv_aload_n hx hb d_Mo_text_5 rfl (lv_at hl 0 rfl) ?_
  refine pc_x (rt := (some .int)) (wc := [(y, .inr (5, [.ref ta, .ref oa, .ref ma, .int (nI n), .int vo, .int vm, .ref ca, .ref na, .ref la, .int vc, .int vk, .int va, .int (nI 0)])), (ta, .inl (g.2.1, 32768, .inl (bA t))), (la, .inl (g.2.2.1, 32768, .inl lf)), (ca, .inl (g.2.2.1, 32768, .inl nf))]) (wr := []) (cells' := 1) (slots' := 6) hP hD hS hA [0, 1, 2, 3] [] rfl rfl (by decide) (by decide) rfl rfl (tx_runV (n := 0) (As := []) (rest := []) (C := R_Mo) hE hx hb hml hown (c_Mo_text0 l htr g y ta oa ma ca na la vo vm vc vk va (nI 0) n t lf nf hn _) (fun U9 hW9 => tx_wd.plain.cd (hE.1.at hW9 m_607 #[])) m_607 m_5 m_604 m_606 ms_32 (by decide +kernel) (pc_preV (ci := 5) (q0 := 0) hP hD hE hS hA [0, 1, 2, 3] (by decide) rfl [] rfl rfl) ⟨by exact Nat.le_of_ble_eq_true rfl, by exact Nat.le_of_ble_eq_true rfl⟩ rfl rfl hl.1 rfl (lv_room (by exact Nat.le_of_ble_eq_true rfl)) d_Mo_text_6 ⟨by exact Nat.le_of_ble_eq_true rfl, by exact Nat.le_of_ble_eq_true rfl⟩) (fun r_2 u_1 H locs hw hP hD hS => ?_)
  obtain ⟨k2_3, lf2_4, f3_5, n3_6⟩ := u_1
  have hP : va_P g.1 pc_cl [(y, .inr (5, [.ref ta, .ref oa, .ref ma, .int (nI 0), .int vo, .int vm, .ref ca, .ref na, .ref la, .int k2_3, .int vk, .int va, .int (nI 0)])), (ta, .inl (g.2.1, 32768, .inl (bA t))), (la, .inl (g.2.2.1, 32768, .inl lf2_4)), (ca, .inl (g.2.2.1, 32768, .inl f3_5))] H := hP
  have hD : va_D A [(y, .inr (5, [.ref ta, .ref oa, .ref ma, .int (nI 0), .int vo, .int vm, .ref ca, .ref na, .ref la, .int k2_3, .int vk, .int va, .int (nI 0)])), (ta, .inl (g.2.1, 32768, .inl (bA t))), (la, .inl (g.2.2.1, 32768, .inl lf2_4)), (ca, .inl (g.2.2.1, 32768, .inl f3_5))] := hD
  rcases hw with ⟨rfl, hw_7, hw_8⟩ | ⟨rfl, hw_9, hw_10, hw_11⟩
  · skip
    have hw_7 : ∃ ns : List Nat, chsA (bl t n) (n + 1) 0 [] = some ns ∧ n3_6 = ns.length ∧ n3_6 ≤ 32768 ∧ ∀ j, j < n3_6 → f3_5 j = nI (ns.getD j 0) := hw_7
    have hw_8 : k2_3 = nI n3_6 := hw_8
    refine tx_onI ?_
    exact hR _ _ 9 _ (nI n3_6) (k2_3, lf2_4, f3_5, n3_6, 0) d_Mo_text_9 rfl (Or.inl (⟨rfl, hw_7, hw_8, rfl⟩)) (hP.sub [0, 1, 2, 3] rfl) (hD.sub [0, 1, 2, 3] (by decide) rfl) hS
  · skip
    have hw_9 : chsA (bl t n) (n + 1) 0 [] = none := hw_9
    have hw_10 : k2_3 = vc := hw_10
    have hw_11 : f3_5 = nf := hw_11
    refine tx_onX (fun q_12 ce hq1 hq2 hq3 => ?_)
    refine tx_catch (name := "java/lang/IllegalArgumentException") (E := "java/lang/IllegalArgumentException") hE hown [] ⟨5, 9, 10, 37⟩ [] htab (fun z hz => nomatch hz) (by decide) (by decide) m_548 m_199 hq1 hq2 hq3 ?_
    refine W.eq (g2 := F0 m 10 ls [.ref q_12]) rfl ?_
    refine lv_astore_n (lv' := [(1, .ref q_12), (0, .ref y)]) hx hb d_Mo_text_10 rfl hl (by decide) rfl (fun ls hl => ?_)
    refine lv_aload_n hx hb d_Mo_text_11 rfl (lv_at hl 1 rfl) ?_
    refine lv_iconst (v := nI 1) hx hb d_Mo_text_12 (by decide) ?_
    refine va_put (ci := 5) (ty := .int) (C := R_Mo) (T := F_Mo) (N := 13) hx hb hE.hts in_Mo t_Mo tk_Mo nn_Mo hown hE.2.1 hP hD hS 0 rfl rfl 12 (by decide) (hE.w m_502) (fun _ h9 => h9) rfl (by decide +kernel) (by rfl) (by rfl) (by exact Nat.le_of_ble_eq_true rfl) d_Mo_text_13 (fun H locs hP hD hS => ?_)
    have hP : va_P g.1 pc_cl [(y, .inr (5, [.ref ta, .ref oa, .ref ma, .int (nI 0), .int vo, .int vm, .ref ca, .ref na, .ref la, .int k2_3, .int vk, .int va, .int (nI 1)])), (ta, .inl (g.2.1, 32768, .inl (bA t))), (la, .inl (g.2.2.1, 32768, .inl lf2_4)), (ca, .inl (g.2.2.1, 32768, .inl f3_5))] H := hP
    have hD : va_D A [(y, .inr (5, [.ref ta, .ref oa, .ref ma, .int (nI 0), .int vo, .int vm, .ref ca, .ref na, .ref la, .int k2_3, .int vk, .int va, .int (nI 1)])), (ta, .inl (g.2.1, 32768, .inl (bA t))), (la, .inl (g.2.2.1, 32768, .inl lf2_4)), (ca, .inl (g.2.2.1, 32768, .inl f3_5))] := hD
    refine lv_iconst (v := nI 0) hx hb d_Mo_text_16 (by decide) ?_
    exact hR _ _ 17 _ (nI 0) (k2_3, lf2_4, f3_5, n3_6, 1) d_Mo_text_17 rfl (Or.inr (⟨rfl, hw_9, hw_10, hw_11, rfl⟩)) (hP.sub [0, 1, 2, 3] rfl) (hD.sub [0, 1, 2, 3] (by decide) rfl) hS
abbrev rm_Mo_code : Room := { frames := 7, cells := 1, slots := 6, locals := 102 }
set_option maxHeartbeats 1000000 in
set_option maxRecDepth 100000 in
/-- code, with what is thrown -/
theorem c_Mo_code (l : Launch) (htr : l.stackTraces = false) (g : pc_G) (y : Nat) (ta : Nat) (oa : Nat) (ma : Nat) (ca : Nat) (na : Nat) (la : Nat) (vn : Int32) (vo : Int32) (vm : Int32) (vk : Int32) (va : Int32) (vt : Int32) (n : Nat) (f : Nat → Int32) (k : Int32) (hn : n ≤ 32768) : pc_X (S := Nat) l y_Mo_code (.codeWith y_Mo_code prog_11_method_34_code 3 (some .int) [(5, 10, 11, 98)]) (some .int) rm_Mo_code g [(y, .inr (5, [.ref ta, .ref oa, .ref ma, .int vn, .int vo, .int vm, .ref ca, .ref na, .ref la, .int (nI n), .int vk, .int va, .int vt])), (ca, .inl (g.2.2.1, 32768, .inl f))] [.ref y, .int k] (fun rv u => (rv = .inl (f (iN k)) ∧ ¬ k < 0 ∧ iN k < n ∧ u = 0) ∨ (rv = .inl (nI 0) ∧ (k < 0 ∨ n ≤ iN k) ∧ u = 1)) (fun u => [(y, .inr (5, [.ref ta, .ref oa, .ref ma, .int vn, .int vo, .int vm, .ref ca, .ref na, .ref la, .int (nI n), .int vk, .int va, .int (nI u)])), (ca, .inl (g.2.2.1, 32768, .inl f))]) := by
  refine pc_X.of (cc := prog_11_method_34_code) (nL := 3) (rt := (some .int)) (hh := [(5, 10, 11, 98)]) (by decide) tx_wd.with (by exact Nat.le_of_ble_eq_true rfl) htr ?_
  intro p e s m below meth c A Q hx hb hml hown hE hA htab hR hT hO hP hD ls hl
  have hS : va_S A s.heap s.heap [] := va_S.rf
  have hl : lv_has ls 3 [(0, .ref y), (1, .int k)] := hl
  refine lv_aload_n hx hb d_Mo_code_0 rfl (lv_at hl 0 rfl) ?_
  refine lv_iconst (v := nI 0) hx hb d_Mo_code_1 (by decide) ?_
  refine va_put (ci := 5) (ty := .int) (C := R_Mo) (T := F_Mo) (N := 13) hx hb hE.hts in_Mo t_Mo tk_Mo nn_Mo hown hE.2.1 hP hD hS 0 rfl rfl 12 (by decide) (hE.w m_502) (fun _ h9 => h9) rfl (by decide +kernel) (by rfl) (by rfl) (by exact Nat.le_of_ble_eq_true rfl) d_Mo_code_2 (fun H locs hP hD hS => ?_)
  have hP : va_P g.1 pc_cl [(y, .inr (5, [.ref ta, .ref oa, .ref ma, .int vn, .int vo, .int vm, .ref ca, .ref na, .ref la, .int (nI n), .int vk, .int va, .int (nI 0)])), (ca, .inl (g.2.2.1, 32768, .inl f))] H := hP
  have hD : va_D A [(y, .inr (5, [.ref ta, .ref oa, .ref ma, .int vn, .int vo, .int vm, .ref ca, .ref na, .ref la, .int (nI n), .int vk, .int va, .int (nI 0)])), (ca, .inl (g.2.2.1, 32768, .inl f))] := hD
  refine lv_aload_n hx hb d_Mo_code_5 rfl (lv_at hl 0 rfl) ?_
  refine lv_iload_n hx hb d_Mo_code_6 rfl (lv_at hl 1 rfl) ?_
  refine pc_x (rt := (some .int)) (wc := [(y, .inr (5, [.ref ta, .ref oa, .ref ma, .int vn, .int vo, .int vm, .ref ca, .ref na, .ref la, .int (nI n), .int vk, .int va, .int (nI 0)])), (ca, .inl (g.2.2.1, 32768, .inl f))]) (wr := []) (cells' := 1) (slots' := 6) hP hD hS hA [0, 1] [] rfl rfl (by decide) (by decide) rfl rfl (tx_runV (n := 1) (As := [.int k]) (rest := []) (C := R_Mo) hE hx hb hml hown (c_Mo_code0 l htr g y ta oa ma ca na la vn vo vm vk va (nI 0) n f k hn _) (fun U9 hW9 => tx_wd.plain.cd (hE.1.at hW9 m_630 #[])) m_630 m_5 m_627 m_629 ms_34 (by decide +kernel) (pc_preV (ci := 5) (q0 := 0) hP hD hE hS hA [0, 1] (by decide) rfl [.int k] rfl rfl) ⟨by exact Nat.le_of_ble_eq_true rfl, by exact Nat.le_of_ble_eq_true rfl⟩ rfl rfl hl.1 rfl (lv_room (by exact Nat.le_of_ble_eq_true rfl)) d_Mo_code_7 ⟨by exact Nat.le_of_ble_eq_true rfl, by exact Nat.le_of_ble_eq_true rfl⟩) (fun r_2 u_1 H locs hw hP hD hS => ?_)
  have hP : va_P g.1 pc_cl [(y, .inr (5, [.ref ta, .ref oa, .ref ma, .int vn, .int vo, .int vm, .ref ca, .ref na, .ref la, .int (nI n), .int vk, .int va, .int (nI 0)])), (ca, .inl (g.2.2.1, 32768, .inl f))] H := hP
  have hD : va_D A [(y, .inr (5, [.ref ta, .ref oa, .ref ma, .int vn, .int vo, .int vm, .ref ca, .ref na, .ref la, .int (nI n), .int vk, .int va, .int (nI 0)])), (ca, .inl (g.2.2.1, 32768, .inl f))] := hD
  rcases hw with ⟨rfl, hw_3, hw_4⟩ | ⟨rfl, hw_5⟩
  · skip
    have hw_3 : ¬ k < 0 := hw_3
    have hw_4 : iN k < n := hw_4
    refine tx_onI ?_
    exact hR _ _ 10 _ (f (iN k)) 0 d_Mo_code_10 rfl (Or.inl (⟨rfl, hw_3, hw_4, rfl⟩)) (hP.sub [0, 1] rfl) (hD.sub [0, 1] (by decide) rfl) hS
  · skip
    have hw_5 : k < 0 ∨ n ≤ iN k := hw_5
    refine tx_onX (fun q_6 ce hq1 hq2 hq3 => ?_)
    refine tx_catch (name := "java/util/NoSuchElementException") (E := "java/util/NoSuchElementException") hE hown [] ⟨5, 10, 11, 98⟩ [] htab (fun z hz => nomatch hz) (by decide) (by decide) m_626 m_382 hq1 hq2 hq3 ?_
    refine W.eq (g2 := F0 m 11 ls [.ref q_6]) rfl ?_
    refine lv_astore_n (lv' := [(2, .ref q_6), (0, .ref y), (1, .int k)]) hx hb d_Mo_code_11 rfl hl (by decide) rfl (fun ls hl => ?_)
    refine lv_aload_n hx hb d_Mo_code_12 rfl (lv_at hl 1 rfl) ?_
    refine lv_iconst (v := nI 1) hx hb d_Mo_code_13 (by decide) ?_
    refine va_put (ci := 5) (ty := .int) (C := R_Mo) (T := F_Mo) (N := 13) hx hb hE.hts in_Mo t_Mo tk_Mo nn_Mo hown hE.2.1 hP hD hS 0 rfl rfl 12 (by decide) (hE.w m_502) (fun _ h9 => h9) rfl (by decide +kernel) (by rfl) (by rfl) (by exact Nat.le_of_ble_eq_true rfl) d_Mo_code_14 (fun H locs hP hD hS => ?_)
    have hP : va_P g.1 pc_cl [(y, .inr (5, [.ref ta, .ref oa, .ref ma, .int vn, .int vo, .int vm, .ref ca, .ref na, .ref la, .int (nI n), .int vk, .int va, .int (nI 1)])), (ca, .inl (g.2.2.1, 32768, .inl f))] H := hP
    have hD : va_D A [(y, .inr (5, [.ref ta, .ref oa, .ref ma, .int vn, .int vo, .int vm, .ref ca, .ref na, .ref la, .int (nI n), .int vk, .int va, .int (nI 1)])), (ca, .inl (g.2.2.1, 32768, .inl f))] := hD
    refine lv_iconst (v := nI 0) hx hb d_Mo_code_17 (by decide) ?_
    exact hR _ _ 18 _ (nI 0) 1 d_Mo_code_18 rfl (Or.inr (⟨rfl, hw_5, rfl⟩)) (hP.sub [0, 1] rfl) (hD.sub [0, 1] (by decide) rfl) hS
abbrev rm_Mo_letter : Room := { frames := 8, cells := 1, slots := 6, locals := 127 }
set_option maxHeartbeats 1000000 in
set_option maxRecDepth 100000 in
/-- letter, with what is thrown -/
theorem c_Mo_letter (l : Launch) (htr : l.stackTraces = false) (g : pc_G) (y : Nat) (ta : Nat) (oa : Nat) (ma : Nat) (ca : Nat) (na : Nat) (la : Nat) (vn : Int32) (vm : Int32) (vc : Int32) (vk : Int32) (va : Int32) (vt : Int32) (n : Nat) (t : Nat → UInt8) (k : Int32) (hn : n ≤ 32768) : pc_X (S := Nat × (Nat → UInt8) × Nat) l y_Mo_letter (.codeWith y_Mo_letter prog_11_method_35_code 3 (some .int) [(5, 10, 11, 37), (5, 10, 20, 34)]) (some .int) rm_Mo_letter g [(y, .inr (5, [.ref ta, .ref oa, .ref ma, .int vn, .int (nI n), .int vm, .ref ca, .ref na, .ref la, .int vc, .int vk, .int va, .int vt])), (oa, .inl (g.2.1, 32768, .inl (bA t)))] [.ref y, .int k] (fun rv u => (rv = .inl (nI (chW (iN k))) ∧ chI k ∧ n + chW (iN k) ≤ 32768 ∧ u.1 = n + chW (iN k) ∧ bl u.2.1 u.1 = bl t n ++ chL (iN k) ∧ u.2.2 = 0) ∨ (rv = .inl (nI 0) ∧ ¬ chI k ∧ u.1 = n ∧ u.2.1 = t ∧ u.2.2 = 1) ∨ (rv = .inl (nI 0) ∧ chI k ∧ 32768 < n + chW (iN k) ∧ u.1 = n ∧ u.2.1 = t ∧ u.2.2 = 2)) (fun u => [(y, .inr (5, [.ref ta, .ref oa, .ref ma, .int vn, .int (nI u.1), .int vm, .ref ca, .ref na, .ref la, .int vc, .int vk, .int va, .int (nI u.2.2)])), (oa, .inl (g.2.1, 32768, .inl (bA u.2.1)))]) := by
  refine pc_X.of (cc := prog_11_method_35_code) (nL := 3) (rt := (some .int)) (hh := [(5, 10, 11, 37), (5, 10, 20, 34)]) (by decide) tx_wd.with (by exact Nat.le_of_ble_eq_true rfl) htr ?_
  intro p e s m below meth c A Q hx hb hml hown hE hA htab hR hT hO hP hD ls hl
  have hS : va_S A s.heap s.heap [] := va_S.rf
  have hl : lv_has ls 3 [(0, .ref y), (1, .int k)] := hl
  refine lv_aload_n hx hb d_Mo_letter_0 rfl (lv_at hl 0 rfl) ?_
  refine lv_iconst (v := nI 0) hx hb d_Mo_letter_1 (by decide) ?_
  refine va_put (ci := 5) (ty := .int) (C := R_Mo) (T := F_Mo) (N := 13) hx hb hE.hts in_Mo t_Mo tk_Mo nn_Mo hown hE.2.1 hP hD hS 0 rfl rfl 12 (by decide) (hE.w m_502) (fun _ h9 => h9) rfl (by decide +kernel) (by rfl) (by rfl) (by exact Nat.le_of_ble_eq_true rfl) d_Mo_letter_2 (fun H locs hP hD hS => ?_)
  have hP : va_P g.1 pc_cl [(y, .inr (5, [.ref ta, .ref oa, .ref ma, .int vn, .int (nI n), .int vm, .ref ca, .ref na, .ref la, .int vc, .int vk, .int va, .int (nI 0)])), (oa, .inl (g.2.1, 32768, .inl (bA t)))] H := hP
  have hD : va_D A [(y, .inr (5, [.ref ta, .ref oa, .ref ma, .int vn, .int (nI n), .int vm, .ref ca, .ref na, .ref la, .int vc, .int vk, .int va, .int (nI 0)])), (oa, .inl (g.2.1, 32768, .inl (bA t)))] := hD
  refine lv_aload_n hx hb d_Mo_letter_5 rfl (lv_at hl 0 rfl) ?_
  refine lv_iload_n hx hb d_Mo_letter_6 rfl (lv_at hl 1 rfl) ?_
  refine pc_x (rt := (some .int)) (wc := [(y, .inr (5, [.ref ta, .ref oa, .ref ma, .int vn, .int (nI n), .int vm, .ref ca, .ref na, .ref la, .int vc, .int vk, .int va, .int (nI 0)])), (oa, .inl (g.2.1, 32768, .inl (bA t)))]) (wr := []) (cells' := 1) (slots' := 6) hP hD hS hA [0, 1] [] rfl rfl (by decide) (by decide) rfl rfl (tx_runV (n := 1) (As := [.int k]) (rest := []) (C := R_Mo) hE hx hb hml hown (c_Mo_letter0 l htr g y ta oa ma ca na la vn vm vc vk va (nI 0) n t k hn _) (fun U9 hW9 => tx_wd.plain.cd (hE.1.at hW9 m_639 #[])) m_639 m_5 m_636 m_638 ms_35 (by decide +kernel) (pc_preV (ci := 5) (q0 := 0) hP hD hE hS hA [0, 1] (by decide) rfl [.int k] rfl rfl) ⟨by exact Nat.le_of_ble_eq_true rfl, by exact Nat.le_of_ble_eq_true rfl⟩ rfl rfl hl.1 rfl (lv_room (by exact Nat.le_of_ble_eq_true rfl)) d_Mo_letter_7 ⟨by exact Nat.le_of_ble_eq_true rfl, by exact Nat.le_of_ble_eq_true rfl⟩) (fun r_2 u_1 H locs hw hP hD hS => ?_)
  obtain ⟨n2_3, t2_4⟩ := u_1
  have hP : va_P g.1 pc_cl [(y, .inr (5, [.ref ta, .ref oa, .ref ma, .int vn, .int (nI n2_3), .int vm, .ref ca, .ref na, .ref la, .int vc, .int vk, .int va, .int (nI 0)])), (oa, .inl (g.2.1, 32768, .inl (bA t2_4)))] H := hP
  have hD : va_D A [(y, .inr (5, [.ref ta, .ref oa, .ref ma, .int vn, .int (nI n2_3), .int vm, .ref ca, .ref na, .ref la, .int vc, .int vk, .int va, .int (nI 0)])), (oa, .inl (g.2.1, 32768, .inl (bA t2_4)))] := hD
  rcases hw with ⟨rfl, hw_5, hw_6, hw_7, hw_8⟩ | ⟨rfl, hw_9, hw_10, hw_11⟩ | ⟨rfl, hw_12, hw_13, hw_14, hw_15⟩
  · skip
    have hw_5 : chI k := hw_5
    have hw_6 : n + chW (iN k) ≤ 32768 := hw_6
    have hw_7 : n2_3 = n + chW (iN k) := hw_7
    have hw_8 : bl t2_4 n2_3 = bl t n ++ chL (iN k) := hw_8
    refine tx_onI ?_
    exact hR _ _ 10 _ (nI (chW (iN k))) (n2_3, t2_4, 0) d_Mo_letter_10 rfl (Or.inl (⟨rfl, hw_5, hw_6, hw_7, hw_8, rfl⟩)) (hP.sub [0, 1] rfl) (hD.sub [0, 1] (by decide) rfl) hS
  · skip
    have hw_9 : ¬ chI k := hw_9
    have hw_10 : n2_3 = n := hw_10
    have hw_11 : t2_4 = t := hw_11
    refine tx_onX (fun q_16 ce hq1 hq2 hq3 => ?_)
    refine tx_catch (name := "java/lang/IllegalArgumentException") (E := "java/lang/IllegalArgumentException") hE hown [] ⟨5, 10, 11, 37⟩ [⟨5, 10, 20, 34⟩] htab (fun z hz => nomatch hz) (by decide) (by decide) m_548 m_199 hq1 hq2 hq3 ?_
    refine W.eq (g2 := F0 m 11 ls [.ref q_16]) rfl ?_
    refine lv_astore_n (lv' := [(2, .ref q_16), (0, .ref y), (1, .int k)]) hx hb d_Mo_letter_11 rfl hl (by decide) rfl (fun ls hl => ?_)
    refine lv_aload_n hx hb d_Mo_letter_12 rfl (lv_at hl 1 rfl) ?_
    refine lv_iconst (v := nI 1) hx hb d_Mo_letter_13 (by decide) ?_
    refine va_put (ci := 5) (ty := .int) (C := R_Mo) (T := F_Mo) (N := 13) hx hb hE.hts in_Mo t_Mo tk_Mo nn_Mo hown hE.2.1 hP hD hS 0 rfl rfl 12 (by decide) (hE.w m_502) (fun _ h9 => h9) rfl (by decide +kernel) (by rfl) (by rfl) (by exact Nat.le_of_ble_eq_true rfl) d_Mo_letter_14 (fun H locs hP hD hS => ?_)
    have hP : va_P g.1 pc_cl [(y, .inr (5, [.ref ta, .ref oa, .ref ma, .int vn, .int (nI n2_3), .int vm, .ref ca, .ref na, .ref la, .int vc, .int vk, .int va, .int (nI 1)])), (oa, .inl (g.2.1, 32768, .inl (bA t2_4)))] H := hP
    have hD : va_D A [(y, .inr (5, [.ref ta, .ref oa, .ref ma, .int vn, .int (nI n2_3), .int vm, .ref ca, .ref na, .ref la, .int vc, .int vk, .int va, .int (nI 1)])), (oa, .inl (g.2.1, 32768, .inl (bA t2_4)))] := hD
    refine lv_goto (tgt := 26) hx hb d_Mo_letter_17 (by decide) ?_
    refine lv_iconst (v := nI 0) hx hb d_Mo_letter_26 (by decide) ?_
    exact hR _ _ 27 _ (nI 0) (n2_3, t2_4, 1) d_Mo_letter_27 rfl (Or.inr (Or.inl (⟨rfl, hw_9, hw_10, hw_11, rfl⟩))) (hP.sub [0, 1] rfl) (hD.sub [0, 1] (by decide) rfl) hS
  · skip
    have hw_12 : chI k := hw_12
    have hw_13 : 32768 < n + chW (iN k) := hw_13
    have hw_14 : n2_3 = n := hw_14
    have hw_15 : t2_4 = t := hw_15
    refine tx_onX (fun q_17 ce hq1 hq2 hq3 => ?_)
    refine tx_catch (name := "java/lang/IllegalStateException") (E := "java/lang/IllegalStateException") hE hown [⟨5, 10, 11, 37⟩] ⟨5, 10, 20, 34⟩ [] htab (fun z hz => by cases List.mem_singleton.mp hz; exact ⟨by decide, by decide, _, m_548, hE.1.2.2⟩) (by decide) (by decide) m_538 m_120 hq1 hq2 hq3 ?_
    refine W.eq (g2 := F0 m 20 ls [.ref q_17]) rfl ?_
    refine lv_astore_n (lv' := [(2, .ref q_17), (0, .ref y), (1, .int k)]) hx hb d_Mo_letter_20 rfl hl (by decide) rfl (fun ls hl => ?_)
    refine lv_aload_n hx hb d_Mo_letter_21 rfl (lv_at hl 1 rfl) ?_
    refine lv_iconst (v := nI 2) hx hb d_Mo_letter_22 (by decide) ?_
    refine va_put (ci := 5) (ty := .int) (C := R_Mo) (T := F_Mo) (N := 13) hx hb hE.hts in_Mo t_Mo tk_Mo nn_Mo hown hE.2.1 hP hD hS 0 rfl rfl 12 (by decide) (hE.w m_502) (fun _ h9 => h9) rfl (by decide +kernel) (by rfl) (by rfl) (by exact Nat.le_of_ble_eq_true rfl) d_Mo_letter_23 (fun H locs hP hD hS => ?_)
    have hP : va_P g.1 pc_cl [(y, .inr (5, [.ref ta, .ref oa, .ref ma, .int vn, .int (nI n2_3), .int vm, .ref ca, .ref na, .ref la, .int vc, .int vk, .int va, .int (nI 2)])), (oa, .inl (g.2.1, 32768, .inl (bA t2_4)))] H := hP
    have hD : va_D A [(y, .inr (5, [.ref ta, .ref oa, .ref ma, .int vn, .int (nI n2_3), .int vm, .ref ca, .ref na, .ref la, .int vc, .int vk, .int va, .int (nI 2)])), (oa, .inl (g.2.1, 32768, .inl (bA t2_4)))] := hD
    refine lv_iconst (v := nI 0) hx hb d_Mo_letter_26 (by decide) ?_
    exact hR _ _ 27 _ (nI 0) (n2_3, t2_4, 2) d_Mo_letter_27 rfl (Or.inr (Or.inr (⟨rfl, hw_12, hw_13, hw_14, hw_15, rfl⟩))) (hP.sub [0, 1] rfl) (hD.sub [0, 1] (by decide) rfl) hS
abbrev rm_Mo_varint : Room := { frames := 8, cells := 1, slots := 6, locals := 125 }
set_option maxHeartbeats 1000000 in
set_option maxRecDepth 100000 in
/-- varint, with what is thrown -/
theorem c_Mo_varint (l : Launch) (htr : l.stackTraces = false) (g : pc_G) (y : Nat) (ta : Nat) (oa : Nat) (ma : Nat) (ca : Nat) (na : Nat) (la : Nat) (vn : Int32) (vm : Int32) (vc : Int32) (vk : Int32) (va : Int32) (vt : Int32) (n : Nat) (t : Nat → UInt8) (k : Int32) (hn : n ≤ 32768) : pc_X (S := Nat × (Nat → UInt8) × Nat) l y_Mo_varint (.codeWith y_Mo_varint prog_11_method_36_code 3 (some .int) [(5, 10, 11, 37), (5, 10, 20, 34)]) (some .int) rm_Mo_varint g [(y, .inr (5, [.ref ta, .ref oa, .ref ma, .int vn, .int (nI n), .int vm, .ref ca, .ref na, .ref la, .int vc, .int vk, .int va, .int vt])), (oa, .inl (g.2.1, 32768, .inl (bA t)))] [.ref y, .int k] (fun rv u => (rv = .inl (nI (vsz (iN k))) ∧ ¬ k < 0 ∧ n + vsz (iN k) ≤ 32768 ∧ u.1 = n + vsz (iN k) ∧ bl u.2.1 u.1 = bl t n ++ vL (iN k) ∧ u.2.2 = 0) ∨ (rv = .inl (nI 0) ∧ k < 0 ∧ u.1 = n ∧ u.2.1 = t ∧ u.2.2 = 1) ∨ (rv = .inl (nI 0) ∧ ¬ k < 0 ∧ 32768 < n + vsz (iN k) ∧ u.1 = n ∧ u.2.1 = t ∧ u.2.2 = 2)) (fun u => [(y, .inr (5, [.ref ta, .ref oa, .ref ma, .int vn, .int (nI u.1), .int vm, .ref ca, .ref na, .ref la, .int vc, .int vk, .int va, .int (nI u.2.2)])), (oa, .inl (g.2.1, 32768, .inl (bA u.2.1)))]) := by
  refine pc_X.of (cc := prog_11_method_36_code) (nL := 3) (rt := (some .int)) (hh := [(5, 10, 11, 37), (5, 10, 20, 34)]) (by decide) tx_wd.with (by exact Nat.le_of_ble_eq_true rfl) htr ?_
  intro p e s m below meth c A Q hx hb hml hown hE hA htab hR hT hO hP hD ls hl
  have hS : va_S A s.heap s.heap [] := va_S.rf
  have hl : lv_has ls 3 [(0, .ref y), (1, .int k)] := hl
  refine lv_aload_n hx hb d_Mo_varint_0 rfl (lv_at hl 0 rfl) ?_
  refine lv_iconst (v := nI 0) hx hb d_Mo_varint_1 (by decide) ?_
  refine va_put (ci := 5) (ty := .int) (C := R_Mo) (T := F_Mo) (N := 13) hx hb hE.hts in_Mo t_Mo tk_Mo nn_Mo hown hE.2.1 hP hD hS 0 rfl rfl 12 (by decide) (hE.w m_502) (fun _ h9 => h9) rfl (by decide +kernel) (by rfl) (by rfl) (by exact Nat.le_of_ble_eq_true rfl) d_Mo_varint_2 (fun H locs hP hD hS => ?_)
  have hP : va_P g.1 pc_cl [(y, .inr (5, [.ref ta, .ref oa, .ref ma, .int vn, .int (nI n), .int vm, .ref ca, .ref na, .ref la, .int vc, .int vk, .int va, .int (nI 0)])), (oa, .inl (g.2.1, 32768, .inl (bA t)))] H := hP
  have hD : va_D A [(y, .inr (5, [.ref ta, .ref oa, .ref ma, .int vn, .int (nI n), .int vm, .ref ca, .ref na, .ref la, .int vc, .int vk, .int va, .int (nI 0)])), (oa, .inl (g.2.1, 32768, .inl (bA t)))] := hD
  refine lv_aload_n hx hb d_Mo_varint_5 rfl (lv_at hl 0 rfl) ?_
  refine lv_iload_n hx hb d_Mo_varint_6 rfl (lv_at hl 1 rfl) ?_
  refine pc_x (rt := (some .int)) (wc := [(y, .inr (5, [.ref ta, .ref oa, .ref ma, .int vn, .int (nI n), .int vm, .ref ca, .ref na, .ref la, .int vc, .int vk, .int va, .int (nI 0)])), (oa, .inl (g.2.1, 32768, .inl (bA t)))]) (wr := []) (cells' := 1) (slots' := 6) hP hD hS hA [0, 1] [] rfl rfl (by decide) (by decide) rfl rfl (tx_runV (n := 1) (As := [.int k]) (rest := []) (C := R_Mo) hE hx hb hml hown (c_Mo_varint0 l htr g y ta oa ma ca na la vn vm vc vk va (nI 0) n t k hn _) (fun U9 hW9 => tx_wd.plain.cd (hE.1.at hW9 m_651 #[])) m_651 m_5 m_648 m_650 ms_37 (by decide +kernel) (pc_preV (ci := 5) (q0 := 0) hP hD hE hS hA [0, 1] (by decide) rfl [.int k] rfl rfl) ⟨by exact Nat.le_of_ble_eq_true rfl, by exact Nat.le_of_ble_eq_true rfl⟩ rfl rfl hl.1 rfl (lv_room (by exact Nat.le_of_ble_eq_true rfl)) d_Mo_varint_7 ⟨by exact Nat.le_of_ble_eq_true rfl, by exact Nat.le_of_ble_eq_true rfl⟩) (fun r_2 u_1 H locs hw hP hD hS => ?_)
  obtain ⟨n2_3, t2_4⟩ := u_1
  have hP : va_P g.1 pc_cl [(y, .inr (5, [.ref ta, .ref oa, .ref ma, .int vn, .int (nI n2_3), .int vm, .ref ca, .ref na, .ref la, .int vc, .int vk, .int va, .int (nI 0)])), (oa, .inl (g.2.1, 32768, .inl (bA t2_4)))] H := hP
  have hD : va_D A [(y, .inr (5, [.ref ta, .ref oa, .ref ma, .int vn, .int (nI n2_3), .int vm, .ref ca, .ref na, .ref la, .int vc, .int vk, .int va, .int (nI 0)])), (oa, .inl (g.2.1, 32768, .inl (bA t2_4)))] := hD
  rcases hw with ⟨rfl, hw_5, hw_6, hw_7, hw_8⟩ | ⟨rfl, hw_9, hw_10, hw_11⟩ | ⟨rfl, hw_12, hw_13, hw_14, hw_15⟩
  · skip
    have hw_5 : ¬ k < 0 := hw_5
    have hw_6 : n + vsz (iN k) ≤ 32768 := hw_6
    have hw_7 : n2_3 = n + vsz (iN k) := hw_7
    have hw_8 : bl t2_4 n2_3 = bl t n ++ vL (iN k) := hw_8
    refine tx_onI ?_
    exact hR _ _ 10 _ (nI (vsz (iN k))) (n2_3, t2_4, 0) d_Mo_varint_10 rfl (Or.inl (⟨rfl, hw_5, hw_6, hw_7, hw_8, rfl⟩)) (hP.sub [0, 1] rfl) (hD.sub [0, 1] (by decide) rfl) hS
  · skip
    have hw_9 : k < 0 := hw_9
    have hw_10 : n2_3 = n := hw_10
    have hw_11 : t2_4 = t := hw_11
    refine tx_onX (fun q_16 ce hq1 hq2 hq3 => ?_)
    refine tx_catch (name := "java/lang/IllegalArgumentException") (E := "java/lang/IllegalArgumentException") hE hown [] ⟨5, 10, 11, 37⟩ [⟨5, 10, 20, 34⟩] htab (fun z hz => nomatch hz) (by decide) (by decide) m_548 m_199 hq1 hq2 hq3 ?_
    refine W.eq (g2 := F0 m 11 ls [.ref q_16]) rfl ?_
    refine lv_astore_n (lv' := [(2, .ref q_16), (0, .ref y), (1, .int k)]) hx hb d_Mo_varint_11 rfl hl (by decide) rfl (fun ls hl => ?_)
    refine lv_aload_n hx hb d_Mo_varint_12 rfl (lv_at hl 1 rfl) ?_
    refine lv_iconst (v := nI 1) hx hb d_Mo_varint_13 (by decide) ?_
    refine va_put (ci := 5) (ty := .int) (C := R_Mo) (T := F_Mo) (N := 13) hx hb hE.hts in_Mo t_Mo tk_Mo nn_Mo hown hE.2.1 hP hD hS 0 rfl rfl 12 (by decide) (hE.w m_502) (fun _ h9 => h9) rfl (by decide +kernel) (by rfl) (by rfl) (by exact Nat.le_of_ble_eq_true rfl) d_Mo_varint_14 (fun H locs hP hD hS => ?_)
    have hP : va_P g.1 pc_cl [(y, .inr (5, [.ref ta, .ref oa, .ref ma, .int vn, .int (nI n2_3), .int vm, .ref ca, .ref na, .ref la, .int vc, .int vk, .int va, .int (nI 1)])), (oa, .inl (g.2.1, 32768, .inl (bA t2_4)))] H := hP
    have hD : va_D A [(y, .inr (5, [.ref ta, .ref oa, .ref ma, .int vn, .int (nI n2_3), .int vm, .ref ca, .ref na, .ref la, .int vc, .int vk, .int va, .int (nI 1)])), (oa, .inl (g.2.1, 32768, .inl (bA t2_4)))] := hD
    refine lv_goto (tgt := 26) hx hb d_Mo_varint_17 (by decide) ?_
    refine lv_iconst (v := nI 0) hx hb d_Mo_varint_26 (by decide) ?_
    exact hR _ _ 27 _ (nI 0) (n2_3, t2_4, 1) d_Mo_varint_27 rfl (Or.inr (Or.inl (⟨rfl, hw_9, hw_10, hw_11, rfl⟩))) (hP.sub [0, 1] rfl) (hD.sub [0, 1] (by decide) rfl) hS
  · skip
    have hw_12 : ¬ k < 0 := hw_12
    have hw_13 : 32768 < n + vsz (iN k) := hw_13
    have hw_14 : n2_3 = n := hw_14
    have hw_15 : t2_4 = t := hw_15
    refine tx_onX (fun q_17 ce hq1 hq2 hq3 => ?_)
    refine tx_catch (name := "java/lang/IllegalStateException") (E := "java/lang/IllegalStateException") hE hown [⟨5, 10, 11, 37⟩] ⟨5, 10, 20, 34⟩ [] htab (fun z hz => by cases List.mem_singleton.mp hz; exact ⟨by decide, by decide, _, m_548, hE.1.2.2⟩) (by decide) (by decide) m_538 m_120 hq1 hq2 hq3 ?_
    refine W.eq (g2 := F0 m 20 ls [.ref q_17]) rfl ?_
    refine lv_astore_n (lv' := [(2, .ref q_17), (0, .ref y), (1, .int k)]) hx hb d_Mo_varint_20 rfl hl (by decide) rfl (fun ls hl => ?_)
    refine lv_aload_n hx hb d_Mo_varint_21 rfl (lv_at hl 1 rfl) ?_
    refine lv_iconst (v := nI 2) hx hb d_Mo_varint_22 (by decide) ?_
    refine va_put (ci := 5) (ty := .int) (C := R_Mo) (T := F_Mo) (N := 13) hx hb hE.hts in_Mo t_Mo tk_Mo nn_Mo hown hE.2.1 hP hD hS 0 rfl rfl 12 (by decide) (hE.w m_502) (fun _ h9 => h9) rfl (by decide +kernel) (by rfl) (by rfl) (by exact Nat.le_of_ble_eq_true rfl) d_Mo_varint_23 (fun H locs hP hD hS => ?_)
    have hP : va_P g.1 pc_cl [(y, .inr (5, [.ref ta, .ref oa, .ref ma, .int vn, .int (nI n2_3), .int vm, .ref ca, .ref na, .ref la, .int vc, .int vk, .int va, .int (nI 2)])), (oa, .inl (g.2.1, 32768, .inl (bA t2_4)))] H := hP
    have hD : va_D A [(y, .inr (5, [.ref ta, .ref oa, .ref ma, .int vn, .int (nI n2_3), .int vm, .ref ca, .ref na, .ref la, .int vc, .int vk, .int va, .int (nI 2)])), (oa, .inl (g.2.1, 32768, .inl (bA t2_4)))] := hD
    refine lv_iconst (v := nI 0) hx hb d_Mo_varint_26 (by decide) ?_
    exact hR _ _ 27 _ (nI 0) (n2_3, t2_4, 2) d_Mo_varint_27 rfl (Or.inr (Or.inr (⟨rfl, hw_12, hw_13, hw_14, hw_15, rfl⟩))) (hP.sub [0, 1] rfl) (hD.sub [0, 1] (by decide) rfl) hS
abbrev rm_Mo_zigzag : Room := { frames := 7, cells := 1, slots := 6, locals := 102 }
set_option maxHeartbeats 1000000 in
set_option maxRecDepth 100000 in
/-- zigzag, with what is thrown -/
theorem c_Mo_zigzag (l : Launch) (htr : l.stackTraces = false) (g : pc_G) (y : Nat) (ta : Nat) (oa : Nat) (ma : Nat) (ca : Nat) (na : Nat) (la : Nat) (vn : Int32) (vo : Int32) (vm : Int32) (vc : Int32) (vk : Int32) (va : Int32) (vt : Int32) (k : Int32) : pc_X (S := Nat) l y_Mo_zigzag (.codeWith y_Mo_zigzag prog_11_method_37_code 3 (some .int) [(5, 10, 11, 37)]) (some .int) rm_Mo_zigzag g [(y, .inr (5, [.ref ta, .ref oa, .ref ma, .int vn, .int vo, .int vm, .ref ca, .ref na, .ref la, .int vc, .int vk, .int va, .int vt]))] [.ref y, .int k] (fun rv u => (rv = .inl (nI 2 * k) ∧ ¬ k < (-1073741823) ∧ k ≤ nI 1073741823 ∧ ¬ k < 0 ∧ u = 0) ∨ (rv = .inl (((-2) * k) - nI 1) ∧ ¬ k < (-1073741823) ∧ k ≤ nI 1073741823 ∧ k < 0 ∧ u = 0) ∨ (rv = .inl (nI 0) ∧ (k < (-1073741823) ∨ ¬ k ≤ nI 1073741823) ∧ u = 1)) (fun u => [(y, .inr (5, [.ref ta, .ref oa, .ref ma, .int vn, .int vo, .int vm, .ref ca, .ref na, .ref la, .int vc, .int vk, .int va, .int (nI u)]))]) := by
  refine pc_X.of (cc := prog_11_method_37_code) (nL := 3) (rt := (some .int)) (hh := [(5, 10, 11, 37)]) (by decide) tx_wd.with (by exact Nat.le_of_ble_eq_true rfl) htr ?_
  intro p e s m below meth c A Q hx hb hml hown hE hA htab hR hT hO hP hD ls hl
  have hS : va_S A s.heap s.heap [] := va_S.rf
  have hl : lv_has ls 3 [(0, .ref y), (1, .int k)] := hl
  refine lv_aload_n hx hb d_Mo_zigzag_0 rfl (lv_at hl 0 rfl) ?_
  refine lv_iconst (v := nI 0) hx hb d_Mo_zigzag_1 (by decide) ?_
  refine va_put (ci := 5) (ty := .int) (C := R_Mo) (T := F_Mo) (N := 13) hx hb hE.hts in_Mo t_Mo tk_Mo nn_Mo hown hE.2.1 hP hD hS 0 rfl rfl 12 (by decide) (hE.w m_502) (fun _ h9 => h9) rfl (by decide +kernel) (by rfl) (by rfl) (by exact Nat.le_of_ble_eq_true rfl) d_Mo_zigzag_2 (fun H locs hP hD hS => ?_)
  have hP : va_P g.1 pc_cl [(y, .inr (5, [.ref ta, .ref oa, .ref ma, .int vn, .int vo, .int vm, .ref ca, .ref na, .ref la, .int vc, .int vk, .int va, .int (nI 0)]))] H := hP
  have hD : va_D A [(y, .inr (5, [.ref ta, .ref oa, .ref ma, .int vn, .int vo, .int vm, .ref ca, .ref na, .ref la, .int vc, .int vk, .int va, .int (nI 0)]))] := hD
  refine lv_aload_n hx hb d_Mo_zigzag_5 rfl (lv_at hl 0 rfl) ?_
  refine lv_iload_n hx hb d_Mo_zigzag_6 rfl (lv_at hl 1 rfl) ?_
  refine pc_x (rt := (some .int)) (wc := [(y, .inr (5, [.ref ta, .ref oa, .ref ma, .int vn, .int vo, .int vm, .ref ca, .ref na, .ref la, .int vc, .int vk, .int va, .int (nI 0)]))]) (wr := []) (cells' := 1) (slots' := 6) hP hD hS hA [0] [] rfl rfl (by decide) (by decide) rfl rfl (tx_runV (n := 1) (As := [.int k]) (rest := []) (C := R_Mo) hE hx hb hml hown (c_Mo_zigzag0 l htr g y ta oa ma ca na la vn vo vm vc vk va (nI 0) k _) (fun U9 hW9 => tx_wd.plain.cd (hE.1.at hW9 m_659 #[])) m_659 m_5 m_656 m_658 ms_38 (by decide +kernel) (pc_preV (ci := 5) (q0 := 0) hP hD hE hS hA [0] (by decide) rfl [.int k] rfl rfl) ⟨by exact Nat.le_of_ble_eq_true rfl, by exact Nat.le_of_ble_eq_true rfl⟩ rfl rfl hl.1 rfl (lv_room (by exact Nat.le_of_ble_eq_true rfl)) d_Mo_zigzag_7 ⟨by exact Nat.le_of_ble_eq_true rfl, by exact Nat.le_of_ble_eq_true rfl⟩) (fun r_2 u_1 H locs hw hP hD hS => ?_)
  have hP : va_P g.1 pc_cl [(y, .inr (5, [.ref ta, .ref oa, .ref ma, .int vn, .int vo, .int vm, .ref ca, .ref na, .ref la, .int vc, .int vk, .int va, .int (nI 0)]))] H := hP
  have hD : va_D A [(y, .inr (5, [.ref ta, .ref oa, .ref ma, .int vn, .int vo, .int vm, .ref ca, .ref na, .ref la, .int vc, .int vk, .int va, .int (nI 0)]))] := hD
  rcases hw with ⟨rfl, hw_3, hw_4, hw_5⟩ | ⟨rfl, hw_6, hw_7, hw_8⟩ | ⟨rfl, hw_9⟩
  · skip
    have hw_3 : ¬ k < (-1073741823) := hw_3
    have hw_4 : k ≤ nI 1073741823 := hw_4
    have hw_5 : ¬ k < 0 := hw_5
    refine tx_onI ?_
    exact hR _ _ 10 _ (nI 2 * k) 0 d_Mo_zigzag_10 rfl (Or.inl (⟨rfl, hw_3, hw_4, hw_5, rfl⟩)) (hP.sub [0] rfl) (hD.sub [0] (by decide) rfl) hS
  · skip
    have hw_6 : ¬ k < (-1073741823) := hw_6
    have hw_7 : k ≤ nI 1073741823 := hw_7
    have hw_8 : k < 0 := hw_8
    refine tx_onI ?_
    exact hR _ _ 10 _ (((-2) * k) - nI 1) 0 d_Mo_zigzag_10 rfl (Or.inr (Or.inl (⟨rfl, hw_6, hw_7, hw_8, rfl⟩))) (hP.sub [0] rfl) (hD.sub [0] (by decide) rfl) hS
  · skip
    have hw_9 : k < (-1073741823) ∨ ¬ k ≤ nI 1073741823 := hw_9
    refine tx_onX (fun q_10 ce hq1 hq2 hq3 => ?_)
    refine tx_catch (name := "java/lang/IllegalArgumentException") (E := "java/lang/IllegalArgumentException") hE hown [] ⟨5, 10, 11, 37⟩ [] htab (fun z hz => nomatch hz) (by decide) (by decide) m_548 m_199 hq1 hq2 hq3 ?_
    refine W.eq (g2 := F0 m 11 ls [.ref q_10]) rfl ?_
    refine lv_astore_n (lv' := [(2, .ref q_10), (0, .ref y), (1, .int k)]) hx hb d_Mo_zigzag_11 rfl hl (by decide) rfl (fun ls hl => ?_)
    refine lv_aload_n hx hb d_Mo_zigzag_12 rfl (lv_at hl 1 rfl) ?_
    refine lv_iconst (v := nI 1) hx hb d_Mo_zigzag_13 (by decide) ?_
    refine va_put (ci := 5) (ty := .int) (C := R_Mo) (T := F_Mo) (N := 13) hx hb hE.hts in_Mo t_Mo tk_Mo nn_Mo hown hE.2.1 hP hD hS 0 rfl rfl 12 (by decide) (hE.w m_502) (fun _ h9 => h9) rfl (by decide +kernel) (by rfl) (by rfl) (by exact Nat.le_of_ble_eq_true rfl) d_Mo_zigzag_14 (fun H locs hP hD hS => ?_)
    have hP : va_P g.1 pc_cl [(y, .inr (5, [.ref ta, .ref oa, .ref ma, .int vn, .int vo, .int vm, .ref ca, .ref na, .ref la, .int vc, .int vk, .int va, .int (nI 1)]))] H := hP
    have hD : va_D A [(y, .inr (5, [.ref ta, .ref oa, .ref ma, .int vn, .int vo, .int vm, .ref ca, .ref na, .ref la, .int vc, .int vk, .int va, .int (nI 1)]))] := hD
    refine lv_iconst (v := nI 0) hx hb d_Mo_zigzag_17 (by decide) ?_
    exact hR _ _ 18 _ (nI 0) 1 d_Mo_zigzag_18 rfl (Or.inr (Or.inr (⟨rfl, hw_9, rfl⟩))) (hP.sub [0] rfl) (hD.sub [0] (by decide) rfl) hS
abbrev rm_Mo_unzigzag : Room := { frames := 7, cells := 1, slots := 6, locals := 102 }
set_option maxHeartbeats 1000000 in
set_option maxRecDepth 100000 in
/-- unzigzag, with what is thrown -/
theorem c_Mo_unzigzag (l : Launch) (htr : l.stackTraces = false) (g : pc_G) (y : Nat) (ta : Nat) (oa : Nat) (ma : Nat) (ca : Nat) (na : Nat) (la : Nat) (vn : Int32) (vo : Int32) (vm : Int32) (vc : Int32) (vk : Int32) (va : Int32) (vt : Int32) (k : Int32) : pc_X (S := Nat) l y_Mo_unzigzag (.codeWith y_Mo_unzigzag prog_11_method_38_code 3 (some .int) [(5, 10, 11, 37)]) (some .int) rm_Mo_unzigzag g [(y, .inr (5, [.ref ta, .ref oa, .ref ma, .int vn, .int vo, .int vm, .ref ca, .ref na, .ref la, .int vc, .int vk, .int va, .int vt]))] [.ref y, .int k] (fun rv u => (rv = .inl (nI (iN k / 2)) ∧ ¬ k < 0 ∧ iN k % 2 = 0 ∧ u = 0) ∨ (rv = .inl ((-(nI (iN k / 2))) - nI 1) ∧ ¬ k < 0 ∧ iN k % 2 ≠ 0 ∧ u = 0) ∨ (rv = .inl (nI 0) ∧ k < 0 ∧ u = 1)) (fun u => [(y, .inr (5, [.ref ta, .ref oa, .ref ma, .int vn, .int vo, .int vm, .ref ca, .ref na, .ref la, .int vc, .int vk, .int va, .int (nI u)]))]) := by
  refine pc_X.of (cc := prog_11_method_38_code) (nL := 3) (rt := (some .int)) (hh := [(5, 10, 11, 37)]) (by decide) tx_wd.with (by exact Nat.le_of_ble_eq_true rfl) htr ?_
  intro p e s m below meth c A Q hx hb hml hown hE hA htab hR hT hO hP hD ls hl
  have hS : va_S A s.heap s.heap [] := va_S.rf
  have hl : lv_has ls 3 [(0, .ref y), (1, .int k)] := hl
  refine lv_aload_n hx hb d_Mo_unzigzag_0 rfl (lv_at hl 0 rfl) ?_
  refine lv_iconst (v := nI 0) hx hb d_Mo_unzigzag_1 (by decide) ?_
  refine va_put (ci := 5) (ty := .int) (C := R_Mo) (T := F_Mo) (N := 13) hx hb hE.hts in_Mo t_Mo tk_Mo nn_Mo hown hE.2.1 hP hD hS 0 rfl rfl 12 (by decide) (hE.w m_502) (fun _ h9 => h9) rfl (by decide +kernel) (by rfl) (by rfl) (by exact Nat.le_of_ble_eq_true rfl) d_Mo_unzigzag_2 (fun H locs hP hD hS => ?_)
  have hP : va_P g.1 pc_cl [(y, .inr (5, [.ref ta, .ref oa, .ref ma, .int vn, .int vo, .int vm, .ref ca, .ref na, .ref la, .int vc, .int vk, .int va, .int (nI 0)]))] H := hP
  have hD : va_D A [(y, .inr (5, [.ref ta, .ref oa, .ref ma, .int vn, .int vo, .int vm, .ref ca, .ref na, .ref la, .int vc, .int vk, .int va, .int (nI 0)]))] := hD
  refine lv_aload_n hx hb d_Mo_unzigzag_5 rfl (lv_at hl 0 rfl) ?_
  refine lv_iload_n hx hb d_Mo_unzigzag_6 rfl (lv_at hl 1 rfl) ?_
  refine pc_x (rt := (some .int)) (wc := [(y, .inr (5, [.ref ta, .ref oa, .ref ma, .int vn, .int vo, .int vm, .ref ca, .ref na, .ref la, .int vc, .int vk, .int va, .int (nI 0)]))]) (wr := []) (cells' := 1) (slots' := 6) hP hD hS hA [0] [] rfl rfl (by decide) (by decide) rfl rfl (tx_runV (n := 1) (As := [.int k]) (rest := []) (C := R_Mo) hE hx hb hml hown (c_Mo_unzigzag0 l htr g y ta oa ma ca na la vn vo vm vc vk va (nI 0) k _) (fun U9 hW9 => tx_wd.plain.cd (hE.1.at hW9 m_669 #[])) m_669 m_5 m_666 m_668 ms_39 (by decide +kernel) (pc_preV (ci := 5) (q0 := 0) hP hD hE hS hA [0] (by decide) rfl [.int k] rfl rfl) ⟨by exact Nat.le_of_ble_eq_true rfl, by exact Nat.le_of_ble_eq_true rfl⟩ rfl rfl hl.1 rfl (lv_room (by exact Nat.le_of_ble_eq_true rfl)) d_Mo_unzigzag_7 ⟨by exact Nat.le_of_ble_eq_true rfl, by exact Nat.le_of_ble_eq_true rfl⟩) (fun r_2 u_1 H locs hw hP hD hS => ?_)
  have hP : va_P g.1 pc_cl [(y, .inr (5, [.ref ta, .ref oa, .ref ma, .int vn, .int vo, .int vm, .ref ca, .ref na, .ref la, .int vc, .int vk, .int va, .int (nI 0)]))] H := hP
  have hD : va_D A [(y, .inr (5, [.ref ta, .ref oa, .ref ma, .int vn, .int vo, .int vm, .ref ca, .ref na, .ref la, .int vc, .int vk, .int va, .int (nI 0)]))] := hD
  rcases hw with ⟨rfl, hw_3, hw_4⟩ | ⟨rfl, hw_5, hw_6⟩ | ⟨rfl, hw_7⟩
  · skip
    have hw_3 : ¬ k < 0 := hw_3
    have hw_4 : iN k % 2 = 0 := hw_4
    refine tx_onI ?_
    exact hR _ _ 10 _ (nI (iN k / 2)) 0 d_Mo_unzigzag_10 rfl (Or.inl (⟨rfl, hw_3, hw_4, rfl⟩)) (hP.sub [0] rfl) (hD.sub [0] (by decide) rfl) hS
  · skip
    have hw_5 : ¬ k < 0 := hw_5
    have hw_6 : iN k % 2 ≠ 0 := hw_6
    refine tx_onI ?_
    exact hR _ _ 10 _ ((-(nI (iN k / 2))) - nI 1) 0 d_Mo_unzigzag_10 rfl (Or.inr (Or.inl (⟨rfl, hw_5, hw_6, rfl⟩))) (hP.sub [0] rfl) (hD.sub [0] (by decide) rfl) hS
  · skip
    have hw_7 : k < 0 := hw_7
    refine tx_onX (fun q_8 ce hq1 hq2 hq3 => ?_)
    refine tx_catch (name := "java/lang/IllegalArgumentException") (E := "java/lang/IllegalArgumentException") hE hown [] ⟨5, 10, 11, 37⟩ [] htab (fun z hz => nomatch hz) (by decide) (by decide) m_548 m_199 hq1 hq2 hq3 ?_
    refine W.eq (g2 := F0 m 11 ls [.ref q_8]) rfl ?_
    refine lv_astore_n (lv' := [(2, .ref q_8), (0, .ref y), (1, .int k)]) hx hb d_Mo_unzigzag_11 rfl hl (by decide) rfl (fun ls hl => ?_)
    refine lv_aload_n hx hb d_Mo_unzigzag_12 rfl (lv_at hl 1 rfl) ?_
    refine lv_iconst (v := nI 1) hx hb d_Mo_unzigzag_13 (by decide) ?_
    refine va_put (ci := 5) (ty := .int) (C := R_Mo) (T := F_Mo) (N := 13) hx hb hE.hts in_Mo t_Mo tk_Mo nn_Mo hown hE.2.1 hP hD hS 0 rfl rfl 12 (by decide) (hE.w m_502) (fun _ h9 => h9) rfl (by decide +kernel) (by rfl) (by rfl) (by exact Nat.le_of_ble_eq_true rfl) d_Mo_unzigzag_14 (fun H locs hP hD hS => ?_)
    have hP : va_P g.1 pc_cl [(y, .inr (5, [.ref ta, .ref oa, .ref ma, .int vn, .int vo, .int vm, .ref ca, .ref na, .ref la, .int vc, .int vk, .int va, .int (nI 1)]))] H := hP
    have hD : va_D A [(y, .inr (5, [.ref ta, .ref oa, .ref ma, .int vn, .int vo, .int vm, .ref ca, .ref na, .ref la, .int vc, .int vk, .int va, .int (nI 1)]))] := hD
    refine lv_iconst (v := nI 0) hx hb d_Mo_unzigzag_17 (by decide) ?_
    exact hR _ _ 18 _ (nI 0) 1 d_Mo_unzigzag_18 rfl (Or.inr (Or.inr (⟨rfl, hw_7, rfl⟩))) (hP.sub [0] rfl) (hD.sub [0] (by decide) rfl) hS
abbrev rm_Mo_numbers : Room := { frames := 7, cells := 1, slots := 6, locals := 104 }
set_option maxHeartbeats 1000000 in
set_option maxRecDepth 100000 in
/-- numbers, with what is thrown -/
theorem c_Mo_numbers (l : Launch) (htr : l.stackTraces = false) (g : pc_G) (y : Nat) (ta : Nat) (oa : Nat) (ma : Nat) (ca : Nat) (na : Nat) (la : Nat) (vo : Int32) (vm : Int32) (vc : Int32) (vk : Int32) (va : Int32) (vt : Int32) (n : Nat) (t : Nat → UInt8) (lf : Nat → Int32) (nf : Nat → Int32) (hn : n ≤ 32768) : pc_X (S := Nat × Int32 × (Nat → Int32) × (Nat → Int32) × Nat × Nat) l y_Mo_numbers (.codeWith y_Mo_numbers prog_11_method_39_code 2 (some .int) [(5, 9, 10, 37)]) (some .int) rm_Mo_numbers g [(y, .inr (5, [.ref ta, .ref oa, .ref ma, .int (nI n), .int vo, .int vm, .ref ca, .ref na, .ref la, .int vc, .int vk, .int va, .int vt])), (ta, .inl (g.2.1, 32768, .inl (bA t))), (la, .inl (g.2.2.1, 32768, .inl lf)), (na, .inl (g.2.2.1, 32768, .inl nf))] [.ref y] (fun rv u => (rv = .inl (nI u.2.2.2.2.1) ∧ (∃ ns : List Nat, numsA (bl t n) (n + 1) 0 [] = some ns ∧ u.2.2.2.2.1 = ns.length ∧ u.2.2.2.2.1 ≤ 32768 ∧ ∀ j, j < u.2.2.2.2.1 → u.2.2.2.1 j = nI (ns.getD j 0)) ∧ u.2.1 = nI u.2.2.2.2.1 ∧ u.2.2.2.2.2 = 0) ∨ (rv = .inl (nI 0) ∧ numsA (bl t n) (n + 1) 0 [] = none ∧ u.2.1 = vk ∧ u.2.2.2.1 = nf ∧ u.2.2.2.2.2 = 1)) (fun u => [(y, .inr (5, [.ref ta, .ref oa, .ref ma, .int (nI 0), .int vo, .int vm, .ref ca, .ref na, .ref la, .int vc, .int u.2.1, .int (nI u.1), .int (nI u.2.2.2.2.2)])), (ta, .inl (g.2.1, 32768, .inl (bA t))), (la, .inl (g.2.2.1, 32768, .inl u.2.2.1)), (na, .inl (g.2.2.1, 32768, .inl u.2.2.2.1))]) := by
  refine pc_X.of (cc := prog_11_method_39_code) (nL := 2) (rt := (some .int)) (hh := [(5, 9, 10, 37)]) (by decide) tx_wd.with (by exact Nat.le_of_ble_eq_true rfl) htr ?_
  intro p e s m below meth c A Q hx hb hml hown hE hA htab hR hT hO hP hD ls hl
  have hS : va_S A s.heap s.heap [] := va_S.rf
  have hl : lv_has ls 2 [(0, .ref y)] := hl
  refine lv_aload_n hx hb d_Mo_numbers_0 rfl (lv_at hl 0 rfl) ?_
  refine lv_iconst (v := nI 0) hx hb d_Mo_numbers_1 (by decide) ?_
  refine va_put (ci := 5) (ty := .int) (C := R_Mo) (T := F_Mo) (N := 13) hx hb hE.hts in_Mo t_Mo tk_Mo nn_Mo hown hE.2.1 hP hD hS 0 rfl rfl 12 (by decide) (hE.w m_502) (fun _ h9 => h9) rfl (by decide +kernel) (by rfl) (by rfl) (by exact Nat.le_of_ble_eq_true rfl) d_Mo_numbers_2 (fun H locs hP hD hS => ?_)
  have hP : va_P g.1 pc_cl [(y, .inr (5, [.ref ta, .ref oa, .ref ma, .int (nI n), .int vo, .int vm, .ref ca, .ref na, .ref la, .int vc, .int vk, .int va, .int (nI 0)])), (ta, .inl (g.2.1, 32768, .inl (bA t))), (la, .inl (g.2.2.1, 32768, .inl lf)), (na, .inl (g.2.2.1, 32768, .inl nf))] H := hP
  have hD : va_D A [(y, .inr (5, [.ref ta, .ref oa, .ref ma, .int (nI n), .int vo, .int vm, .ref ca, .ref na, .ref la, .int vc, .int vk, .int va, .int (nI 0)])), (ta, .inl (g.2.1, 32768, .inl (bA t))), (la, .inl (g.2.2.1, 32768, .inl lf)), (na, .inl (g.2.2.1, 32768, .inl nf))] := hD
  refine lv_aload_n hx hb d_Mo_numbers_5 rfl (lv_at hl 0 rfl) ?_
  refine pc_x (rt := (some .int)) (wc := [(y, .inr (5, [.ref ta, .ref oa, .ref ma, .int (nI n), .int vo, .int vm, .ref ca, .ref na, .ref la, .int vc, .int vk, .int va, .int (nI 0)])), (ta, .inl (g.2.1, 32768, .inl (bA t))), (la, .inl (g.2.2.1, 32768, .inl lf)), (na, .inl (g.2.2.1, 32768, .inl nf))]) (wr := []) (cells' := 1) (slots' := 6) hP hD hS hA [0, 1, 2, 3] [] rfl rfl (by decide) (by decide) rfl rfl (tx_runV (n := 0) (As := []) (rest := []) (C := R_Mo) hE hx hb hml hown (c_Mo_numbers0 l htr g y ta oa ma ca na la vo vm vc vk va (nI 0) n t lf nf hn _) (fun U9 hW9 => tx_wd.plain.cd (hE.1.at hW9 m_677 #[])) m_677 m_5 m_674 m_676 ms_40 (by decide +kernel) (pc_preV (ci := 5) (q0 := 0) hP hD hE hS hA [0, 1, 2, 3] (by decide) rfl [] rfl rfl) ⟨by exact Nat.le_of_ble_eq_true rfl, by exact Nat.le_of_ble_eq_true rfl⟩ rfl rfl hl.1 rfl (lv_room (by exact Nat.le_of_ble_eq_true rfl)) d_Mo_numbers_6 ⟨by exact Nat.le_of_ble_eq_true rfl, by exact Nat.le_of_ble_eq_true rfl⟩) (fun r_2 u_1 H locs hw hP hD hS => ?_)
  obtain ⟨a2_3, k2_4, lf2_5, f3_6, n3_7⟩ := u_1
  have hP : va_P g.1 pc_cl [(y, .inr (5, [.ref ta, .ref oa, .ref ma, .int (nI 0), .int vo, .int vm, .ref ca, .ref na, .ref la, .int vc, .int k2_4, .int (nI a2_3), .int (nI 0)])), (ta, .inl (g.2.1, 32768, .inl (bA t))), (la, .inl (g.2.2.1, 32768, .inl lf2_5)), (na, .inl (g.2.2.1, 32768, .inl f3_6))] H := hP
  have hD : va_D A [(y, .inr (5, [.ref ta, .ref oa, .ref ma, .int (nI 0), .int vo, .int vm, .ref ca, .ref na, .ref la, .int vc, .int k2_4, .int (nI a2_3), .int (nI 0)])), (ta, .inl (g.2.1, 32768, .inl (bA t))), (la, .inl (g.2.2.1, 32768, .inl lf2_5)), (na, .inl (g.2.2.1, 32768, .inl f3_6))] := hD
  rcases hw with ⟨rfl, hw_8, hw_9⟩ | ⟨rfl, hw_10, hw_11, hw_12⟩
  · skip
    have hw_8 : ∃ ns : List Nat, numsA (bl t n) (n + 1) 0 [] = some ns ∧ n3_7 = ns.length ∧ n3_7 ≤ 32768 ∧ ∀ j, j < n3_7 → f3_6 j = nI (ns.getD j 0) := hw_8
    have hw_9 : k2_4 = nI n3_7 := hw_9
    refine tx_onI ?_
    exact hR _ _ 9 _ (nI n3_7) (a2_3, k2_4, lf2_5, f3_6, n3_7, 0) d_Mo_numbers_9 rfl (Or.inl (⟨rfl, hw_8, hw_9, rfl⟩)) (hP.sub [0, 1, 2, 3] rfl) (hD.sub [0, 1, 2, 3] (by decide) rfl) hS
  · skip
    have hw_10 : numsA (bl t n) (n + 1) 0 [] = none := hw_10
    have hw_11 : k2_4 = vk := hw_11
    have hw_12 : f3_6 = nf := hw_12
    refine tx_onX (fun q_13 ce hq1 hq2 hq3 => ?_)
    refine tx_catch (name := "java/lang/IllegalArgumentException") (E := "java/lang/IllegalArgumentException") hE hown [] ⟨5, 9, 10, 37⟩ [] htab (fun z hz => nomatch hz) (by decide) (by decide) m_548 m_199 hq1 hq2 hq3 ?_
    refine W.eq (g2 := F0 m 10 ls [.ref q_13]) rfl ?_
    refine lv_astore_n (lv' := [(1, .ref q_13), (0, .ref y)]) hx hb d_Mo_numbers_10 rfl hl (by decide) rfl (fun ls hl => ?_)
    refine lv_aload_n hx hb d_Mo_numbers_11 rfl (lv_at hl 1 rfl) ?_
    refine lv_iconst (v := nI 1) hx hb d_Mo_numbers_12 (by decide) ?_
    refine va_put (ci := 5) (ty := .int) (C := R_Mo) (T := F_Mo) (N := 13) hx hb hE.hts in_Mo t_Mo tk_Mo nn_Mo hown hE.2.1 hP hD hS 0 rfl rfl 12 (by decide) (hE.w m_502) (fun _ h9 => h9) rfl (by decide +kernel) (by rfl) (by rfl) (by exact Nat.le_of_ble_eq_true rfl) d_Mo_numbers_13 (fun H locs hP hD hS => ?_)
    have hP : va_P g.1 pc_cl [(y, .inr (5, [.ref ta, .ref oa, .ref ma, .int (nI 0), .int vo, .int vm, .ref ca, .ref na, .ref la, .int vc, .int k2_4, .int (nI a2_3), .int (nI 1)])), (ta, .inl (g.2.1, 32768, .inl (bA t))), (la, .inl (g.2.2.1, 32768, .inl lf2_5)), (na, .inl (g.2.2.1, 32768, .inl f3_6))] H := hP
    have hD : va_D A [(y, .inr (5, [.ref ta, .ref oa, .ref ma, .int (nI 0), .int vo, .int vm, .ref ca, .ref na, .ref la, .int vc, .int k2_4, .int (nI a2_3), .int (nI 1)])), (ta, .inl (g.2.1, 32768, .inl (bA t))), (la, .inl (g.2.2.1, 32768, .inl lf2_5)), (na, .inl (g.2.2.1, 32768, .inl f3_6))] := hD
    refine lv_iconst (v := nI 0) hx hb d_Mo_numbers_16 (by decide) ?_
    exact hR _ _ 17 _ (nI 0) (a2_3, k2_4, lf2_5, f3_6, n3_7, 1) d_Mo_numbers_17 rfl (Or.inr (⟨rfl, hw_10, hw_11, hw_12, rfl⟩)) (hP.sub [0, 1, 2, 3] rfl) (hD.sub [0, 1, 2, 3] (by decide) rfl) hS
abbrev rm_Mo_number : Room := { frames := 7, cells := 1, slots := 6, locals := 102 }
set_option maxHeartbeats 1000000 in
set_option maxRecDepth 100000 in
/-- number, with what is thrown -/
theorem c_Mo_number (l : Launch) (htr : l.stackTraces = false) (g : pc_G) (y : Nat) (ta : Nat) (oa : Nat) (ma : Nat) (ca : Nat) (na : Nat) (la : Nat) (vn : Int32) (vo : Int32) (vm : Int32) (vc : Int32) (va : Int32) (vt : Int32) (n : Nat) (f : Nat → Int32) (k : Int32) (hn : n ≤ 32768) : pc_X (S := Nat) l y_Mo_number (.codeWith y_Mo_number prog_11_method_40_code 3 (some .int) [(5, 10, 11, 98)]) (some .int) rm_Mo_number g [(y, .inr (5, [.ref ta, .ref oa, .ref ma, .int vn, .int vo, .int vm, .ref ca, .ref na, .ref la, .int vc, .int (nI n), .int va, .int vt])), (na, .inl (g.2.2.1, 32768, .inl f))] [.ref y, .int k] (fun rv u => (rv = .inl (f (iN k)) ∧ ¬ k < 0 ∧ iN k < n ∧ u = 0) ∨ (rv = .inl (nI 0) ∧ (k < 0 ∨ n ≤ iN k) ∧ u = 1)) (fun u => [(y, .inr (5, [.ref ta, .ref oa, .ref ma, .int vn, .int vo, .int vm, .ref ca, .ref na, .ref la, .int vc, .int (nI n), .int va, .int (nI u)])), (na, .inl (g.2.2.1, 32768, .inl f))]) := by
  refine pc_X.of (cc := prog_11_method_40_code) (nL := 3) (rt := (some .int)) (hh := [(5, 10, 11, 98)]) (by decide) tx_wd.with (by exact Nat.le_of_ble_eq_true rfl) htr ?_
  intro p e s m below meth c A Q hx hb hml hown hE hA htab hR hT hO hP hD ls hl
  have hS : va_S A s.heap s.heap [] := va_S.rf
  have hl : lv_has ls 3 [(0, .ref y), (1, .int k)] := hl
  refine lv_aload_n hx hb d_Mo_number_0 rfl (lv_at hl 0 rfl) ?_
  refine lv_iconst (v := nI 0) hx hb d_Mo_number_1 (by decide) ?_
  refine va_put (ci := 5) (ty := .int) (C := R_Mo) (T := F_Mo) (N := 13) hx hb hE.hts in_Mo t_Mo tk_Mo nn_Mo hown hE.2.1 hP hD hS 0 rfl rfl 12 (by decide) (hE.w m_502) (fun _ h9 => h9) rfl (by decide +kernel) (by rfl) (by rfl) (by exact Nat.le_of_ble_eq_true rfl) d_Mo_number_2 (fun H locs hP hD hS => ?_)
  have hP : va_P g.1 pc_cl [(y, .inr (5, [.ref ta, .ref oa, .ref ma, .int vn, .int vo, .int vm, .ref ca, .ref na, .ref la, .int vc, .int (nI n), .int va, .int (nI 0)])), (na, .inl (g.2.2.1, 32768, .inl f))] H := hP
  have hD : va_D A [(y, .inr (5, [.ref ta, .ref oa, .ref ma, .int vn, .int vo, .int vm, .ref ca, .ref na, .ref la, .int vc, .int (nI n), .int va, .int (nI 0)])), (na, .inl (g.2.2.1, 32768, .inl f))] := hD
  refine lv_aload_n hx hb d_Mo_number_5 rfl (lv_at hl 0 rfl) ?_
  refine lv_iload_n hx hb d_Mo_number_6 rfl (lv_at hl 1 rfl) ?_
  refine pc_x (rt := (some .int)) (wc := [(y, .inr (5, [.ref ta, .ref oa, .ref ma, .int vn, .int vo, .int vm, .ref ca, .ref na, .ref la, .int vc, .int (nI n), .int va, .int (nI 0)])), (na, .inl (g.2.2.1, 32768, .inl f))]) (wr := []) (cells' := 1) (slots' := 6) hP hD hS hA [0, 1] [] rfl rfl (by decide) (by decide) rfl rfl (tx_runV (n := 1) (As := [.int k]) (rest := []) (C := R_Mo) hE hx hb hml hown (c_Mo_number0 l htr g y ta oa ma ca na la vn vo vm vc va (nI 0) n f k hn _) (fun U9 hW9 => tx_wd.plain.cd (hE.1.at hW9 m_685 #[])) m_685 m_5 m_682 m_684 ms_41 (by decide +kernel) (pc_preV (ci := 5) (q0 := 0) hP hD hE hS hA [0, 1] (by decide) rfl [.int k] rfl rfl) ⟨by exact Nat.le_of_ble_eq_true rfl, by exact Nat.le_of_ble_eq_true rfl⟩ rfl rfl hl.1 rfl (lv_room (by exact Nat.le_of_ble_eq_true rfl)) d_Mo_number_7 ⟨by exact Nat.le_of_ble_eq_true rfl, by exact Nat.le_of_ble_eq_true rfl⟩) (fun r_2 u_1 H locs hw hP hD hS => ?_)
  have hP : va_P g.1 pc_cl [(y, .inr (5, [.ref ta, .ref oa, .ref ma, .int vn, .int vo, .int vm, .ref ca, .ref na, .ref la, .int vc, .int (nI n), .int va, .int (nI 0)])), (na, .inl (g.2.2.1, 32768, .inl f))] H := hP
  have hD : va_D A [(y, .inr (5, [.ref ta, .ref oa, .ref ma, .int vn, .int vo, .int vm, .ref ca, .ref na, .ref la, .int vc, .int (nI n), .int va, .int (nI 0)])), (na, .inl (g.2.2.1, 32768, .inl f))] := hD
  rcases hw with ⟨rfl, hw_3, hw_4⟩ | ⟨rfl, hw_5⟩
  · skip
    have hw_3 : ¬ k < 0 := hw_3
    have hw_4 : iN k < n := hw_4
    refine tx_onI ?_
    exact hR _ _ 10 _ (f (iN k)) 0 d_Mo_number_10 rfl (Or.inl (⟨rfl, hw_3, hw_4, rfl⟩)) (hP.sub [0, 1] rfl) (hD.sub [0, 1] (by decide) rfl) hS
  · skip
    have hw_5 : k < 0 ∨ n ≤ iN k := hw_5
    refine tx_onX (fun q_6 ce hq1 hq2 hq3 => ?_)
    refine tx_catch (name := "java/util/NoSuchElementException") (E := "java/util/NoSuchElementException") hE hown [] ⟨5, 10, 11, 98⟩ [] htab (fun z hz => nomatch hz) (by decide) (by decide) m_626 m_382 hq1 hq2 hq3 ?_
    refine W.eq (g2 := F0 m 11 ls [.ref q_6]) rfl ?_
    refine lv_astore_n (lv' := [(2, .ref q_6), (0, .ref y), (1, .int k)]) hx hb d_Mo_number_11 rfl hl (by decide) rfl (fun ls hl => ?_)
    refine lv_aload_n hx hb d_Mo_number_12 rfl (lv_at hl 1 rfl) ?_
    refine lv_iconst (v := nI 1) hx hb d_Mo_number_13 (by decide) ?_
    refine va_put (ci := 5) (ty := .int) (C := R_Mo) (T := F_Mo) (N := 13) hx hb hE.hts in_Mo t_Mo tk_Mo nn_Mo hown hE.2.1 hP hD hS 0 rfl rfl 12 (by decide) (hE.w m_502) (fun _ h9 => h9) rfl (by decide +kernel) (by rfl) (by rfl) (by exact Nat.le_of_ble_eq_true rfl) d_Mo_number_14 (fun H locs hP hD hS => ?_)
    have hP : va_P g.1 pc_cl [(y, .inr (5, [.ref ta, .ref oa, .ref ma, .int vn, .int vo, .int vm, .ref ca, .ref na, .ref la, .int vc, .int (nI n), .int va, .int (nI 1)])), (na, .inl (g.2.2.1, 32768, .inl f))] H := hP
    have hD : va_D A [(y, .inr (5, [.ref ta, .ref oa, .ref ma, .int vn, .int vo, .int vm, .ref ca, .ref na, .ref la, .int vc, .int (nI n), .int va, .int (nI 1)])), (na, .inl (g.2.2.1, 32768, .inl f))] := hD
    refine lv_iconst (v := nI 0) hx hb d_Mo_number_17 (by decide) ?_
    exact hR _ _ 18 _ (nI 0) 1 d_Mo_number_18 rfl (Or.inr (⟨rfl, hw_5, rfl⟩)) (hP.sub [0, 1] rfl) (hD.sub [0, 1] (by decide) rfl) hS
abbrev rm_Mo_checksum : Room := { frames := 7, cells := 1, slots := 6, locals := 107 }
set_option maxHeartbeats 1000000 in
set_option maxRecDepth 100000 in
/-- checksum, with what is thrown -/
theorem c_Mo_checksum (l : Launch) (htr : l.stackTraces = false) (g : pc_G) (y : Nat) (ta : Nat) (oa : Nat) (ma : Nat) (ca : Nat) (na : Nat) (la : Nat) (vn : Int32) (vm : Int32) (vc : Int32) (vk : Int32) (va : Int32) (vt : Int32) (n : Nat) (t : Nat → UInt8) (k : Int32) (hn : n ≤ 32768) : pc_X (S := Nat) l y_Mo_checksum (.codeWith y_Mo_checksum prog_11_method_41_code 3 (some .int) [(5, 10, 11, 37)]) (some .int) rm_Mo_checksum g [(y, .inr (5, [.ref ta, .ref oa, .ref ma, .int vn, .int (nI n), .int vm, .ref ca, .ref na, .ref la, .int vc, .int vk, .int va, .int vt])), (oa, .inl (g.2.1, 32768, .inl (bA t)))] [.ref y, .int k] (fun rv u => (rv = .inl (cF t (iN k) ^^^ (-1)) ∧ ¬ k < 0 ∧ iN k ≤ n ∧ u = 0) ∨ (rv = .inl (nI 0) ∧ (k < 0 ∨ n < iN k) ∧ u = 1)) (fun u => [(y, .inr (5, [.ref ta, .ref oa, .ref ma, .int vn, .int (nI n), .int vm, .ref ca, .ref na, .ref la, .int vc, .int vk, .int va, .int (nI u)])), (oa, .inl (g.2.1, 32768, .inl (bA t)))]) := by
  refine pc_X.of (cc := prog_11_method_41_code) (nL := 3) (rt := (some .int)) (hh := [(5, 10, 11, 37)]) (by decide) tx_wd.with (by exact Nat.le_of_ble_eq_true rfl) htr ?_
  intro p e s m below meth c A Q hx hb hml hown hE hA htab hR hT hO hP hD ls hl
  have hS : va_S A s.heap s.heap [] := va_S.rf
  have hl : lv_has ls 3 [(0, .ref y), (1, .int k)] := hl
  refine lv_aload_n hx hb d_Mo_checksum_0 rfl (lv_at hl 0 rfl) ?_
  refine lv_iconst (v := nI 0) hx hb d_Mo_checksum_1 (by decide) ?_
  refine va_put (ci := 5) (ty := .int) (C := R_Mo) (T := F_Mo) (N := 13) hx hb hE.hts in_Mo t_Mo tk_Mo nn_Mo hown hE.2.1 hP hD hS 0 rfl rfl 12 (by decide) (hE.w m_502) (fun _ h9 => h9) rfl (by decide +kernel) (by rfl) (by rfl) (by exact Nat.le_of_ble_eq_true rfl) d_Mo_checksum_2 (fun H locs hP hD hS => ?_)
  have hP : va_P g.1 pc_cl [(y, .inr (5, [.ref ta, .ref oa, .ref ma, .int vn, .int (nI n), .int vm, .ref ca, .ref na, .ref la, .int vc, .int vk, .int va, .int (nI 0)])), (oa, .inl (g.2.1, 32768, .inl (bA t)))] H := hP
  have hD : va_D A [(y, .inr (5, [.ref ta, .ref oa, .ref ma, .int vn, .int (nI n), .int vm, .ref ca, .ref na, .ref la, .int vc, .int vk, .int va, .int (nI 0)])), (oa, .inl (g.2.1, 32768, .inl (bA t)))] := hD
  refine lv_aload_n hx hb d_Mo_checksum_5 rfl (lv_at hl 0 rfl) ?_
  refine lv_iload_n hx hb d_Mo_checksum_6 rfl (lv_at hl 1 rfl) ?_
  refine pc_x (rt := (some .int)) (wc := [(y, .inr (5, [.ref ta, .ref oa, .ref ma, .int vn, .int (nI n), .int vm, .ref ca, .ref na, .ref la, .int vc, .int vk, .int va, .int (nI 0)])), (oa, .inl (g.2.1, 32768, .inl (bA t)))]) (wr := []) (cells' := 1) (slots' := 6) hP hD hS hA [0, 1] [] rfl rfl (by decide) (by decide) rfl rfl (tx_runV (n := 1) (As := [.int k]) (rest := []) (C := R_Mo) hE hx hb hml hown (c_Mo_checksum0 l htr g y ta oa ma ca na la vn vm vc vk va (nI 0) n t k hn _) (fun U9 hW9 => tx_wd.plain.cd (hE.1.at hW9 m_693 #[])) m_693 m_5 m_690 m_692 ms_42 (by decide +kernel) (pc_preV (ci := 5) (q0 := 0) hP hD hE hS hA [0, 1] (by decide) rfl [.int k] rfl rfl) ⟨by exact Nat.le_of_ble_eq_true rfl, by exact Nat.le_of_ble_eq_true rfl⟩ rfl rfl hl.1 rfl (lv_room (by exact Nat.le_of_ble_eq_true rfl)) d_Mo_checksum_7 ⟨by exact Nat.le_of_ble_eq_true rfl, by exact Nat.le_of_ble_eq_true rfl⟩) (fun r_2 u_1 H locs hw hP hD hS => ?_)
  have hP : va_P g.1 pc_cl [(y, .inr (5, [.ref ta, .ref oa, .ref ma, .int vn, .int (nI n), .int vm, .ref ca, .ref na, .ref la, .int vc, .int vk, .int va, .int (nI 0)])), (oa, .inl (g.2.1, 32768, .inl (bA t)))] H := hP
  have hD : va_D A [(y, .inr (5, [.ref ta, .ref oa, .ref ma, .int vn, .int (nI n), .int vm, .ref ca, .ref na, .ref la, .int vc, .int vk, .int va, .int (nI 0)])), (oa, .inl (g.2.1, 32768, .inl (bA t)))] := hD
  rcases hw with ⟨rfl, hw_3, hw_4⟩ | ⟨rfl, hw_5⟩
  · skip
    have hw_3 : ¬ k < 0 := hw_3
    have hw_4 : iN k ≤ n := hw_4
    refine tx_onI ?_
    exact hR _ _ 10 _ (cF t (iN k) ^^^ (-1)) 0 d_Mo_checksum_10 rfl (Or.inl (⟨rfl, hw_3, hw_4, rfl⟩)) (hP.sub [0, 1] rfl) (hD.sub [0, 1] (by decide) rfl) hS
  · skip
    have hw_5 : k < 0 ∨ n < iN k := hw_5
    refine tx_onX (fun q_6 ce hq1 hq2 hq3 => ?_)
    refine tx_catch (name := "java/lang/IllegalArgumentException") (E := "java/lang/IllegalArgumentException") hE hown [] ⟨5, 10, 11, 37⟩ [] htab (fun z hz => nomatch hz) (by decide) (by decide) m_548 m_199 hq1 hq2 hq3 ?_
    refine W.eq (g2 := F0 m 11 ls [.ref q_6]) rfl ?_
    refine lv_astore_n (lv' := [(2, .ref q_6), (0, .ref y), (1, .int k)]) hx hb d_Mo_checksum_11 rfl hl (by decide) rfl (fun ls hl => ?_)
    refine lv_aload_n hx hb d_Mo_checksum_12 rfl (lv_at hl 1 rfl) ?_
    refine lv_iconst (v := nI 1) hx hb d_Mo_checksum_13 (by decide) ?_
    refine va_put (ci := 5) (ty := .int) (C := R_Mo) (T := F_Mo) (N := 13) hx hb hE.hts in_Mo t_Mo tk_Mo nn_Mo hown hE.2.1 hP hD hS 0 rfl rfl 12 (by decide) (hE.w m_502) (fun _ h9 => h9) rfl (by decide +kernel) (by rfl) (by rfl) (by exact Nat.le_of_ble_eq_true rfl) d_Mo_checksum_14 (fun H locs hP hD hS => ?_)
    have hP : va_P g.1 pc_cl [(y, .inr (5, [.ref ta, .ref oa, .ref ma, .int vn, .int (nI n), .int vm, .ref ca, .ref na, .ref la, .int vc, .int vk, .int va, .int (nI 1)])), (oa, .inl (g.2.1, 32768, .inl (bA t)))] H := hP
    have hD : va_D A [(y, .inr (5, [.ref ta, .ref oa, .ref ma, .int vn, .int (nI n), .int vm, .ref ca, .ref na, .ref la, .int vc, .int vk, .int va, .int (nI 1)])), (oa, .inl (g.2.1, 32768, .inl (bA t)))] := hD
    refine lv_iconst (v := nI 0) hx hb d_Mo_checksum_17 (by decide) ?_
    exact hR _ _ 18 _ (nI 0) 1 d_Mo_checksum_18 rfl (Or.inr (⟨rfl, hw_5, rfl⟩)) (hP.sub [0, 1] rfl) (hD.sub [0, 1] (by decide) rfl) hS
abbrev rm_Mo_octet : Room := { frames := 7, cells := 1, slots := 6, locals := 102 }
set_option maxHeartbeats 1000000 in
set_option maxRecDepth 100000 in
/-- octet, with what is thrown -/
theorem c_Mo_octet (l : Launch) (htr : l.stackTraces = false) (g : pc_G) (y : Nat) (ta : Nat) (oa : Nat) (ma : Nat) (ca : Nat) (na : Nat) (la : Nat) (vn : Int32) (vm : Int32) (vc : Int32) (vk : Int32) (va : Int32) (vt : Int32) (n : Nat) (t : Nat → UInt8) (k : Int32) (hn : n ≤ 32768) : pc_X (S := Nat) l y_Mo_octet (.codeWith y_Mo_octet prog_11_method_42_code 3 (some .int) [(5, 10, 11, 98)]) (some .int) rm_Mo_octet g [(y, .inr (5, [.ref ta, .ref oa, .ref ma, .int vn, .int (nI n), .int vm, .ref ca, .ref na, .ref la, .int vc, .int vk, .int va, .int vt])), (oa, .inl (g.2.1, 32768, .inl (bA t)))] [.ref y, .int k] (fun rv u => (rv = .inl (nI n) ∧ k = -1 ∧ u = 0) ∨ (rv = .inl (nI (bN t (iN k))) ∧ ¬ k < 0 ∧ iN k < n ∧ u = 0) ∨ (rv = .inl (nI 0) ∧ (k < (-1) ∨ (¬ k < 0 ∧ n ≤ iN k)) ∧ u = 1)) (fun u => [(y, .inr (5, [.ref ta, .ref oa, .ref ma, .int vn, .int (nI n), .int vm, .ref ca, .ref na, .ref la, .int vc, .int vk, .int va, .int (nI u)])), (oa, .inl (g.2.1, 32768, .inl (bA t)))]) := by
  refine pc_X.of (cc := prog_11_method_42_code) (nL := 3) (rt := (some .int)) (hh := [(5, 10, 11, 98)]) (by decide) tx_wd.with (by exact Nat.le_of_ble_eq_true rfl) htr ?_
  intro p e s m below meth c A Q hx hb hml hown hE hA htab hR hT hO hP hD ls hl
  have hS : va_S A s.heap s.heap [] := va_S.rf
  have hl : lv_has ls 3 [(0, .ref y), (1, .int k)] := hl
  refine lv_aload_n hx hb d_Mo_octet_0 rfl (lv_at hl 0 rfl) ?_
  refine lv_iconst (v := nI 0) hx hb d_Mo_octet_1 (by decide) ?_
  refine va_put (ci := 5) (ty := .int) (C := R_Mo) (T := F_Mo) (N := 13) hx hb hE.hts in_Mo t_Mo tk_Mo nn_Mo hown hE.2.1 hP hD hS 0 rfl rfl 12 (by decide) (hE.w m_502) (fun _ h9 => h9) rfl (by decide +kernel) (by rfl) (by rfl) (by exact Nat.le_of_ble_eq_true rfl) d_Mo_octet_2 (fun H locs hP hD hS => ?_)
  have hP : va_P g.1 pc_cl [(y, .inr (5, [.ref ta, .ref oa, .ref ma, .int vn, .int (nI n), .int vm, .ref ca, .ref na, .ref la, .int vc, .int vk, .int va, .int (nI 0)])), (oa, .inl (g.2.1, 32768, .inl (bA t)))] H := hP
  have hD : va_D A [(y, .inr (5, [.ref ta, .ref oa, .ref ma, .int vn, .int (nI n), .int vm, .ref ca, .ref na, .ref la, .int vc, .int vk, .int va, .int (nI 0)])), (oa, .inl (g.2.1, 32768, .inl (bA t)))] := hD
  refine lv_aload_n hx hb d_Mo_octet_5 rfl (lv_at hl 0 rfl) ?_
  refine lv_iload_n hx hb d_Mo_octet_6 rfl (lv_at hl 1 rfl) ?_
  refine pc_x (rt := (some .int)) (wc := [(y, .inr (5, [.ref ta, .ref oa, .ref ma, .int vn, .int (nI n), .int vm, .ref ca, .ref na, .ref la, .int vc, .int vk, .int va, .int (nI 0)])), (oa, .inl (g.2.1, 32768, .inl (bA t)))]) (wr := []) (cells' := 1) (slots' := 6) hP hD hS hA [0, 1] [] rfl rfl (by decide) (by decide) rfl rfl (tx_runV (n := 1) (As := [.int k]) (rest := []) (C := R_Mo) hE hx hb hml hown (c_Mo_octet0 l htr g y ta oa ma ca na la vn vm vc vk va (nI 0) n t k hn _) (fun U9 hW9 => tx_wd.plain.cd (hE.1.at hW9 m_704 #[])) m_704 m_5 m_701 m_703 ms_43 (by decide +kernel) (pc_preV (ci := 5) (q0 := 0) hP hD hE hS hA [0, 1] (by decide) rfl [.int k] rfl rfl) ⟨by exact Nat.le_of_ble_eq_true rfl, by exact Nat.le_of_ble_eq_true rfl⟩ rfl rfl hl.1 rfl (lv_room (by exact Nat.le_of_ble_eq_true rfl)) d_Mo_octet_7 ⟨by exact Nat.le_of_ble_eq_true rfl, by exact Nat.le_of_ble_eq_true rfl⟩) (fun r_2 u_1 H locs hw hP hD hS => ?_)
  have hP : va_P g.1 pc_cl [(y, .inr (5, [.ref ta, .ref oa, .ref ma, .int vn, .int (nI n), .int vm, .ref ca, .ref na, .ref la, .int vc, .int vk, .int va, .int (nI 0)])), (oa, .inl (g.2.1, 32768, .inl (bA t)))] H := hP
  have hD : va_D A [(y, .inr (5, [.ref ta, .ref oa, .ref ma, .int vn, .int (nI n), .int vm, .ref ca, .ref na, .ref la, .int vc, .int vk, .int va, .int (nI 0)])), (oa, .inl (g.2.1, 32768, .inl (bA t)))] := hD
  rcases hw with ⟨rfl, hw_3⟩ | ⟨rfl, hw_4, hw_5⟩ | ⟨rfl, hw_6⟩
  · skip
    have hw_3 : k = -1 := hw_3
    refine tx_onI ?_
    exact hR _ _ 10 _ (nI n) 0 d_Mo_octet_10 rfl (Or.inl (⟨rfl, hw_3, rfl⟩)) (hP.sub [0, 1] rfl) (hD.sub [0, 1] (by decide) rfl) hS
  · skip
    have hw_4 : ¬ k < 0 := hw_4
    have hw_5 : iN k < n := hw_5
    refine tx_onI ?_
    exact hR _ _ 10 _ (nI (bN t (iN k))) 0 d_Mo_octet_10 rfl (Or.inr (Or.inl (⟨rfl, hw_4, hw_5, rfl⟩))) (hP.sub [0, 1] rfl) (hD.sub [0, 1] (by decide) rfl) hS
  · skip
    have hw_6 : k < (-1) ∨ (¬ k < 0 ∧ n ≤ iN k) := hw_6
    refine tx_onX (fun q_7 ce hq1 hq2 hq3 => ?_)
    refine tx_catch (name := "java/util/NoSuchElementException") (E := "java/util/NoSuchElementException") hE hown [] ⟨5, 10, 11, 98⟩ [] htab (fun z hz => nomatch hz) (by decide) (by decide) m_626 m_382 hq1 hq2 hq3 ?_
    refine W.eq (g2 := F0 m 11 ls [.ref q_7]) rfl ?_
    refine lv_astore_n (lv' := [(2, .ref q_7), (0, .ref y), (1, .int k)]) hx hb d_Mo_octet_11 rfl hl (by decide) rfl (fun ls hl => ?_)
    refine lv_aload_n hx hb d_Mo_octet_12 rfl (lv_at hl 1 rfl) ?_
    refine lv_iconst (v := nI 1) hx hb d_Mo_octet_13 (by decide) ?_
    refine va_put (ci := 5) (ty := .int) (C := R_Mo) (T := F_Mo) (N := 13) hx hb hE.hts in_Mo t_Mo tk_Mo nn_Mo hown hE.2.1 hP hD hS 0 rfl rfl 12 (by decide) (hE.w m_502) (fun _ h9 => h9) rfl (by decide +kernel) (by rfl) (by rfl) (by exact Nat.le_of_ble_eq_true rfl) d_Mo_octet_14 (fun H locs hP hD hS => ?_)
    have hP : va_P g.1 pc_cl [(y, .inr (5, [.ref ta, .ref oa, .ref ma, .int vn, .int (nI n), .int vm, .ref ca, .ref na, .ref la, .int vc, .int vk, .int va, .int (nI 1)])), (oa, .inl (g.2.1, 32768, .inl (bA t)))] H := hP
    have hD : va_D A [(y, .inr (5, [.ref ta, .ref oa, .ref ma, .int vn, .int (nI n), .int vm, .ref ca, .ref na, .ref la, .int vc, .int vk, .int va, .int (nI 1)])), (oa, .inl (g.2.1, 32768, .inl (bA t)))] := hD
    refine lv_iconst (v := nI 0) hx hb d_Mo_octet_17 (by decide) ?_
    exact hR _ _ 18 _ (nI 0) 1 d_Mo_octet_18 rfl (Or.inr (Or.inr (⟨rfl, hw_6, rfl⟩))) (hP.sub [0, 1] rfl) (hD.sub [0, 1] (by decide) rfl) hS
abbrev rm_Mo_back : Room := { frames := 7, cells := 1, slots := 6, locals := 101 }
set_option maxHeartbeats 1000000 in
set_option maxRecDepth 100000 in
/-- back, with what is thrown -/
theorem c_Mo_back (l : Launch) (htr : l.stackTraces = false) (g : pc_G) (y : Nat) (ta : Nat) (oa : Nat) (ma : Nat) (ca : Nat) (na : Nat) (la : Nat) (vm : Int32) (vc : Int32) (vk : Int32) (va : Int32) (vt : Int32) (n : Nat) (no : Nat) (t : Nat → UInt8) (to : Nat → UInt8) (hn : n ≤ 32768) (hno : no ≤ 32768) : pc_X (S := Nat × (Nat → UInt8) × Nat × Nat) l y_Mo_back (.codeWith y_Mo_back prog_11_method_43_code 2 (some .int) [(5, 9, 10, 34)]) (some .int) rm_Mo_back g [(y, .inr (5, [.ref ta, .ref oa, .ref ma, .int (nI n), .int (nI no), .int vm, .ref ca, .ref na, .ref la, .int vc, .int vk, .int va, .int vt])), (ta, .inl (g.2.1, 32768, .inl (bA t))), (oa, .inl (g.2.1, 32768, .inl (bA to)))] [.ref y] (fun rv u => (rv = .inl (nI u.1) ∧ n + no ≤ 32768 ∧ u.1 = n + no ∧ bl u.2.1 u.1 = bl t n ++ bl to no ∧ u.2.2.1 = 0 ∧ u.2.2.2 = 0) ∨ (rv = .inl (nI 0) ∧ 32768 < n + no ∧ u.1 = n ∧ u.2.1 = t ∧ u.2.2.1 = no ∧ u.2.2.2 = 1)) (fun u => [(y, .inr (5, [.ref ta, .ref oa, .ref ma, .int (nI u.1), .int (nI u.2.2.1), .int vm, .ref ca, .ref na, .ref la, .int vc, .int vk, .int va, .int (nI u.2.2.2)])), (ta, .inl (g.2.1, 32768, .inl (bA u.2.1))), (oa, .inl (g.2.1, 32768, .inl (bA to)))]) := by
  refine pc_X.of (cc := prog_11_method_43_code) (nL := 2) (rt := (some .int)) (hh := [(5, 9, 10, 34)]) (by decide) tx_wd.with (by exact Nat.le_of_ble_eq_true rfl) htr ?_
  intro p e s m below meth c A Q hx hb hml hown hE hA htab hR hT hO hP hD ls hl
  have hS : va_S A s.heap s.heap [] := va_S.rf
  have hl : lv_has ls 2 [(0, .ref y)] := hl
  refine lv_aload_n hx hb d_Mo_back_0 rfl (lv_at hl 0 rfl) ?_
  refine lv_iconst (v := nI 0) hx hb d_Mo_back_1 (by decide) ?_
  refine va_put (ci := 5) (ty := .int) (C := R_Mo) (T := F_Mo) (N := 13) hx hb hE.hts in_Mo t_Mo tk_Mo nn_Mo hown hE.2.1 hP hD hS 0 rfl rfl 12 (by decide) (hE.w m_502) (fun _ h9 => h9) rfl (by decide +kernel) (by rfl) (by rfl) (by exact Nat.le_of_ble_eq_true rfl) d_Mo_back_2 (fun H locs hP hD hS => ?_)
  have hP : va_P g.1 pc_cl [(y, .inr (5, [.ref ta, .ref oa, .ref ma, .int (nI n), .int (nI no), .int vm, .ref ca, .ref na, .ref la, .int vc, .int vk, .int va, .int (nI 0)])), (ta, .inl (g.2.1, 32768, .inl (bA t))), (oa, .inl (g.2.1, 32768, .inl (bA to)))] H := hP
  have hD : va_D A [(y, .inr (5, [.ref ta, .ref oa, .ref ma, .int (nI n), .int (nI no), .int vm, .ref ca, .ref na, .ref la, .int vc, .int vk, .int va, .int (nI 0)])), (ta, .inl (g.2.1, 32768, .inl (bA t))), (oa, .inl (g.2.1, 32768, .inl (bA to)))] := hD
  refine lv_aload_n hx hb d_Mo_back_5 rfl (lv_at hl 0 rfl) ?_
  refine pc_x (rt := (some .int)) (wc := [(y, .inr (5, [.ref ta, .ref oa, .ref ma, .int (nI n), .int (nI no), .int vm, .ref ca, .ref na, .ref la, .int vc, .int vk, .int va, .int (nI 0)])), (ta, .inl (g.2.1, 32768, .inl (bA t))), (oa, .inl (g.2.1, 32768, .inl (bA to)))]) (wr := []) (cells' := 1) (slots' := 6) hP hD hS hA [0, 1, 2] [] rfl rfl (by decide) (by decide) rfl rfl (tx_runV (n := 0) (As := []) (rest := []) (C := R_Mo) hE hx hb hml hown (c_Mo_back0 l htr g y ta oa ma ca na la vm vc vk va (nI 0) n no t to hn hno _) (fun U9 hW9 => tx_wd.plain.cd (hE.1.at hW9 m_712 #[])) m_712 m_5 m_709 m_711 ms_44 (by decide +kernel) (pc_preV (ci := 5) (q0 := 0) hP hD hE hS hA [0, 1, 2] (by decide) rfl [] rfl rfl) ⟨by exact Nat.le_of_ble_eq_true rfl, by exact Nat.le_of_ble_eq_true rfl⟩ rfl rfl hl.1 rfl (lv_room (by exact Nat.le_of_ble_eq_true rfl)) d_Mo_back_6 ⟨by exact Nat.le_of_ble_eq_true rfl, by exact Nat.le_of_ble_eq_true rfl⟩) (fun r_2 u_1 H locs hw hP hD hS => ?_)
  obtain ⟨n2_3, t2_4, no2_5⟩ := u_1
  have hP : va_P g.1 pc_cl [(y, .inr (5, [.ref ta, .ref oa, .ref ma, .int (nI n2_3), .int (nI no2_5), .int vm, .ref ca, .ref na, .ref la, .int vc, .int vk, .int va, .int (nI 0)])), (ta, .inl (g.2.1, 32768, .inl (bA t2_4))), (oa, .inl (g.2.1, 32768, .inl (bA to)))] H := hP
  have hD : va_D A [(y, .inr (5, [.ref ta, .ref oa, .ref ma, .int (nI n2_3), .int (nI no2_5), .int vm, .ref ca, .ref na, .ref la, .int vc, .int vk, .int va, .int (nI 0)])), (ta, .inl (g.2.1, 32768, .inl (bA t2_4))), (oa, .inl (g.2.1, 32768, .inl (bA to)))] := hD
  rcases hw with ⟨rfl, hw_6, hw_7, hw_8, hw_9⟩ | ⟨rfl, hw_10, hw_11, hw_12, hw_13⟩
  · skip
    have hw_6 : n + no ≤ 32768 := hw_6
    have hw_7 : n2_3 = n + no := hw_7
    have hw_8 : bl t2_4 n2_3 = bl t n ++ bl to no := hw_8
    have hw_9 : no2_5 = 0 := hw_9
    refine tx_onI ?_
    exact hR _ _ 9 _ (nI n2_3) (n2_3, t2_4, no2_5, 0) d_Mo_back_9 rfl (Or.inl (⟨rfl, hw_6, hw_7, hw_8, hw_9, rfl⟩)) (hP.sub [0, 1, 2] rfl) (hD.sub [0, 1, 2] (by decide) rfl) hS
  · skip
    have hw_10 : 32768 < n + no := hw_10
    have hw_11 : n2_3 = n := hw_11
    have hw_12 : t2_4 = t := hw_12
    have hw_13 : no2_5 = no := hw_13
    refine tx_onX (fun q_14 ce hq1 hq2 hq3 => ?_)
    refine tx_catch (name := "java/lang/IllegalStateException") (E := "java/lang/IllegalStateException") hE hown [] ⟨5, 9, 10, 34⟩ [] htab (fun z hz => nomatch hz) (by decide) (by decide) m_538 m_120 hq1 hq2 hq3 ?_
    refine W.eq (g2 := F0 m 10 ls [.ref q_14]) rfl ?_
    refine lv_astore_n (lv' := [(1, .ref q_14), (0, .ref y)]) hx hb d_Mo_back_10 rfl hl (by decide) rfl (fun ls hl => ?_)
    refine lv_aload_n hx hb d_Mo_back_11 rfl (lv_at hl 1 rfl) ?_
    refine lv_iconst (v := nI 1) hx hb d_Mo_back_12 (by decide) ?_
    refine va_put (ci := 5) (ty := .int) (C := R_Mo) (T := F_Mo) (N := 13) hx hb hE.hts in_Mo t_Mo tk_Mo nn_Mo hown hE.2.1 hP hD hS 0 rfl rfl 12 (by decide) (hE.w m_502) (fun _ h9 => h9) rfl (by decide +kernel) (by rfl) (by rfl) (by exact Nat.le_of_ble_eq_true rfl) d_Mo_back_13 (fun H locs hP hD hS => ?_)
    have hP : va_P g.1 pc_cl [(y, .inr (5, [.ref ta, .ref oa, .ref ma, .int (nI n2_3), .int (nI no2_5), .int vm, .ref ca, .ref na, .ref la, .int vc, .int vk, .int va, .int (nI 1)])), (ta, .inl (g.2.1, 32768, .inl (bA t2_4))), (oa, .inl (g.2.1, 32768, .inl (bA to)))] H := hP
    have hD : va_D A [(y, .inr (5, [.ref ta, .ref oa, .ref ma, .int (nI n2_3), .int (nI no2_5), .int vm, .ref ca, .ref na, .ref la, .int vc, .int vk, .int va, .int (nI 1)])), (ta, .inl (g.2.1, 32768, .inl (bA t2_4))), (oa, .inl (g.2.1, 32768, .inl (bA to)))] := hD
    refine lv_iconst (v := nI 0) hx hb d_Mo_back_16 (by decide) ?_
    exact hR _ _ 17 _ (nI 0) (n2_3, t2_4, no2_5, 1) d_Mo_back_17 rfl (Or.inr (⟨rfl, hw_10, hw_11, hw_12, hw_13, rfl⟩)) (hP.sub [0, 1, 2] rfl) (hD.sub [0, 1, 2] (by decide) rfl) hS
