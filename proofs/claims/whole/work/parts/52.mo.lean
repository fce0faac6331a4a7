abbrev rm_Mo_pack0 : Room := { frames := 6, cells := 1, slots := 6, locals := 81 }
set_option maxHeartbeats 1000000 in
set_option maxRecDepth 100000 in
/-- pack -/
theorem c_Mo_pack0 (l : Launch) (htr : l.stackTraces = false) (g : pc_G) (y : Nat) (ta : Nat) (oa : Nat) (ma : Nat) (ca : Nat) (na : Nat) (la : Nat) (vo : Int32) (vm : Int32) (vc : Int32) (vk : Int32) (va : Int32) (vt : Int32) (n : Nat) (t : Nat → UInt8) (mt : Nat → UInt8) (ot : Nat → UInt8) (hn : n ≤ 32768) : pc_X (S := Nat × Nat × (Nat → UInt8) × Int32 × (Nat → UInt8) × Nat) l y_Mo_pack0 (.code y_Mo_pack0 prog_11_method_9_code 8 (some .int)) (some .int) rm_Mo_pack0 g [(y, .inr (5, [.ref ta, .ref oa, .ref ma, .int (nI n), .int vo, .int vm, .ref ca, .ref na, .ref la, .int vc, .int vk, .int va, .int vt])), (ta, .inl (g.2.1, 32768, .inl (bA t))), (ma, .inl (g.2.1, 32768, .inl (bA mt))), (oa, .inl (g.2.1, 32768, .inl (bA ot)))] [.ref y] (fun rv u => (rv = .inl (nI u.2.2.2.2.2) ∧ bl u.2.2.2.2.1 u.2.2.2.2.2 = packL (bl t n) ∧ u.2.2.2.2.2 ≤ 32768 ∧ u.1 = 0 ∧ u.2.2.2.1 = nI u.2.2.2.2.2) ∨ (rv = .inr "java/lang/IllegalStateException" ∧ 32768 < (packL (bl t n)).length ∧ u.1 = n ∧ u.2.2.2.1 = vo ∧ u.2.2.2.2.1 = ot)) (fun u => [(y, .inr (5, [.ref ta, .ref oa, .ref ma, .int (nI u.1), .int u.2.2.2.1, .int (nI u.2.1), .ref ca, .ref na, .ref la, .int vc, .int vk, .int va, .int vt])), (ta, .inl (g.2.1, 32768, .inl (bA t))), (ma, .inl (g.2.1, 32768, .inl (bA u.2.2.1))), (oa, .inl (g.2.1, 32768, .inl (bA u.2.2.2.2.1)))]) := by
  refine pc_X.of (cc := prog_11_method_9_code) (nL := 8) (rt := (some .int)) (hh := []) (by decide) tx_wd.plain (by exact Nat.le_of_ble_eq_true rfl) htr ?_
  intro p e s m below meth c A Q hx hb hml hown hE hA htab hR hT hO hP hD ls hl
  have hS : va_S A s.heap s.heap [] := va_S.rf
  have hl : lv_has ls 8 [(0, .ref y)] := hl
  refine lv_aload_n hx hb d_Mo_pack0_0 rfl (lv_at hl 0 rfl) ?_
  refine lv_iconst (v := nI 0) hx hb d_Mo_pack0_1 (by decide) ?_
  refine va_put (ci := 5) (ty := .int) (C := R_Mo) (T := F_Mo) (N := 13) hx hb hE.hts in_Mo t_Mo tk_Mo nn_Mo hown hE.2.1 hP hD hS 0 rfl rfl 5 (by decide) (hE.w m_495) (fun _ h9 => h9) rfl (by decide +kernel) (by rfl) (by rfl) (by exact Nat.le_of_ble_eq_true rfl) d_Mo_pack0_2 (fun H locs hP hD hS => ?_)
  have hP : va_P g.1 pc_cl [(y, .inr (5, [.ref ta, .ref oa, .ref ma, .int (nI n), .int vo, .int (nI 0), .ref ca, .ref na, .ref la, .int vc, .int vk, .int va, .int vt])), (ta, .inl (g.2.1, 32768, .inl (bA t))), (ma, .inl (g.2.1, 32768, .inl (bA mt))), (oa, .inl (g.2.1, 32768, .inl (bA ot)))] H := hP
  have hD : va_D A [(y, .inr (5, [.ref ta, .ref oa, .ref ma, .int (nI n), .int vo, .int (nI 0), .ref ca, .ref na, .ref la, .int vc, .int vk, .int va, .int vt])), (ta, .inl (g.2.1, 32768, .inl (bA t))), (ma, .inl (g.2.1, 32768, .inl (bA mt))), (oa, .inl (g.2.1, 32768, .inl (bA ot)))] := hD
  refine lv_aload_n hx hb d_Mo_pack0_5 rfl (lv_at hl 0 rfl) ?_
  refine lv_aload_n hx hb d_Mo_pack0_6 rfl (lv_at hl 0 rfl) ?_
  refine va_get (ci := 5) (C := R_Mo) (T := F_Mo) (N := 13) hx hb hE.hts in_Mo hown hE.2.1 hP 0 rfl rfl 3 (by decide) (hE.w m_493) (fun _ h9 => h9) rfl d_Mo_pack0_7 ?_
  refine pc_i (wc := [(y, .inr (5, [.ref ta, .ref oa, .ref ma, .int (nI n), .int vo, .int (nI 0), .ref ca, .ref na, .ref la, .int vc, .int vk, .int va, .int vt])), (ma, .inl (g.2.1, 32768, .inl (bA mt)))]) (wr := [(ta, .inl (g.2.1, 32768, .inl (bA t))), (oa, .inl (g.2.1, 32768, .inl (bA ot)))]) (cells' := 0) (slots' := 0) hP hD hS hA [0, 2] [1, 3] rfl rfl (by decide) (by decide) rfl rfl (va_runV (n := 1) (As := [.int (nI n)]) (rest := []) (C := R_Mo) ⟨hx, hb, hml, hown, hE.hts⟩ (c_Mo_write l g y ta oa ma ca na la (nI n) vo vc vk va vt 0 n mt (by omega) (by omega) _) ⟨pc_cb hE m_565 m_5 m_562 (by decide +kernel) ⟨by exact Nat.le_of_ble_eq_true rfl, by exact Nat.le_of_ble_eq_true rfl⟩, hE.w m_564, hE.w ms_24⟩ (pc_preV (ci := 5) (q0 := 0) hP hD hE hS hA [0, 2] (by decide) rfl [.int (nI n)] rfl rfl) rfl rfl hl.1 rfl (lv_room (by exact Nat.le_of_ble_eq_true rfl)) d_Mo_pack0_10 ⟨by exact Nat.le_of_ble_eq_true rfl, by exact Nat.le_of_ble_eq_true rfl⟩) (fun r_2 u_1 H locs hw hP hD hS => ?_)
  obtain ⟨w0, u0⟩ := u_1
  obtain ⟨rfl, hc0, hw0⟩ := hw
  have hc0 : bl u0 w0 = (bl mt 0 ++ vL n).take 32768 := hc0
  have hw0 : w0 ≤ 32768 := hw0
  have hP : va_P g.1 pc_cl [(ta, .inl (g.2.1, 32768, .inl (bA t))), (oa, .inl (g.2.1, 32768, .inl (bA ot))), (y, .inr (5, [.ref ta, .ref oa, .ref ma, .int (nI n), .int vo, .int (nI w0), .ref ca, .ref na, .ref la, .int vc, .int vk, .int va, .int vt])), (ma, .inl (g.2.1, 32768, .inl (bA u0)))] H := hP
  have hD : va_D A [(ta, .inl (g.2.1, 32768, .inl (bA t))), (oa, .inl (g.2.1, 32768, .inl (bA ot))), (y, .inr (5, [.ref ta, .ref oa, .ref ma, .int (nI n), .int vo, .int (nI w0), .ref ca, .ref na, .ref la, .int vc, .int vk, .int va, .int vt])), (ma, .inl (g.2.1, 32768, .inl (bA u0)))] := hD
  refine lv_istore_n (lv' := [(1, .int (bI (0 + vsz n ≤ 32768))), (0, .ref y)]) hx hb d_Mo_pack0_13 rfl hl (by decide) rfl (fun ls hl => ?_)
  refine lv_iconst (v := nI 0) hx hb d_Mo_pack0_14 (by decide) ?_
  refine lv_istore_n (lv' := [(2, .int (nI 0)), (1, .int (bI (0 + vsz n ≤ 32768))), (0, .ref y)]) hx hb d_Mo_pack0_15 rfl hl (by decide) rfl (fun ls hl => ?_)
  refine lv_iconst (v := nI 0) hx hb d_Mo_pack0_16 (by decide) ?_
  refine lv_istore_n (lv' := [(3, .int (nI 0)), (2, .int (nI 0)), (1, .int (bI (0 + vsz n ≤ 32768))), (0, .ref y)]) hx hb d_Mo_pack0_17 rfl hl (by decide) rfl (fun ls hl => ?_)
  have lp_18 : ∀ (n9 : Nat) (ft : Int32) (a : Nat) (k : Nat) (w : Nat) (u : Nat → UInt8) (fu : Nat) (D : List Nat) (hak : a ≤ k) (hkn : k ≤ n) (hwm : w ≤ 32768) (hfu : n - k < fu) (hDT : D ++ pcs (bl t n) fu a k = packL (bl t n)) (hf : pkS ft u w D) (hmu : n - k < n9) (H : Heap) (locs : List Loc) (hP : va_P g.1 pc_cl [(y, .inr (5, [.ref ta, .ref oa, .ref ma, .int (nI n), .int vo, .int (nI w), .ref ca, .ref na, .ref la, .int vc, .int vk, .int va, .int vt])), (ta, .inl (g.2.1, 32768, .inl (bA t))), (ma, .inl (g.2.1, 32768, .inl (bA u))), (oa, .inl (g.2.1, 32768, .inl (bA ot)))] H) (hD : va_D A [(y, .inr (5, [.ref ta, .ref oa, .ref ma, .int (nI n), .int vo, .int (nI w), .ref ca, .ref na, .ref la, .int vc, .int vk, .int va, .int vt])), (ta, .inl (g.2.1, 32768, .inl (bA t))), (ma, .inl (g.2.1, 32768, .inl (bA u))), (oa, .inl (g.2.1, 32768, .inl (bA ot)))]) (hS : va_S A s.heap H locs) (ls : Array Slot) (hl : lv_has ls 8 [(0, .ref y), (1, .int ft), (2, .int (nI a)), (3, .int (nI k))]), W p l e rm_Mo_pack0 s m ([.ref y] : List Value).toArray below meth c H locs 0 0 Q (F0 m 18 ls []) := by
    intro n9
    induction n9 with
    | zero => intros; omega
    | succ n9 ih_18 =>
      intro ft a k w u fu D hak hkn hwm hfu hDT hf hmu H locs hP hD hS ls hl
      refine lv_iload_n hx hb d_Mo_pack0_18 rfl (lv_at hl 3 rfl) ?_
      refine lv_aload_n hx hb d_Mo_pack0_19 rfl (lv_at hl 0 rfl) ?_
      refine va_get (ci := 5) (C := R_Mo) (T := F_Mo) (N := 13) hx hb hE.hts in_Mo hown hE.2.1 hP 0 rfl rfl 3 (by decide) (hE.w m_493) (fun _ h9 => h9) rfl d_Mo_pack0_20 ?_
      refine pc_jge (tgt := 143) hx hb d_Mo_pack0_23 (by decide) (by omega) (by omega) (fun h_3 => ?_) (fun h_3 => ?_)
      · skip
        refine lv_iload_n hx hb d_Mo_pack0_143 rfl (lv_at hl 1 rfl) ?_
        refine lv_aload_n hx hb d_Mo_pack0_144 rfl (lv_at hl 0 rfl) ?_
        refine lv_iload_n hx hb d_Mo_pack0_145 rfl (lv_at hl 2 rfl) ?_
        refine lv_iload_n hx hb d_Mo_pack0_146 rfl (lv_at hl 3 rfl) ?_
        refine pc_i (wc := [(y, .inr (5, [.ref ta, .ref oa, .ref ma, .int (nI n), .int vo, .int (nI w), .ref ca, .ref na, .ref la, .int vc, .int vk, .int va, .int vt])), (ta, .inl (g.2.1, 32768, .inl (bA t))), (ma, .inl (g.2.1, 32768, .inl (bA u)))]) (wr := [(oa, .inl (g.2.1, 32768, .inl (bA ot)))]) (cells' := 0) (slots' := 0) hP hD hS hA [0, 1, 2] [3] rfl rfl (by decide) (by decide) rfl rfl (va_runV (n := 2) (As := [.int (nI a), .int (nI k)]) (rest := [.int ft]) (C := R_Mo) ⟨hx, hb, hml, hown, hE.hts⟩ (c_Mo_plain l g y ta oa ma ca na la vo vc vk va vt n t w u a k (by omega) (by omega) (by omega) (by omega) _) ⟨pc_cb hE m_577 m_5 m_574 (by decide +kernel) ⟨by exact Nat.le_of_ble_eq_true rfl, by exact Nat.le_of_ble_eq_true rfl⟩, hE.w m_576, hE.w ms_27⟩ (pc_preV (ci := 5) (q0 := 0) hP hD hE hS hA [0, 1, 2] (by decide) rfl [.int (nI a), .int (nI k)] rfl rfl) rfl rfl hl.1 rfl (lv_room (by exact Nat.le_of_ble_eq_true rfl)) d_Mo_pack0_147 ⟨by exact Nat.le_of_ble_eq_true rfl, by exact Nat.le_of_ble_eq_true rfl⟩) (fun r_5 u_4 H locs hw hP hD hS => ?_)
        obtain ⟨w9, u9⟩ := u_4
        obtain ⟨rfl, hc9, hw9⟩ := hw
        have hc9 : bl u9 w9 = (bl u w ++ plL (bl t n) a k).take 32768 := hc9
        have hw9 : w9 ≤ 32768 := hw9
        have hP : va_P g.1 pc_cl [(oa, .inl (g.2.1, 32768, .inl (bA ot))), (y, .inr (5, [.ref ta, .ref oa, .ref ma, .int (nI n), .int vo, .int (nI w9), .ref ca, .ref na, .ref la, .int vc, .int vk, .int va, .int vt])), (ta, .inl (g.2.1, 32768, .inl (bA t))), (ma, .inl (g.2.1, 32768, .inl (bA u9)))] H := hP
        have hD : va_D A [(oa, .inl (g.2.1, 32768, .inl (bA ot))), (y, .inr (5, [.ref ta, .ref oa, .ref ma, .int (nI n), .int vo, .int (nI w9), .ref ca, .ref na, .ref la, .int vc, .int vk, .int va, .int vt])), (ta, .inl (g.2.1, 32768, .inl (bA t))), (ma, .inl (g.2.1, 32768, .inl (bA u9)))] := hD
        refine lv_iand hx hb d_Mo_pack0_150 ?_
        have hT2 := pc_last (bl_len t n) (by omega) (by omega) hDT
        rcases pk_end hf hc9 hw9 with ⟨he1, hg1⟩ | ⟨he1, hg1⟩
        · skip
          rw [hT2] at hg1
          refine pc_ti (y := nI 1) (he1) ?_
          refine lv_istore_n (lv' := [(1, .int (nI 1)), (0, .ref y), (2, .int (nI a)), (3, .int (nI k))]) hx hb d_Mo_pack0_151 rfl hl (by decide) rfl (fun ls hl => ?_)
          refine lv_iload_n hx hb d_Mo_pack0_152 rfl (lv_at hl 0 rfl) ?_
          refine pc_zne (tgt := 164) hx hb d_Mo_pack0_153 (by decide) (by omega) (fun h_d => ?_) (fun h_d => absurd h_d (by decide))
          refine lv_aload_n hx hb d_Mo_pack0_164 rfl (lv_at hl 1 rfl) ?_
          refine lv_iconst (v := nI 0) hx hb d_Mo_pack0_165 (by decide) ?_
          refine va_put (ci := 5) (ty := .int) (C := R_Mo) (T := F_Mo) (N := 13) hx hb hE.hts in_Mo t_Mo tk_Mo nn_Mo hown hE.2.1 hP hD hS 1 rfl rfl 3 (by decide) (hE.w m_493) (fun _ h9 => h9) rfl (by decide +kernel) (by rfl) (by rfl) (by exact Nat.le_of_ble_eq_true rfl) d_Mo_pack0_166 (fun H locs hP hD hS => ?_)
          have hP : va_P g.1 pc_cl [(oa, .inl (g.2.1, 32768, .inl (bA ot))), (y, .inr (5, [.ref ta, .ref oa, .ref ma, .int (nI 0), .int vo, .int (nI w9), .ref ca, .ref na, .ref la, .int vc, .int vk, .int va, .int vt])), (ta, .inl (g.2.1, 32768, .inl (bA t))), (ma, .inl (g.2.1, 32768, .inl (bA u9)))] H := hP
          have hD : va_D A [(oa, .inl (g.2.1, 32768, .inl (bA ot))), (y, .inr (5, [.ref ta, .ref oa, .ref ma, .int (nI 0), .int vo, .int (nI w9), .ref ca, .ref na, .ref la, .int vc, .int vk, .int va, .int vt])), (ta, .inl (g.2.1, 32768, .inl (bA t))), (ma, .inl (g.2.1, 32768, .inl (bA u9)))] := hD
          refine lv_aload_n hx hb d_Mo_pack0_169 rfl (lv_at hl 1 rfl) ?_
          refine pc_v (wc := [(y, .inr (5, [.ref ta, .ref oa, .ref ma, .int (nI 0), .int vo, .int (nI w9), .ref ca, .ref na, .ref la, .int vc, .int vk, .int va, .int vt])), (ma, .inl (g.2.1, 32768, .inl (bA u9))), (oa, .inl (g.2.1, 32768, .inl (bA ot)))]) (wr := [(ta, .inl (g.2.1, 32768, .inl (bA t)))]) (cells' := 0) (slots' := 0) hP hD hS hA [1, 3, 0] [2] rfl rfl (by decide) (by decide) rfl rfl (va_runV (n := 0) (As := []) (rest := []) (C := R_Mo) ⟨hx, hb, hml, hown, hE.hts⟩ (c_Mo_keep l g y ta oa ma ca na la (nI 0) vc vk va vt w9 vo u9 ot (by omega) _) ⟨pc_cb hE m_581 m_5 m_578 (by decide +kernel) ⟨by exact Nat.le_of_ble_eq_true rfl, by exact Nat.le_of_ble_eq_true rfl⟩, hE.w m_580, hE.w ms_28⟩ (pc_preV (ci := 5) (q0 := 1) hP hD hE hS hA [1, 3, 0] (by decide) rfl [] rfl rfl) rfl rfl hl.1 rfl (lv_room (by exact Nat.le_of_ble_eq_true rfl)) d_Mo_pack0_170 ⟨by exact Nat.le_of_ble_eq_true rfl, by exact Nat.le_of_ble_eq_true rfl⟩) (fun u_6 H locs hw hP hD hS => ?_)
          obtain ⟨t8, rfl⟩ : ∃ z, z = u_6 := ⟨_, rfl⟩
          have hc8 := hw
          have hc8 : bl t8 w9 = bl u9 w9 := hc8
          have hP : va_P g.1 pc_cl [(ta, .inl (g.2.1, 32768, .inl (bA t))), (y, .inr (5, [.ref ta, .ref oa, .ref ma, .int (nI 0), .int (nI w9), .int (nI w9), .ref ca, .ref na, .ref la, .int vc, .int vk, .int va, .int vt])), (ma, .inl (g.2.1, 32768, .inl (bA u9))), (oa, .inl (g.2.1, 32768, .inl (bA t8)))] H := hP
          have hD : va_D A [(ta, .inl (g.2.1, 32768, .inl (bA t))), (y, .inr (5, [.ref ta, .ref oa, .ref ma, .int (nI 0), .int (nI w9), .int (nI w9), .ref ca, .ref na, .ref la, .int vc, .int vk, .int va, .int vt])), (ma, .inl (g.2.1, 32768, .inl (bA u9))), (oa, .inl (g.2.1, 32768, .inl (bA t8)))] := hD
          refine lv_aload_n hx hb d_Mo_pack0_173 rfl (lv_at hl 1 rfl) ?_
          refine va_get (ci := 5) (C := R_Mo) (T := F_Mo) (N := 13) hx hb hE.hts in_Mo hown hE.2.1 hP 1 rfl rfl 4 (by decide) (hE.w m_494) (fun _ h9 => h9) rfl d_Mo_pack0_174 ?_
          refine W.widen (k := rm_Mo_pack0.cells) (n := rm_Mo_pack0.slots) (by exact Nat.le_of_ble_eq_true rfl) (by exact Nat.le_of_ble_eq_true rfl) ?_
          exact hR _ _ 177 _ (nI w9) (0, w9, u9, nI w9, t8, w9) d_Mo_pack0_177 rfl (Or.inl (⟨rfl, by rw [hc8]; exact hg1, hw9, rfl, rfl⟩)) (hP.sub [1, 0, 2, 3] rfl) (hD.sub [1, 0, 2, 3] (by decide) rfl) hS
        · skip
          rw [hT2] at hg1
          refine pc_ti (y := nI 0) (he1) ?_
          refine lv_istore_n (lv' := [(1, .int (nI 0)), (0, .ref y), (2, .int (nI a)), (3, .int (nI k))]) hx hb d_Mo_pack0_151 rfl hl (by decide) rfl (fun ls hl => ?_)
          refine lv_iload_n hx hb d_Mo_pack0_152 rfl (lv_at hl 0 rfl) ?_
          refine pc_zne (tgt := 164) hx hb d_Mo_pack0_153 (by decide) (by omega) (fun h_d => absurd h_d (fun k9 => k9 rfl)) (fun h_d => ?_)
          exact hT "java/lang/IllegalStateException" 34 36 _ _ 0 0 156 _ (n, w9, u9, vo, ot, 0) (by decide) m_538 m_9 ta_5 (hl.1.trans hml.symm) d_Mo_pack0_156 d_Mo_pack0_159 d_Mo_pack0_160 d_Mo_pack0_163 (by decide) ⟨by exact Nat.le_of_ble_eq_true rfl, by exact Nat.le_of_ble_eq_true rfl, by exact Nat.le_of_ble_eq_true rfl, by exact Nat.le_of_ble_eq_true rfl⟩ (Or.inr (⟨rfl, hg1, rfl, rfl, rfl⟩)) (hP.sub [1, 2, 3, 0] rfl) (hD.sub [1, 2, 3, 0] (by decide) rfl) hS
      · skip
        have lp_82 : ∀ (n9 : Nat) (mo : Nat) (ba : Nat) (hbest : best (bl t n) k = (mo, ba)) (hmu : 0 < n9) (H : Heap) (locs : List Loc) (hP : va_P g.1 pc_cl [(y, .inr (5, [.ref ta, .ref oa, .ref ma, .int (nI n), .int vo, .int (nI w), .ref ca, .ref na, .ref la, .int vc, .int vk, .int va, .int vt])), (ta, .inl (g.2.1, 32768, .inl (bA t))), (ma, .inl (g.2.1, 32768, .inl (bA u))), (oa, .inl (g.2.1, 32768, .inl (bA ot)))] H) (hD : va_D A [(y, .inr (5, [.ref ta, .ref oa, .ref ma, .int (nI n), .int vo, .int (nI w), .ref ca, .ref na, .ref la, .int vc, .int vk, .int va, .int vt])), (ta, .inl (g.2.1, 32768, .inl (bA t))), (ma, .inl (g.2.1, 32768, .inl (bA u))), (oa, .inl (g.2.1, 32768, .inl (bA ot)))]) (hS : va_S A s.heap H locs) (ls : Array Slot) (hl : lv_has ls 8 [(0, .ref y), (1, .int ft), (2, .int (nI a)), (3, .int (nI k)), (4, .int (nI mo)), (5, .int (nI ba))]), W p l e rm_Mo_pack0 s m ([.ref y] : List Value).toArray below meth c H locs 0 0 Q (F0 m 82 ls []) := by
          intro n9
          induction n9 with
          | zero => intros; omega
          | succ n9 ih_82 =>
            intro mo ba hbest hmu H locs hP hD hS ls hl
            refine lv_iload hx hb d_Mo_pack0_82 (lv_at hl 4 rfl) ?_
            have hbi := best_at (bl_len t n) hbest
            obtain ⟨fu9, rfl⟩ : ∃ z, fu = z + 1 := ⟨fu - 1, by omega⟩
            refine lv_iconst (v := nI 4) hx hb d_Mo_pack0_84 (by decide) ?_
            refine pc_jge (tgt := 94) hx hb d_Mo_pack0_85 (by decide) (by omega) (by omega) (fun h_8 => ?_) (fun h_8 => ?_)
            · skip
              refine lv_iload_n hx hb d_Mo_pack0_94 rfl (lv_at hl 1 rfl) ?_
              refine lv_aload_n hx hb d_Mo_pack0_95 rfl (lv_at hl 0 rfl) ?_
              refine lv_iload_n hx hb d_Mo_pack0_96 rfl (lv_at hl 2 rfl) ?_
              refine lv_iload_n hx hb d_Mo_pack0_97 rfl (lv_at hl 3 rfl) ?_
              refine pc_i (wc := [(y, .inr (5, [.ref ta, .ref oa, .ref ma, .int (nI n), .int vo, .int (nI w), .ref ca, .ref na, .ref la, .int vc, .int vk, .int va, .int vt])), (ta, .inl (g.2.1, 32768, .inl (bA t))), (ma, .inl (g.2.1, 32768, .inl (bA u)))]) (wr := [(oa, .inl (g.2.1, 32768, .inl (bA ot)))]) (cells' := 0) (slots' := 0) hP hD hS hA [0, 1, 2] [3] rfl rfl (by decide) (by decide) rfl rfl (va_runV (n := 2) (As := [.int (nI a), .int (nI k)]) (rest := [.int ft]) (C := R_Mo) ⟨hx, hb, hml, hown, hE.hts⟩ (c_Mo_plain l g y ta oa ma ca na la vo vc vk va vt n t w u a k (by omega) (by omega) (by omega) (by omega) _) ⟨pc_cb hE m_577 m_5 m_574 (by decide +kernel) ⟨by exact Nat.le_of_ble_eq_true rfl, by exact Nat.le_of_ble_eq_true rfl⟩, hE.w m_576, hE.w ms_27⟩ (pc_preV (ci := 5) (q0 := 0) hP hD hE hS hA [0, 1, 2] (by decide) rfl [.int (nI a), .int (nI k)] rfl rfl) rfl rfl hl.1 rfl (lv_room (by exact Nat.le_of_ble_eq_true rfl)) d_Mo_pack0_98 ⟨by exact Nat.le_of_ble_eq_true rfl, by exact Nat.le_of_ble_eq_true rfl⟩) (fun r_10 u_9 H locs hw hP hD hS => ?_)
              obtain ⟨w1, u1⟩ := u_9
              obtain ⟨rfl, hc1, hw1⟩ := hw
              have hc1 : bl u1 w1 = (bl u w ++ plL (bl t n) a k).take 32768 := hc1
              have hw1 : w1 ≤ 32768 := hw1
              have hP : va_P g.1 pc_cl [(oa, .inl (g.2.1, 32768, .inl (bA ot))), (y, .inr (5, [.ref ta, .ref oa, .ref ma, .int (nI n), .int vo, .int (nI w1), .ref ca, .ref na, .ref la, .int vc, .int vk, .int va, .int vt])), (ta, .inl (g.2.1, 32768, .inl (bA t))), (ma, .inl (g.2.1, 32768, .inl (bA u1)))] H := hP
              have hD : va_D A [(oa, .inl (g.2.1, 32768, .inl (bA ot))), (y, .inr (5, [.ref ta, .ref oa, .ref ma, .int (nI n), .int vo, .int (nI w1), .ref ca, .ref na, .ref la, .int vc, .int vk, .int va, .int vt])), (ta, .inl (g.2.1, 32768, .inl (bA t))), (ma, .inl (g.2.1, 32768, .inl (bA u1)))] := hD
              refine pc_beq (tgt := 130) hx hb d_Mo_pack0_101 (by decide) (fun h_11 => ?_) (fun h_11 => ?_)
              · skip
                refine lv_iconst (v := nI 0) hx hb d_Mo_pack0_130 (by decide) ?_
                refine lv_iand hx hb d_Mo_pack0_131 ?_
                refine lv_istore_n (lv' := [(1, .int (ft &&& (nI 0))), (0, .ref y), (2, .int (nI a)), (3, .int (nI k)), (4, .int (nI mo)), (5, .int (nI ba))]) hx hb d_Mo_pack0_132 rfl hl (by decide) rfl (fun ls hl => ?_)
                refine lv_iload_n hx hb d_Mo_pack0_133 rfl (lv_at hl 3 rfl) ?_
                refine lv_iload hx hb d_Mo_pack0_134 (lv_at hl 4 rfl) ?_
                refine lv_iadd hx hb d_Mo_pack0_136 ?_
                refine pc_ti (y := nI (k + mo)) (nI_add _ _) ?_
                refine lv_istore_n (lv' := [(3, .int (nI (k + mo))), (1, .int (ft &&& (nI 0))), (0, .ref y), (2, .int (nI a)), (4, .int (nI mo)), (5, .int (nI ba))]) hx hb d_Mo_pack0_137 rfl hl (by decide) rfl (fun ls hl => ?_)
                refine lv_iload_n hx hb d_Mo_pack0_138 rfl (lv_at hl 0 rfl) ?_
                refine lv_istore_n (lv' := [(2, .int (nI (k + mo))), (3, .int (nI (k + mo))), (1, .int (ft &&& (nI 0))), (0, .ref y), (4, .int (nI mo)), (5, .int (nI ba))]) hx hb d_Mo_pack0_139 rfl hl (by decide) rfl (fun ls hl => ?_)
                refine lv_goto (tgt := 18) hx hb d_Mo_pack0_140 (by decide) ?_
                exact ih_18 (ft &&& (nI 0)) (k + mo) (k + mo) w1 u1 fu9 (D ++ (plL (bl t n) a k ++ ptL mo ba)) (by omega) (by omega) (by omega) (by omega) (pc_more (by rw [bl_len]; omega) hbest (by omega) hDT) (pkS_no hf (by simp only [List.length_append, ptL_len]; omega)) (by omega) _ _ (hP.sub [1, 2, 3, 0] rfl) (hD.sub [1, 2, 3, 0] (by decide) rfl) hS _ (lv_sub hl [3, 2, 0, 1] rfl)
              · skip
                have hb1 := pk_fits hc1 h_11
                have hl1 := congrArg List.length hb1
                rw [List.length_append, bl_len, bl_len] at hl1
                refine lv_aload_n hx hb d_Mo_pack0_104 rfl (lv_at hl 0 rfl) ?_
                refine lv_iconst (v := nI 2) hx hb d_Mo_pack0_105 (by decide) ?_
                refine lv_iload hx hb d_Mo_pack0_106 (lv_at hl 4 rfl) ?_
                refine lv_imul hx hb d_Mo_pack0_108 ?_
                refine pc_ti (y := nI (2 * mo)) (pk_mul _ _) ?_
                refine lv_iconst (v := nI 1) hx hb d_Mo_pack0_109 (by decide) ?_
                refine lv_iadd hx hb d_Mo_pack0_110 ?_
                refine pc_ti (y := nI (2 * mo + 1)) (nI_add _ _) ?_
                refine pc_i (wc := [(y, .inr (5, [.ref ta, .ref oa, .ref ma, .int (nI n), .int vo, .int (nI w1), .ref ca, .ref na, .ref la, .int vc, .int vk, .int va, .int vt])), (ma, .inl (g.2.1, 32768, .inl (bA u1)))]) (wr := [(oa, .inl (g.2.1, 32768, .inl (bA ot))), (ta, .inl (g.2.1, 32768, .inl (bA t)))]) (cells' := 0) (slots' := 0) hP hD hS hA [1, 3] [0, 2] rfl rfl (by decide) (by decide) rfl rfl (va_runV (n := 1) (As := [.int (nI (2 * mo + 1))]) (rest := [.int ft]) (C := R_Mo) ⟨hx, hb, hml, hown, hE.hts⟩ (c_Mo_write l g y ta oa ma ca na la (nI n) vo vc vk va vt w1 (2 * mo + 1) u1 (by omega) (by omega) _) ⟨pc_cb hE m_565 m_5 m_562 (by decide +kernel) ⟨by exact Nat.le_of_ble_eq_true rfl, by exact Nat.le_of_ble_eq_true rfl⟩, hE.w m_564, hE.w ms_24⟩ (pc_preV (ci := 5) (q0 := 1) hP hD hE hS hA [1, 3] (by decide) rfl [.int (nI (2 * mo + 1))] rfl rfl) rfl rfl hl.1 rfl (lv_room (by exact Nat.le_of_ble_eq_true rfl)) d_Mo_pack0_111 ⟨by exact Nat.le_of_ble_eq_true rfl, by exact Nat.le_of_ble_eq_true rfl⟩) (fun r_13 u_12 H locs hw hP hD hS => ?_)
                obtain ⟨w2, u2⟩ := u_12
                obtain ⟨rfl, hc2, hw2⟩ := hw
                have hc2 : bl u2 w2 = (bl u1 w1 ++ vL (2 * mo + 1)).take 32768 := hc2
                have hw2 : w2 ≤ 32768 := hw2
                have hP : va_P g.1 pc_cl [(oa, .inl (g.2.1, 32768, .inl (bA ot))), (ta, .inl (g.2.1, 32768, .inl (bA t))), (y, .inr (5, [.ref ta, .ref oa, .ref ma, .int (nI n), .int vo, .int (nI w2), .ref ca, .ref na, .ref la, .int vc, .int vk, .int va, .int vt])), (ma, .inl (g.2.1, 32768, .inl (bA u2)))] H := hP
                have hD : va_D A [(oa, .inl (g.2.1, 32768, .inl (bA ot))), (ta, .inl (g.2.1, 32768, .inl (bA t))), (y, .inr (5, [.ref ta, .ref oa, .ref ma, .int (nI n), .int vo, .int (nI w2), .ref ca, .ref na, .ref la, .int vc, .int vk, .int va, .int vt])), (ma, .inl (g.2.1, 32768, .inl (bA u2)))] := hD
                refine pc_beq (tgt := 130) hx hb d_Mo_pack0_114 (by decide) (fun h_14 => ?_) (fun h_14 => ?_)
                · skip
                  refine lv_iconst (v := nI 0) hx hb d_Mo_pack0_130 (by decide) ?_
                  refine lv_iand hx hb d_Mo_pack0_131 ?_
                  refine lv_istore_n (lv' := [(1, .int (ft &&& (nI 0))), (0, .ref y), (2, .int (nI a)), (3, .int (nI k)), (4, .int (nI mo)), (5, .int (nI ba))]) hx hb d_Mo_pack0_132 rfl hl (by decide) rfl (fun ls hl => ?_)
                  refine lv_iload_n hx hb d_Mo_pack0_133 rfl (lv_at hl 3 rfl) ?_
                  refine lv_iload hx hb d_Mo_pack0_134 (lv_at hl 4 rfl) ?_
                  refine lv_iadd hx hb d_Mo_pack0_136 ?_
                  refine pc_ti (y := nI (k + mo)) (nI_add _ _) ?_
                  refine lv_istore_n (lv' := [(3, .int (nI (k + mo))), (1, .int (ft &&& (nI 0))), (0, .ref y), (2, .int (nI a)), (4, .int (nI mo)), (5, .int (nI ba))]) hx hb d_Mo_pack0_137 rfl hl (by decide) rfl (fun ls hl => ?_)
                  refine lv_iload_n hx hb d_Mo_pack0_138 rfl (lv_at hl 0 rfl) ?_
                  refine lv_istore_n (lv' := [(2, .int (nI (k + mo))), (3, .int (nI (k + mo))), (1, .int (ft &&& (nI 0))), (0, .ref y), (4, .int (nI mo)), (5, .int (nI ba))]) hx hb d_Mo_pack0_139 rfl hl (by decide) rfl (fun ls hl => ?_)
                  refine lv_goto (tgt := 18) hx hb d_Mo_pack0_140 (by decide) ?_
                  exact ih_18 (ft &&& (nI 0)) (k + mo) (k + mo) w2 u2 fu9 (D ++ (plL (bl t n) a k ++ ptL mo ba)) (by omega) (by omega) (by omega) (by omega) (pc_more (by rw [bl_len]; omega) hbest (by omega) hDT) (pkS_no hf (by simp only [List.length_append, ptL_len]; omega)) (by omega) _ _ (hP.sub [2, 1, 3, 0] rfl) (hD.sub [2, 1, 3, 0] (by decide) rfl) hS _ (lv_sub hl [3, 2, 0, 1] rfl)
                · skip
                  have hb2 := pk_fits hc2 (by rw [vL_len]; exact h_14)
                  have hl2 := congrArg List.length hb2
                  rw [List.length_append, bl_len, bl_len, vL_len] at hl2
                  refine lv_aload_n hx hb d_Mo_pack0_117 rfl (lv_at hl 0 rfl) ?_
                  refine lv_iload hx hb d_Mo_pack0_118 (lv_at hl 5 rfl) ?_
                  refine pc_i (wc := [(y, .inr (5, [.ref ta, .ref oa, .ref ma, .int (nI n), .int vo, .int (nI w2), .ref ca, .ref na, .ref la, .int vc, .int vk, .int va, .int vt])), (ma, .inl (g.2.1, 32768, .inl (bA u2)))]) (wr := [(oa, .inl (g.2.1, 32768, .inl (bA ot))), (ta, .inl (g.2.1, 32768, .inl (bA t)))]) (cells' := 0) (slots' := 0) hP hD hS hA [2, 3] [0, 1] rfl rfl (by decide) (by decide) rfl rfl (va_runV (n := 1) (As := [.int (nI ba)]) (rest := [.int ft]) (C := R_Mo) ⟨hx, hb, hml, hown, hE.hts⟩ (c_Mo_write l g y ta oa ma ca na la (nI n) vo vc vk va vt w2 ba u2 (by omega) (by omega) _) ⟨pc_cb hE m_565 m_5 m_562 (by decide +kernel) ⟨by exact Nat.le_of_ble_eq_true rfl, by exact Nat.le_of_ble_eq_true rfl⟩, hE.w m_564, hE.w ms_24⟩ (pc_preV (ci := 5) (q0 := 2) hP hD hE hS hA [2, 3] (by decide) rfl [.int (nI ba)] rfl rfl) rfl rfl hl.1 rfl (lv_room (by exact Nat.le_of_ble_eq_true rfl)) d_Mo_pack0_120 ⟨by exact Nat.le_of_ble_eq_true rfl, by exact Nat.le_of_ble_eq_true rfl⟩) (fun r_16 u_15 H locs hw hP hD hS => ?_)
                  obtain ⟨w3, u3⟩ := u_15
                  obtain ⟨rfl, hc3, hw3⟩ := hw
                  have hc3 : bl u3 w3 = (bl u2 w2 ++ vL ba).take 32768 := hc3
                  have hw3 : w3 ≤ 32768 := hw3
                  have hP : va_P g.1 pc_cl [(oa, .inl (g.2.1, 32768, .inl (bA ot))), (ta, .inl (g.2.1, 32768, .inl (bA t))), (y, .inr (5, [.ref ta, .ref oa, .ref ma, .int (nI n), .int vo, .int (nI w3), .ref ca, .ref na, .ref la, .int vc, .int vk, .int va, .int vt])), (ma, .inl (g.2.1, 32768, .inl (bA u3)))] H := hP
                  have hD : va_D A [(oa, .inl (g.2.1, 32768, .inl (bA ot))), (ta, .inl (g.2.1, 32768, .inl (bA t))), (y, .inr (5, [.ref ta, .ref oa, .ref ma, .int (nI n), .int vo, .int (nI w3), .ref ca, .ref na, .ref la, .int vc, .int vk, .int va, .int vt])), (ma, .inl (g.2.1, 32768, .inl (bA u3)))] := hD
                  refine pc_beq (tgt := 130) hx hb d_Mo_pack0_123 (by decide) (fun h_17 => ?_) (fun h_17 => ?_)
                  · skip
                    refine lv_iconst (v := nI 0) hx hb d_Mo_pack0_130 (by decide) ?_
                    refine lv_iand hx hb d_Mo_pack0_131 ?_
                    refine lv_istore_n (lv' := [(1, .int (ft &&& (nI 0))), (0, .ref y), (2, .int (nI a)), (3, .int (nI k)), (4, .int (nI mo)), (5, .int (nI ba))]) hx hb d_Mo_pack0_132 rfl hl (by decide) rfl (fun ls hl => ?_)
                    refine lv_iload_n hx hb d_Mo_pack0_133 rfl (lv_at hl 3 rfl) ?_
                    refine lv_iload hx hb d_Mo_pack0_134 (lv_at hl 4 rfl) ?_
                    refine lv_iadd hx hb d_Mo_pack0_136 ?_
                    refine pc_ti (y := nI (k + mo)) (nI_add _ _) ?_
                    refine lv_istore_n (lv' := [(3, .int (nI (k + mo))), (1, .int (ft &&& (nI 0))), (0, .ref y), (2, .int (nI a)), (4, .int (nI mo)), (5, .int (nI ba))]) hx hb d_Mo_pack0_137 rfl hl (by decide) rfl (fun ls hl => ?_)
                    refine lv_iload_n hx hb d_Mo_pack0_138 rfl (lv_at hl 0 rfl) ?_
                    refine lv_istore_n (lv' := [(2, .int (nI (k + mo))), (3, .int (nI (k + mo))), (1, .int (ft &&& (nI 0))), (0, .ref y), (4, .int (nI mo)), (5, .int (nI ba))]) hx hb d_Mo_pack0_139 rfl hl (by decide) rfl (fun ls hl => ?_)
                    refine lv_goto (tgt := 18) hx hb d_Mo_pack0_140 (by decide) ?_
                    exact ih_18 (ft &&& (nI 0)) (k + mo) (k + mo) w3 u3 fu9 (D ++ (plL (bl t n) a k ++ ptL mo ba)) (by omega) (by omega) (by omega) (by omega) (pc_more (by rw [bl_len]; omega) hbest (by omega) hDT) (pkS_no hf (by simp only [List.length_append, ptL_len]; omega)) (by omega) _ _ (hP.sub [2, 1, 3, 0] rfl) (hD.sub [2, 1, 3, 0] (by decide) rfl) hS _ (lv_sub hl [3, 2, 0, 1] rfl)
                  · skip
                    have hb3 := pk_fits hc3 (by rw [vL_len]; exact h_17)
                    have hall : bl u3 w3 = bl u w ++ (plL (bl t n) a k ++ ptL mo ba) := by rw [hb3, hb2, hb1]; unfold ptL; simp only [List.append_assoc]
                    refine lv_iconst (v := nI 1) hx hb d_Mo_pack0_126 (by decide) ?_
                    refine lv_goto (tgt := 131) hx hb d_Mo_pack0_127 (by decide) ?_
                    refine lv_iand hx hb d_Mo_pack0_131 ?_
                    refine lv_istore_n (lv' := [(1, .int (ft &&& (nI 1))), (0, .ref y), (2, .int (nI a)), (3, .int (nI k)), (4, .int (nI mo)), (5, .int (nI ba))]) hx hb d_Mo_pack0_132 rfl hl (by decide) rfl (fun ls hl => ?_)
                    refine lv_iload_n hx hb d_Mo_pack0_133 rfl (lv_at hl 3 rfl) ?_
                    refine lv_iload hx hb d_Mo_pack0_134 (lv_at hl 4 rfl) ?_
                    refine lv_iadd hx hb d_Mo_pack0_136 ?_
                    refine pc_ti (y := nI (k + mo)) (nI_add _ _) ?_
                    refine lv_istore_n (lv' := [(3, .int (nI (k + mo))), (1, .int (ft &&& (nI 1))), (0, .ref y), (2, .int (nI a)), (4, .int (nI mo)), (5, .int (nI ba))]) hx hb d_Mo_pack0_137 rfl hl (by decide) rfl (fun ls hl => ?_)
                    refine lv_iload_n hx hb d_Mo_pack0_138 rfl (lv_at hl 0 rfl) ?_
                    refine lv_istore_n (lv' := [(2, .int (nI (k + mo))), (3, .int (nI (k + mo))), (1, .int (ft &&& (nI 1))), (0, .ref y), (4, .int (nI mo)), (5, .int (nI ba))]) hx hb d_Mo_pack0_139 rfl hl (by decide) rfl (fun ls hl => ?_)
                    refine lv_goto (tgt := 18) hx hb d_Mo_pack0_140 (by decide) ?_
                    exact ih_18 (ft &&& (nI 1)) (k + mo) (k + mo) w3 u3 fu9 (D ++ (plL (bl t n) a k ++ ptL mo ba)) (by omega) (by omega) (by omega) (by omega) (pc_more (by rw [bl_len]; omega) hbest (by omega) hDT) (pkS_yes hf hall hw3) (by omega) _ _ (hP.sub [2, 1, 3, 0] rfl) (hD.sub [2, 1, 3, 0] (by decide) rfl) hS _ (lv_sub hl [3, 2, 0, 1] rfl)
            · skip
              refine lv_iinc (v := nI (k + 1)) (lv' := [(3, .int (nI (k + 1))), (0, .ref y), (1, .int ft), (2, .int (nI a)), (4, .int (nI mo)), (5, .int (nI ba))]) hx hb d_Mo_pack0_88 hl (k := 3) rfl (pc_inc k 1) (by decide) rfl (fun ls hl => ?_)
              refine lv_goto (tgt := 18) hx hb d_Mo_pack0_91 (by decide) ?_
              exact ih_18 ft a (k + 1) w u fu9 D (by omega) (by omega) (by omega) (by omega) (pc_skip (by rw [bl_len]; omega) hbest (by omega) hDT) hf (by omega) _ _ (hP.sub [0, 1, 2, 3] rfl) (hD.sub [0, 1, 2, 3] (by decide) rfl) hS _ (lv_sub hl [1, 2, 3, 0] rfl)
        refine lv_iconst (v := nI 0) hx hb d_Mo_pack0_26 (by decide) ?_
        refine lv_istore (lv' := [(4, .int (nI 0)), (0, .ref y), (1, .int ft), (2, .int (nI a)), (3, .int (nI k))]) hx hb d_Mo_pack0_27 hl (by decide) rfl (fun ls hl => ?_)
        refine lv_iconst (v := nI 0) hx hb d_Mo_pack0_29 (by decide) ?_
        refine lv_istore (lv' := [(5, .int (nI 0)), (4, .int (nI 0)), (0, .ref y), (1, .int ft), (2, .int (nI a)), (3, .int (nI k))]) hx hb d_Mo_pack0_30 hl (by decide) rfl (fun ls hl => ?_)
        refine lv_iconst (v := nI 1) hx hb d_Mo_pack0_32 (by decide) ?_
        refine lv_istore (lv' := [(6, .int (nI 1)), (5, .int (nI 0)), (4, .int (nI 0)), (0, .ref y), (1, .int ft), (2, .int (nI a)), (3, .int (nI k))]) hx hb d_Mo_pack0_33 hl (by decide) rfl (fun ls hl => ?_)
        have lp_35 : ∀ (n9 : Nat) (d : Nat) (mo : Nat) (ba : Nat) (hd1 : 1 ≤ d) (hd2 : d ≤ k + 1) (hd3 : d ≤ 4096) (hbs : bst (bl t n) k (d - 1) = (mo, ba)) (hmo : mo ≤ 64) (hba : ba ≤ 4095) (hmu : 4096 - d < n9) (H : Heap) (locs : List Loc) (hP : va_P g.1 pc_cl [(y, .inr (5, [.ref ta, .ref oa, .ref ma, .int (nI n), .int vo, .int (nI w), .ref ca, .ref na, .ref la, .int vc, .int vk, .int va, .int vt])), (ta, .inl (g.2.1, 32768, .inl (bA t))), (ma, .inl (g.2.1, 32768, .inl (bA u))), (oa, .inl (g.2.1, 32768, .inl (bA ot)))] H) (hD : va_D A [(y, .inr (5, [.ref ta, .ref oa, .ref ma, .int (nI n), .int vo, .int (nI w), .ref ca, .ref na, .ref la, .int vc, .int vk, .int va, .int vt])), (ta, .inl (g.2.1, 32768, .inl (bA t))), (ma, .inl (g.2.1, 32768, .inl (bA u))), (oa, .inl (g.2.1, 32768, .inl (bA ot)))]) (hS : va_S A s.heap H locs) (ls : Array Slot) (hl : lv_has ls 8 [(0, .ref y), (1, .int ft), (2, .int (nI a)), (3, .int (nI k)), (4, .int (nI mo)), (5, .int (nI ba)), (6, .int (nI d))]), W p l e rm_Mo_pack0 s m ([.ref y] : List Value).toArray below meth c H locs 0 0 Q (F0 m 35 ls []) := by
          intro n9
          induction n9 with
          | zero => intros; omega
          | succ n9 ih_35 =>
            intro d mo ba hd1 hd2 hd3 hbs hmo hba hmu H locs hP hD hS ls hl
            refine lv_iload hx hb d_Mo_pack0_35 (lv_at hl 6 rfl) ?_
            refine lv_iload_n hx hb d_Mo_pack0_37 rfl (lv_at hl 3 rfl) ?_
            refine pc_jgt (tgt := 82) hx hb d_Mo_pack0_38 (by decide) (by omega) (by omega) (fun h_18 => ?_) (fun h_18 => ?_)
            · skip
              exact lp_82 (0 + 1) mo ba (bst_best hbs (by omega)) (Nat.lt_succ_self _) _ _ (hP.sub [0, 1, 2, 3] rfl) (hD.sub [0, 1, 2, 3] (by decide) rfl) hS _ (lv_sub hl [0, 1, 2, 3, 4, 5] rfl)
            · skip
              refine lv_iload hx hb d_Mo_pack0_41 (lv_at hl 6 rfl) ?_
              refine lv_sipush (v := nI 4095) hx hb d_Mo_pack0_43 (by decide) ?_
              refine pc_jgt (tgt := 82) hx hb d_Mo_pack0_46 (by decide) (by omega) (by omega) (fun h_19 => ?_) (fun h_19 => ?_)
              · skip
                exact lp_82 (0 + 1) mo ba (bst_best hbs (by omega)) (Nat.lt_succ_self _) _ _ (hP.sub [0, 1, 2, 3] rfl) (hD.sub [0, 1, 2, 3] (by decide) rfl) hS _ (lv_sub hl [0, 1, 2, 3, 4, 5] rfl)
              · skip
                refine lv_aload_n hx hb d_Mo_pack0_49 rfl (lv_at hl 0 rfl) ?_
                refine lv_iload hx hb d_Mo_pack0_50 (lv_at hl 6 rfl) ?_
                refine lv_iload_n hx hb d_Mo_pack0_52 rfl (lv_at hl 3 rfl) ?_
                refine pc_i (wc := [(y, .inr (5, [.ref ta, .ref oa, .ref ma, .int (nI n), .int vo, .int (nI w), .ref ca, .ref na, .ref la, .int vc, .int vk, .int va, .int vt])), (ta, .inl (g.2.1, 32768, .inl (bA t)))]) (wr := [(ma, .inl (g.2.1, 32768, .inl (bA u))), (oa, .inl (g.2.1, 32768, .inl (bA ot)))]) (cells' := 0) (slots' := 0) hP hD hS hA [0, 1] [2, 3] rfl rfl (by decide) (by decide) rfl rfl (va_runV (n := 2) (As := [.int (nI d), .int (nI k)]) (rest := []) (C := R_Mo) ⟨hx, hb, hml, hown, hE.hts⟩ (c_Mo_longest l g y ta oa ma ca na la vo (nI w) vc vk va vt n t d k (by omega) (by omega) (by omega) (by omega) _) ⟨pc_cb hE m_573 m_5 m_570 (by decide +kernel) ⟨by exact Nat.le_of_ble_eq_true rfl, by exact Nat.le_of_ble_eq_true rfl⟩, hE.w m_572, hE.w ms_26⟩ (pc_preV (ci := 5) (q0 := 0) hP hD hE hS hA [0, 1] (by decide) rfl [.int (nI d), .int (nI k)] rfl rfl) rfl rfl hl.1 rfl (lv_room (by exact Nat.le_of_ble_eq_true rfl)) d_Mo_pack0_53 ⟨by exact Nat.le_of_ble_eq_true rfl, by exact Nat.le_of_ble_eq_true rfl⟩) (fun r_21 u_20 H locs hw hP hD hS => ?_)
                obtain rfl := hw
                have hP : va_P g.1 pc_cl [(ma, .inl (g.2.1, 32768, .inl (bA u))), (oa, .inl (g.2.1, 32768, .inl (bA ot))), (y, .inr (5, [.ref ta, .ref oa, .ref ma, .int (nI n), .int vo, .int (nI w), .ref ca, .ref na, .ref la, .int vc, .int vk, .int va, .int vt])), (ta, .inl (g.2.1, 32768, .inl (bA t)))] H := hP
                have hD : va_D A [(ma, .inl (g.2.1, 32768, .inl (bA u))), (oa, .inl (g.2.1, 32768, .inl (bA ot))), (y, .inr (5, [.ref ta, .ref oa, .ref ma, .int (nI n), .int vo, .int (nI w), .ref ca, .ref na, .ref la, .int vc, .int vk, .int va, .int vt])), (ta, .inl (g.2.1, 32768, .inl (bA t)))] := hD
                refine lv_istore (lv' := [(7, .int (nI (cl (bl t n) (k - d) k (min 64 (n - k))))), (0, .ref y), (1, .int ft), (2, .int (nI a)), (3, .int (nI k)), (4, .int (nI mo)), (5, .int (nI ba)), (6, .int (nI d))]) hx hb d_Mo_pack0_56 hl (by decide) rfl (fun ls hl => ?_)
                have hcl := Nat.le_trans (cl_le (bl t n) (k - d) k (min 64 (n - k))) (Nat.min_le_left 64 (n - k))
                refine lv_iload hx hb d_Mo_pack0_58 (lv_at hl 0 rfl) ?_
                refine lv_iload hx hb d_Mo_pack0_60 (lv_at hl 5 rfl) ?_
                refine pc_jgt (tgt := 68) hx hb d_Mo_pack0_62 (by decide) (by omega) (by omega) (fun h_22 => ?_) (fun h_22 => ?_)
                · skip
                  refine lv_iload hx hb d_Mo_pack0_68 (lv_at hl 0 rfl) ?_
                  refine lv_istore (lv' := [(4, .int (nI (cl (bl t n) (k - d) k (min 64 (n - k))))), (7, .int (nI (cl (bl t n) (k - d) k (min 64 (n - k))))), (0, .ref y), (1, .int ft), (2, .int (nI a)), (3, .int (nI k)), (5, .int (nI ba)), (6, .int (nI d))]) hx hb d_Mo_pack0_70 hl (by decide) rfl (fun ls hl => ?_)
                  refine lv_iload hx hb d_Mo_pack0_72 (lv_at hl 7 rfl) ?_
                  refine lv_istore (lv' := [(5, .int (nI d)), (4, .int (nI (cl (bl t n) (k - d) k (min 64 (n - k))))), (7, .int (nI (cl (bl t n) (k - d) k (min 64 (n - k))))), (0, .ref y), (1, .int ft), (2, .int (nI a)), (3, .int (nI k)), (6, .int (nI d))]) hx hb d_Mo_pack0_74 hl (by decide) rfl (fun ls hl => ?_)
                  refine lv_iinc (v := nI (d + 1)) (lv' := [(6, .int (nI (d + 1))), (5, .int (nI d)), (4, .int (nI (cl (bl t n) (k - d) k (min 64 (n - k))))), (7, .int (nI (cl (bl t n) (k - d) k (min 64 (n - k))))), (0, .ref y), (1, .int ft), (2, .int (nI a)), (3, .int (nI k))]) hx hb d_Mo_pack0_76 hl (k := 7) rfl (pc_inc d 1) (by decide) rfl (fun ls hl => ?_)
                  refine lv_goto (tgt := 35) hx hb d_Mo_pack0_79 (by decide) ?_
                  exact ih_35 (d + 1) (cl (bl t n) (k - d) k (min 64 (n - k))) d (by omega) (by omega) (by omega) (bst_hi (bl_len t n) hd1 hbs (by omega)) (Nat.le_trans (cl_le _ _ _ _) (Nat.min_le_left _ _)) (by omega) (by omega) _ _ (hP.sub [2, 3, 0, 1] rfl) (hD.sub [2, 3, 0, 1] (by decide) rfl) hS _ (lv_sub hl [4, 5, 6, 7, 2, 1, 0] rfl)
                · skip
                  refine lv_goto (tgt := 76) hx hb d_Mo_pack0_65 (by decide) ?_
                  refine lv_iinc (v := nI (d + 1)) (lv' := [(6, .int (nI (d + 1))), (7, .int (nI (cl (bl t n) (k - d) k (min 64 (n - k))))), (0, .ref y), (1, .int ft), (2, .int (nI a)), (3, .int (nI k)), (4, .int (nI mo)), (5, .int (nI ba))]) hx hb d_Mo_pack0_76 hl (k := 7) rfl (pc_inc d 1) (by decide) rfl (fun ls hl => ?_)
                  refine lv_goto (tgt := 35) hx hb d_Mo_pack0_79 (by decide) ?_
                  exact ih_35 (d + 1) mo ba (by omega) (by omega) (by omega) (bst_lo (bl_len t n) hd1 hbs (by omega)) (by omega) (by omega) (by omega) _ _ (hP.sub [2, 3, 0, 1] rfl) (hD.sub [2, 3, 0, 1] (by decide) rfl) hS _ (lv_sub hl [2, 3, 4, 5, 6, 7, 0] rfl)
        exact lp_35 (4096 - 1 + 1) 1 0 0 (by omega) (by omega) (by omega) rfl (by omega) (by omega) (Nat.lt_succ_self _) _ _ (hP.sub [0, 1, 2, 3] rfl) (hD.sub [0, 1, 2, 3] (by decide) rfl) hS _ (lv_sub hl [3, 4, 5, 6, 2, 1, 0] rfl)
  exact lp_18 (n - 0 + 1) (bI (0 + vsz n ≤ 32768)) 0 0 w0 u0 (n + 1) (vL n) (by omega) (by omega) (by omega) (by omega) (by unfold packL; rw [bl_len]) (pkS_0 hc0) (Nat.lt_succ_self _) _ _ (hP.sub [2, 0, 3, 1] rfl) (hD.sub [2, 0, 3, 1] (by decide) rfl) hS _ (lv_sub hl [3, 2, 1, 0] rfl)
