abbrev rm_Packer_write : Room := { frames := 3, cells := 0, slots := 0, locals := 87 }
set_option maxHeartbeats 1000000 in
set_option maxRecDepth 100000 in
/-- a run of bytes packed, if it fits -/
theorem c_Packer_write (l : Launch) (g : pc_G) (k : Nat) (ra : Nat) (rb : Nat) (bc0 : Int32) (bd0 : Int32) (fa : Nat → Int32) (fb : Nat → Int32) (q : Nat) (r : Nat) (n : Nat) (t : Nat → UInt8) (q2 : Nat) (r2 : Nat) (n2 : Int32) (t2 : Nat → UInt8) (hn : n ≤ 32768) : pc_Ci (S := Int32 × Int32 × (Nat → Int32) × (Nat → Int32) × Nat × (Nat → UInt8)) l y_Packer_write prog_5_method_2_code 6 .boolean rm_Packer_write g [(k, .inr (3, [.ref ra, .ref rb, .int bc0, .int bd0])), (ra, .inl (g.2.2.1, 4096, .inl fa)), (rb, .inl (g.2.2.1, 4096, .inl fb)), (q, .inr (1, [.ref r, .int (nI n)])), (r, .inl (g.2.1, 32768, .inl (bA t))), (q2, .inr (1, [.ref r2, .int n2])), (r2, .inl (g.2.1, 32768, .inl (bA t2)))] [.ref k, .ref q, .ref q2] (fun rv u => ((rv = 1 ∧ bl u.2.2.2.2.2 u.2.2.2.2.1 = packL (bl t n) ∧ u.2.2.2.2.1 ≤ 32768) ∨ (rv = 0 ∧ 32768 < (packL (bl t n)).length))) (fun u => [(k, .inr (3, [.ref ra, .ref rb, .int u.1, .int u.2.1])), (ra, .inl (g.2.2.1, 4096, .inl u.2.2.1)), (rb, .inl (g.2.2.1, 4096, .inl u.2.2.2.1)), (q, .inr (1, [.ref r, .int (nI n)])), (r, .inl (g.2.1, 32768, .inl (bA t))), (q2, .inr (1, [.ref r2, .int (nI u.2.2.2.2.1)])), (r2, .inl (g.2.1, 32768, .inl (bA u.2.2.2.2.2)))]) := by
  refine pc_Ci.of (by decide) (by exact Nat.le_of_ble_eq_true rfl) ?_
  intro p e s m below meth c A Q hx hb hml hown hE hA hQ hP hD ls hl
  have hS : va_S A s.heap s.heap [] := va_S.rf
  have hl : lv_has ls 6 [(0, .ref k), (1, .ref q), (2, .ref q2)] := hl
  refine lv_aload_n hx hb d_Packer_write_0 rfl (lv_at hl 0 rfl) ?_
  refine va_get (ci := 3) (C := R_Packer) (T := F_Packer) (N := 4) hx hb hE.hts in_Packer hown hE.2.1 hP 0 rfl rfl 0 (by decide) (hE.w m_53) (fun _ h9 => h9) rfl d_Packer_write_1 ?_
  refine lv_iconst (v := (-1)) hx hb d_Packer_write_4 (by decide) ?_
  refine pc_v (wc := [(ra, .inl (g.2.2.1, 4096, .inl fa))]) (wr := [(k, .inr (3, [.ref ra, .ref rb, .int bc0, .int bd0])), (rb, .inl (g.2.2.1, 4096, .inl fb)), (q, .inr (1, [.ref r, .int (nI n)])), (r, .inl (g.2.1, 32768, .inl (bA t))), (q2, .inr (1, [.ref r2, .int n2])), (r2, .inl (g.2.1, 32768, .inl (bA t2)))]) (cells' := 0) (slots' := 0) hP hD hS hA [1] [0, 2, 3, 4, 5, 6] rfl rfl (by decide) (by decide) rfl rfl (va_runS (n := 2) (As := [.ref ra, .int (-1)]) (rest := []) ⟨hx, hb, hml, hown, hE.hts⟩ (c_Arr_fill l g ra 4096 fa (-1) (by omega) _) ⟨pc_cb hE m_225 m_11 m_223 (by decide +kernel) ⟨by exact Nat.le_of_ble_eq_true rfl, by exact Nat.le_of_ble_eq_true rfl⟩, hE.w m_224⟩ (pc_pre hP hD hE hS hA [1] (by decide) rfl [.ref ra, .int (-1)]) rfl rfl hl.1 rfl (lv_room (by exact Nat.le_of_ble_eq_true rfl)) d_Packer_write_5 ⟨by exact Nat.le_of_ble_eq_true rfl, by exact Nat.le_of_ble_eq_true rfl⟩) (fun u_1 H locs hw hP hD hS => ?_)
  obtain ⟨fz, rfl⟩ : ∃ z, z = u_1 := ⟨_, rfl⟩
  have hfill := hw
  have hfill : ∀ j, j < 4096 → fz j = (-1) := hfill
  have hP : va_P g.1 pc_cl [(k, .inr (3, [.ref ra, .ref rb, .int bc0, .int bd0])), (rb, .inl (g.2.2.1, 4096, .inl fb)), (q, .inr (1, [.ref r, .int (nI n)])), (r, .inl (g.2.1, 32768, .inl (bA t))), (q2, .inr (1, [.ref r2, .int n2])), (r2, .inl (g.2.1, 32768, .inl (bA t2))), (ra, .inl (g.2.2.1, 4096, .inl fz))] H := hP
  have hD : va_D A [(k, .inr (3, [.ref ra, .ref rb, .int bc0, .int bd0])), (rb, .inl (g.2.2.1, 4096, .inl fb)), (q, .inr (1, [.ref r, .int (nI n)])), (r, .inl (g.2.1, 32768, .inl (bA t))), (q2, .inr (1, [.ref r2, .int n2])), (r2, .inl (g.2.1, 32768, .inl (bA t2))), (ra, .inl (g.2.2.1, 4096, .inl fz))] := hD
  refine lv_aload_n hx hb d_Packer_write_8 rfl (lv_at hl 2 rfl) ?_
  refine lv_iconst (v := nI 0) hx hb d_Packer_write_9 (by decide) ?_
  refine va_putN (ci := 1) (ty := .int) (C := R_Bytes) (T := F_Bytes) (N := 2) hx hb hE.hts in_Bytes t_Bytes tk_Bytes nn_Bytes hown hE.2.1 hP hD hS 4 rfl rfl 1 (by decide) (hE.w m_39) (fun _ h9 => h9) rfl (by decide +kernel) (by rfl) (by rfl) (by exact Nat.le_of_ble_eq_true rfl) d_Packer_write_10 (fun H locs hP hD hS => ?_)
  have hP : va_P g.1 pc_cl [(k, .inr (3, [.ref ra, .ref rb, .int bc0, .int bd0])), (rb, .inl (g.2.2.1, 4096, .inl fb)), (q, .inr (1, [.ref r, .int (nI n)])), (r, .inl (g.2.1, 32768, .inl (bA t))), (q2, .inr (1, [.ref r2, .int (nI 0)])), (r2, .inl (g.2.1, 32768, .inl (bA t2))), (ra, .inl (g.2.2.1, 4096, .inl fz))] H := hP
  have hD : va_D A [(k, .inr (3, [.ref ra, .ref rb, .int bc0, .int bd0])), (rb, .inl (g.2.2.1, 4096, .inl fb)), (q, .inr (1, [.ref r, .int (nI n)])), (r, .inl (g.2.1, 32768, .inl (bA t))), (q2, .inr (1, [.ref r2, .int (nI 0)])), (r2, .inl (g.2.1, 32768, .inl (bA t2))), (ra, .inl (g.2.2.1, 4096, .inl fz))] := hD
  have hz := vsz_in n
  refine lv_aload_n hx hb d_Packer_write_13 rfl (lv_at hl 1 rfl) ?_
  refine va_getN (ci := 1) (C := R_Bytes) (T := F_Bytes) (N := 2) hx hb hE.hts in_Bytes hown hE.2.1 hP 2 rfl rfl 1 (by decide) (hE.w m_39) (fun _ h9 => h9) rfl d_Packer_write_14 ?_
  refine lv_aload_n hx hb d_Packer_write_17 rfl (lv_at hl 2 rfl) ?_
  refine pc_v (wc := [(q2, .inr (1, [.ref r2, .int (nI 0)])), (r2, .inl (g.2.1, 32768, .inl (bA t2)))]) (wr := [(k, .inr (3, [.ref ra, .ref rb, .int bc0, .int bd0])), (rb, .inl (g.2.2.1, 4096, .inl fb)), (q, .inr (1, [.ref r, .int (nI n)])), (r, .inl (g.2.1, 32768, .inl (bA t))), (ra, .inl (g.2.2.1, 4096, .inl fz))]) (cells' := 0) (slots' := 0) hP hD hS hA [4, 5] [0, 1, 2, 3, 6] rfl rfl (by decide) (by decide) rfl rfl (va_runSN (n := 2) (As := [.int (nI n), .ref q2]) (rest := []) ⟨hx, hb, hml, hown, hE.hts⟩ (c_Varints_write l g n q2 r2 0 t2 (by omega) (by omega) _) ⟨pc_cn hE m_228 m_12 m_226 (by decide +kernel) ⟨by exact Nat.le_of_ble_eq_true rfl, by exact Nat.le_of_ble_eq_true rfl⟩, hE.w m_227, trivial⟩ (pc_pre hP hD hE hS hA [4, 5] (by decide) rfl [.int (nI n), .ref q2]) rfl rfl hl.1 rfl (lv_room (by exact Nat.le_of_ble_eq_true rfl)) d_Packer_write_18 ⟨by exact Nat.le_of_ble_eq_true rfl, by exact Nat.le_of_ble_eq_true rfl⟩) (fun u_3 H locs hw hP hD hS => ?_)
  obtain ⟨n5, t5⟩ := u_3
  obtain ⟨hn5, ht5⟩ := hw
  have hn5 : n5 = 0 + vsz n := hn5
  have ht5 : bl t5 n5 = bl t2 0 ++ vL n := ht5
  have hP : va_P g.1 pc_cl [(k, .inr (3, [.ref ra, .ref rb, .int bc0, .int bd0])), (rb, .inl (g.2.2.1, 4096, .inl fb)), (q, .inr (1, [.ref r, .int (nI n)])), (r, .inl (g.2.1, 32768, .inl (bA t))), (ra, .inl (g.2.2.1, 4096, .inl fz)), (q2, .inr (1, [.ref r2, .int (nI n5)])), (r2, .inl (g.2.1, 32768, .inl (bA t5)))] H := hP
  have hD : va_D A [(k, .inr (3, [.ref ra, .ref rb, .int bc0, .int bd0])), (rb, .inl (g.2.2.1, 4096, .inl fb)), (q, .inr (1, [.ref r, .int (nI n)])), (r, .inl (g.2.1, 32768, .inl (bA t))), (ra, .inl (g.2.2.1, 4096, .inl fz)), (q2, .inr (1, [.ref r2, .int (nI n5)])), (r2, .inl (g.2.1, 32768, .inl (bA t5)))] := hD
  refine lv_iconst (v := nI 0) hx hb d_Packer_write_21 (by decide) ?_
  refine lv_istore_n (lv' := [(3, .int (nI 0)), (0, .ref k), (1, .ref q), (2, .ref q2)]) hx hb d_Packer_write_22 rfl hl (by decide) rfl (fun ls hl => ?_)
  refine lv_iconst (v := nI 0) hx hb d_Packer_write_23 (by decide) ?_
  refine lv_istore (lv' := [(4, .int (nI 0)), (3, .int (nI 0)), (0, .ref k), (1, .ref q), (2, .ref q2)]) hx hb d_Packer_write_24 hl (by decide) rfl (fun ls hl => ?_)
  refine lv_iconst (v := nI 0) hx hb d_Packer_write_26 (by decide) ?_
  refine lv_istore (lv' := [(5, .int (nI 0)), (4, .int (nI 0)), (3, .int (nI 0)), (0, .ref k), (1, .ref q), (2, .ref q2)]) hx hb d_Packer_write_27 hl (by decide) rfl (fun ls hl => ?_)
  have lp_29 : ∀ (n9 : Nat) (pl : Nat) (pe : Nat) (ps : Nat) (w3 : Nat) (f3 : Nat → UInt8) (b1 : Int32) (b2 : Int32) (ga : Nat → Int32) (gb : Nat → Int32) (fu : Nat) (hpn : pl ≤ n) (hpe : pe ≤ n) (hps : pl < pe → ps = pe) (hps2 : ps ≤ max pl pe) (hw3 : w3 ≤ 32768) (hI : chOK t n pl ga gb) (hfu : n - max pl pe < fu) (hE2 : bl f3 w3 ++ pcs (bl t n) fu ps (max pl pe) = packL (bl t n)) (hmu : n - pl < n9) (H : Heap) (locs : List Loc) (hP : va_P g.1 pc_cl [(k, .inr (3, [.ref ra, .ref rb, .int b1, .int b2])), (ra, .inl (g.2.2.1, 4096, .inl ga)), (rb, .inl (g.2.2.1, 4096, .inl gb)), (q, .inr (1, [.ref r, .int (nI n)])), (r, .inl (g.2.1, 32768, .inl (bA t))), (q2, .inr (1, [.ref r2, .int (nI w3)])), (r2, .inl (g.2.1, 32768, .inl (bA f3)))] H) (hD : va_D A [(k, .inr (3, [.ref ra, .ref rb, .int b1, .int b2])), (ra, .inl (g.2.2.1, 4096, .inl ga)), (rb, .inl (g.2.2.1, 4096, .inl gb)), (q, .inr (1, [.ref r, .int (nI n)])), (r, .inl (g.2.1, 32768, .inl (bA t))), (q2, .inr (1, [.ref r2, .int (nI w3)])), (r2, .inl (g.2.1, 32768, .inl (bA f3)))]) (hS : va_S A s.heap H locs) (ls : Array Slot) (hl : lv_has ls 6 [(0, .ref k), (1, .ref q), (2, .ref q2), (3, .int (nI ps)), (4, .int (nI pe)), (5, .int (nI pl))]), W p l e rm_Packer_write s m ([.ref k, .ref q, .ref q2] : List Value).toArray below meth c H locs 0 0 Q (F0 m 29 ls []) := by
    intro n9
    induction n9 with
    | zero => intros; omega
    | succ n9 ih_29 =>
      intro pl pe ps w3 f3 b1 b2 ga gb fu hpn hpe hps hps2 hw3 hI hfu hE2 hmu H locs hP hD hS ls hl
      refine lv_iload hx hb d_Packer_write_29 (lv_at hl 5 rfl) ?_
      refine lv_aload_n hx hb d_Packer_write_31 rfl (lv_at hl 1 rfl) ?_
      refine va_getN (ci := 1) (C := R_Bytes) (T := F_Bytes) (N := 2) hx hb hE.hts in_Bytes hown hE.2.1 hP 3 rfl rfl 1 (by decide) (hE.w m_39) (fun _ h9 => h9) rfl d_Packer_write_32 ?_
      refine pc_jge (tgt := 106) hx hb d_Packer_write_35 (by decide) (by omega) (by omega) (fun h_5 => ?_) (fun h_5 => ?_)
      · skip
        refine lv_aload_n hx hb d_Packer_write_106 rfl (lv_at hl 1 rfl) ?_
        refine lv_iload_n hx hb d_Packer_write_107 rfl (lv_at hl 3 rfl) ?_
        refine lv_aload_n hx hb d_Packer_write_108 rfl (lv_at hl 1 rfl) ?_
        refine va_getN (ci := 1) (C := R_Bytes) (T := F_Bytes) (N := 2) hx hb hE.hts in_Bytes hown hE.2.1 hP 3 rfl rfl 1 (by decide) (hE.w m_39) (fun _ h9 => h9) rfl d_Packer_write_109 ?_
        refine lv_aload_n hx hb d_Packer_write_112 rfl (lv_at hl 2 rfl) ?_
        refine pc_i (wc := [(q, .inr (1, [.ref r, .int (nI n)])), (r, .inl (g.2.1, 32768, .inl (bA t))), (q2, .inr (1, [.ref r2, .int (nI w3)])), (r2, .inl (g.2.1, 32768, .inl (bA f3)))]) (wr := [(k, .inr (3, [.ref ra, .ref rb, .int b1, .int b2])), (ra, .inl (g.2.2.1, 4096, .inl ga)), (rb, .inl (g.2.2.1, 4096, .inl gb))]) (cells' := 0) (slots' := 0) hP hD hS hA [3, 4, 5, 6] [0, 1, 2] rfl rfl (by decide) (by decide) rfl rfl (va_runS (n := 4) (As := [.ref q, .int (nI ps), .int (nI n), .ref q2]) (rest := []) ⟨hx, hb, hml, hown, hE.hts⟩ (c_Packer_writePlain l g q r n t q2 r2 w3 f3 ps n (by omega) (by omega) (by omega) (by omega) _) ⟨pc_cb hE m_257 m_3 m_255 (by decide +kernel) ⟨by exact Nat.le_of_ble_eq_true rfl, by exact Nat.le_of_ble_eq_true rfl⟩, hE.w m_256⟩ (pc_pre hP hD hE hS hA [3, 4, 5, 6] (by decide) rfl [.ref q, .int (nI ps), .int (nI n), .ref q2]) rfl rfl hl.1 rfl (lv_room (by exact Nat.le_of_ble_eq_true rfl)) d_Packer_write_113 ⟨by exact Nat.le_of_ble_eq_true rfl, by exact Nat.le_of_ble_eq_true rfl⟩) (fun r_7 u_6 H locs hw hP hD hS => ?_)
        obtain ⟨n3_8, t3_9⟩ := u_6
        have hw_10 := hw
        have hw_10 : (r_7 = 1 ∧ bl t3_9 n3_8 = bl f3 w3 ++ plL (bl t n) ps n ∧ n3_8 ≤ 32768) ∨ (r_7 = 0 ∧ 32768 < w3 + (plL (bl t n) ps n).length) := hw_10
        have hP : va_P g.1 pc_cl [(k, .inr (3, [.ref ra, .ref rb, .int b1, .int b2])), (ra, .inl (g.2.2.1, 4096, .inl ga)), (rb, .inl (g.2.2.1, 4096, .inl gb)), (q, .inr (1, [.ref r, .int (nI n)])), (r, .inl (g.2.1, 32768, .inl (bA t))), (q2, .inr (1, [.ref r2, .int (nI n3_8)])), (r2, .inl (g.2.1, 32768, .inl (bA t3_9)))] H := hP
        have hD : va_D A [(k, .inr (3, [.ref ra, .ref rb, .int b1, .int b2])), (ra, .inl (g.2.2.1, 4096, .inl ga)), (rb, .inl (g.2.2.1, 4096, .inl gb)), (q, .inr (1, [.ref r, .int (nI n)])), (r, .inl (g.2.1, 32768, .inl (bA t))), (q2, .inr (1, [.ref r2, .int (nI n3_8)])), (r2, .inl (g.2.1, 32768, .inl (bA t3_9)))] := hD
        have hpl := hw_10
        have hsn : narrow .boolean (.int r_7) = .int r_7 := by rcases hpl with ⟨e9, -⟩ | ⟨e9, -⟩ <;> rw [e9] <;> rfl
        have hend : pcs (bl t n) fu ps (max pl pe) = plL (bl t n) ps n := by rw [pcs_end (by omega) (by rw [bl_len]; omega), bl_len]
        exact hQ _ _ 116 _ r_7 (b1, b2, ga, gb, n3_8, t3_9) d_Packer_write_116 hsn (by rcases hpl with ⟨e1, e2, e3⟩ | ⟨e1, e2⟩; exact Or.inl ⟨e1, by rw [e2, ← hE2, hend], e3⟩; exact Or.inr ⟨e1, by rw [← hE2, hend, List.length_append, bl_len]; exact e2⟩) (hP.sub [0, 1, 2, 3, 4, 5, 6] rfl) (hD.sub [0, 1, 2, 3, 4, 5, 6] (by decide) rfl) hS
      · skip
        refine lv_iload hx hb d_Packer_write_38 (lv_at hl 5 rfl) ?_
        refine lv_iload hx hb d_Packer_write_40 (lv_at hl 4 rfl) ?_
        refine pc_jlt (tgt := 93) hx hb d_Packer_write_42 (by decide) (by omega) (by omega) (fun h_11 => ?_) (fun h_11 => ?_)
        · skip
          refine lv_aload_n hx hb d_Packer_write_93 rfl (lv_at hl 0 rfl) ?_
          refine lv_aload_n hx hb d_Packer_write_94 rfl (lv_at hl 1 rfl) ?_
          refine lv_iload hx hb d_Packer_write_95 (lv_at hl 5 rfl) ?_
          refine pc_v (wc := [(k, .inr (3, [.ref ra, .ref rb, .int b1, .int b2])), (ra, .inl (g.2.2.1, 4096, .inl ga)), (rb, .inl (g.2.2.1, 4096, .inl gb)), (q, .inr (1, [.ref r, .int (nI n)])), (r, .inl (g.2.1, 32768, .inl (bA t)))]) (wr := [(q2, .inr (1, [.ref r2, .int (nI w3)])), (r2, .inl (g.2.1, 32768, .inl (bA f3)))]) (cells' := 0) (slots' := 0) hP hD hS hA [0, 1, 2, 3, 4] [5, 6] rfl rfl (by decide) (by decide) rfl rfl (va_runV (n := 2) (As := [.ref q, .int (nI pl)]) (rest := []) (C := R_Packer) ⟨hx, hb, hml, hown, hE.hts⟩ (c_Packer_remember l g k ra rb b1 b2 ga gb q r n t pl (by omega) (by omega) (by omega) _) ⟨pc_cb hE m_274 m_3 m_271 (by decide +kernel) ⟨by exact Nat.le_of_ble_eq_true rfl, by exact Nat.le_of_ble_eq_true rfl⟩, hE.w m_273, hE.w ms_10⟩ (pc_preV (ci := 3) (q0 := 0) hP hD hE hS hA [0, 1, 2, 3, 4] (by decide) rfl [.ref q, .int (nI pl)] rfl rfl) rfl rfl hl.1 rfl (lv_room (by exact Nat.le_of_ble_eq_true rfl)) d_Packer_write_97 ⟨by exact Nat.le_of_ble_eq_true rfl, by exact Nat.le_of_ble_eq_true rfl⟩) (fun u_12 H locs hw hP hD hS => ?_)
          obtain ⟨fa2_14, fb2_15⟩ := u_12
          have hI2 := hw
          have hI2 : chOK t n (pl + 1) fa2_14 fb2_15 := hI2
          have hP : va_P g.1 pc_cl [(q2, .inr (1, [.ref r2, .int (nI w3)])), (r2, .inl (g.2.1, 32768, .inl (bA f3))), (k, .inr (3, [.ref ra, .ref rb, .int b1, .int b2])), (ra, .inl (g.2.2.1, 4096, .inl fa2_14)), (rb, .inl (g.2.2.1, 4096, .inl fb2_15)), (q, .inr (1, [.ref r, .int (nI n)])), (r, .inl (g.2.1, 32768, .inl (bA t)))] H := hP
          have hD : va_D A [(q2, .inr (1, [.ref r2, .int (nI w3)])), (r2, .inl (g.2.1, 32768, .inl (bA f3))), (k, .inr (3, [.ref ra, .ref rb, .int b1, .int b2])), (ra, .inl (g.2.2.1, 4096, .inl fa2_14)), (rb, .inl (g.2.2.1, 4096, .inl fb2_15)), (q, .inr (1, [.ref r, .int (nI n)])), (r, .inl (g.2.1, 32768, .inl (bA t)))] := hD
          refine lv_iinc (v := nI (pl + 1)) (lv' := [(5, .int (nI (pl + 1))), (0, .ref k), (1, .ref q), (2, .ref q2), (3, .int (nI ps)), (4, .int (nI pe))]) hx hb d_Packer_write_100 hl (k := 5) rfl (pc_inc pl 1) (by decide) rfl (fun ls hl => ?_)
          refine lv_goto (tgt := 29) hx hb d_Packer_write_103 (by decide) ?_
          exact ih_29 (pl + 1) pe ps w3 f3 b1 b2 fa2_14 fb2_15 fu (by omega) (by omega) (by omega) (by omega) (by omega) hI2 (by omega) (by rw [show max (pl + 1) pe = max pl pe by omega]; exact hE2) (by omega) _ _ (hP.sub [2, 3, 4, 5, 6, 0, 1] rfl) (hD.sub [2, 3, 4, 5, 6, 0, 1] (by decide) rfl) hS _ (lv_sub hl [1, 2, 3, 4, 5, 0] rfl)
        · skip
          refine lv_aload_n hx hb d_Packer_write_45 rfl (lv_at hl 0 rfl) ?_
          refine lv_aload_n hx hb d_Packer_write_46 rfl (lv_at hl 1 rfl) ?_
          refine lv_iload hx hb d_Packer_write_47 (lv_at hl 5 rfl) ?_
          refine pc_v (wc := [(k, .inr (3, [.ref ra, .ref rb, .int b1, .int b2])), (ra, .inl (g.2.2.1, 4096, .inl ga)), (rb, .inl (g.2.2.1, 4096, .inl gb)), (q, .inr (1, [.ref r, .int (nI n)])), (r, .inl (g.2.1, 32768, .inl (bA t)))]) (wr := [(q2, .inr (1, [.ref r2, .int (nI w3)])), (r2, .inl (g.2.1, 32768, .inl (bA f3)))]) (cells' := 0) (slots' := 0) hP hD hS hA [0, 1, 2, 3, 4] [5, 6] rfl rfl (by decide) (by decide) rfl rfl (va_runV (n := 2) (As := [.ref q, .int (nI pl)]) (rest := []) (C := R_Packer) ⟨hx, hb, hml, hown, hE.hts⟩ (c_Packer_search l g k ra rb b1 b2 ga gb q r n t pl (by omega) (by omega) (by omega) _) ⟨pc_cb hE m_236 m_3 m_233 (by decide +kernel) ⟨by exact Nat.le_of_ble_eq_true rfl, by exact Nat.le_of_ble_eq_true rfl⟩, hE.w m_235, hE.w ms_5⟩ (pc_preV (ci := 3) (q0 := 0) hP hD hE hS hA [0, 1, 2, 3, 4] (by decide) rfl [.ref q, .int (nI pl)] rfl rfl) rfl rfl hl.1 rfl (lv_room (by exact Nat.le_of_ble_eq_true rfl)) d_Packer_write_49 ⟨by exact Nat.le_of_ble_eq_true rfl, by exact Nat.le_of_ble_eq_true rfl⟩) (fun u_16 H locs hw hP hD hS => ?_)
          obtain ⟨c1, d1⟩ := u_16
          obtain ⟨hbr, hc64⟩ := hw
          have hbr : bRel (best (bl t n) pl) c1 d1 := hbr
          have hc64 : c1 ≤ 64 := hc64
          have hP : va_P g.1 pc_cl [(q2, .inr (1, [.ref r2, .int (nI w3)])), (r2, .inl (g.2.1, 32768, .inl (bA f3))), (k, .inr (3, [.ref ra, .ref rb, .int (nI c1), .int (nI d1)])), (ra, .inl (g.2.2.1, 4096, .inl ga)), (rb, .inl (g.2.2.1, 4096, .inl gb)), (q, .inr (1, [.ref r, .int (nI n)])), (r, .inl (g.2.1, 32768, .inl (bA t)))] H := hP
          have hD : va_D A [(q2, .inr (1, [.ref r2, .int (nI w3)])), (r2, .inl (g.2.1, 32768, .inl (bA f3))), (k, .inr (3, [.ref ra, .ref rb, .int (nI c1), .int (nI d1)])), (ra, .inl (g.2.2.1, 4096, .inl ga)), (rb, .inl (g.2.2.1, 4096, .inl gb)), (q, .inr (1, [.ref r, .int (nI n)])), (r, .inl (g.2.1, 32768, .inl (bA t)))] := hD
          refine lv_aload_n hx hb d_Packer_write_52 rfl (lv_at hl 0 rfl) ?_
          refine va_get (ci := 3) (C := R_Packer) (T := F_Packer) (N := 4) hx hb hE.hts in_Packer hown hE.2.1 hP 2 rfl rfl 2 (by decide) (hE.w m_55) (fun _ h9 => h9) rfl d_Packer_write_53 ?_
          refine lv_iconst (v := nI 4) hx hb d_Packer_write_56 (by decide) ?_
          refine pc_jlt (tgt := 93) hx hb d_Packer_write_57 (by decide) (by omega) (by omega) (fun h_18 => ?_) (fun h_18 => ?_)
          · skip
            have hM := bRel_lt hbr h_18
            obtain ⟨fu9, rfl⟩ : ∃ z, fu = z + 1 := ⟨fu - 1, by omega⟩
            refine lv_aload_n hx hb d_Packer_write_93 rfl (lv_at hl 0 rfl) ?_
            refine lv_aload_n hx hb d_Packer_write_94 rfl (lv_at hl 1 rfl) ?_
            refine lv_iload hx hb d_Packer_write_95 (lv_at hl 5 rfl) ?_
            refine pc_v (wc := [(k, .inr (3, [.ref ra, .ref rb, .int (nI c1), .int (nI d1)])), (ra, .inl (g.2.2.1, 4096, .inl ga)), (rb, .inl (g.2.2.1, 4096, .inl gb)), (q, .inr (1, [.ref r, .int (nI n)])), (r, .inl (g.2.1, 32768, .inl (bA t)))]) (wr := [(q2, .inr (1, [.ref r2, .int (nI w3)])), (r2, .inl (g.2.1, 32768, .inl (bA f3)))]) (cells' := 0) (slots' := 0) hP hD hS hA [2, 3, 4, 5, 6] [0, 1] rfl rfl (by decide) (by decide) rfl rfl (va_runV (n := 2) (As := [.ref q, .int (nI pl)]) (rest := []) (C := R_Packer) ⟨hx, hb, hml, hown, hE.hts⟩ (c_Packer_remember l g k ra rb (nI c1) (nI d1) ga gb q r n t pl (by omega) (by omega) (by omega) _) ⟨pc_cb hE m_274 m_3 m_271 (by decide +kernel) ⟨by exact Nat.le_of_ble_eq_true rfl, by exact Nat.le_of_ble_eq_true rfl⟩, hE.w m_273, hE.w ms_10⟩ (pc_preV (ci := 3) (q0 := 2) hP hD hE hS hA [2, 3, 4, 5, 6] (by decide) rfl [.ref q, .int (nI pl)] rfl rfl) rfl rfl hl.1 rfl (lv_room (by exact Nat.le_of_ble_eq_true rfl)) d_Packer_write_97 ⟨by exact Nat.le_of_ble_eq_true rfl, by exact Nat.le_of_ble_eq_true rfl⟩) (fun u_19 H locs hw hP hD hS => ?_)
            obtain ⟨fa2_21, fb2_22⟩ := u_19
            have hI2 := hw
            have hI2 : chOK t n (pl + 1) fa2_21 fb2_22 := hI2
            have hP : va_P g.1 pc_cl [(q2, .inr (1, [.ref r2, .int (nI w3)])), (r2, .inl (g.2.1, 32768, .inl (bA f3))), (k, .inr (3, [.ref ra, .ref rb, .int (nI c1), .int (nI d1)])), (ra, .inl (g.2.2.1, 4096, .inl fa2_21)), (rb, .inl (g.2.2.1, 4096, .inl fb2_22)), (q, .inr (1, [.ref r, .int (nI n)])), (r, .inl (g.2.1, 32768, .inl (bA t)))] H := hP
            have hD : va_D A [(q2, .inr (1, [.ref r2, .int (nI w3)])), (r2, .inl (g.2.1, 32768, .inl (bA f3))), (k, .inr (3, [.ref ra, .ref rb, .int (nI c1), .int (nI d1)])), (ra, .inl (g.2.2.1, 4096, .inl fa2_21)), (rb, .inl (g.2.2.1, 4096, .inl fb2_22)), (q, .inr (1, [.ref r, .int (nI n)])), (r, .inl (g.2.1, 32768, .inl (bA t)))] := hD
            refine lv_iinc (v := nI (pl + 1)) (lv' := [(5, .int (nI (pl + 1))), (0, .ref k), (1, .ref q), (2, .ref q2), (3, .int (nI ps)), (4, .int (nI pe))]) hx hb d_Packer_write_100 hl (k := 5) rfl (pc_inc pl 1) (by decide) rfl (fun ls hl => ?_)
            refine lv_goto (tgt := 29) hx hb d_Packer_write_103 (by decide) ?_
            exact ih_29 (pl + 1) pe ps w3 f3 (nI c1) (nI d1) fa2_21 fb2_22 fu9 (by omega) (by omega) (by omega) (by omega) (by omega) hI2 (by omega) (by rw [show max (pl + 1) pe = pl + 1 by omega, ← pcs_no (by rw [bl_len]; omega) hM, ← show max pl pe = pl by omega]; exact hE2) (by omega) _ _ (hP.sub [2, 3, 4, 5, 6, 0, 1] rfl) (hD.sub [2, 3, 4, 5, 6, 0, 1] (by decide) rfl) hS _ (lv_sub hl [1, 2, 3, 4, 5, 0] rfl)
          · skip
            have hM := bRel_ge hbr h_18
            obtain ⟨fu9, rfl⟩ : ∃ z, fu = z + 1 := ⟨fu - 1, by omega⟩
            have hbi := best_in (bl t n) pl
            rw [bl_len] at hbi
            refine lv_aload_n hx hb d_Packer_write_60 rfl (lv_at hl 1 rfl) ?_
            refine lv_iload_n hx hb d_Packer_write_61 rfl (lv_at hl 3 rfl) ?_
            refine lv_iload hx hb d_Packer_write_62 (lv_at hl 5 rfl) ?_
            refine lv_aload_n hx hb d_Packer_write_64 rfl (lv_at hl 2 rfl) ?_
            refine pc_i (wc := [(q, .inr (1, [.ref r, .int (nI n)])), (r, .inl (g.2.1, 32768, .inl (bA t))), (q2, .inr (1, [.ref r2, .int (nI w3)])), (r2, .inl (g.2.1, 32768, .inl (bA f3)))]) (wr := [(k, .inr (3, [.ref ra, .ref rb, .int (nI c1), .int (nI d1)])), (ra, .inl (g.2.2.1, 4096, .inl ga)), (rb, .inl (g.2.2.1, 4096, .inl gb))]) (cells' := 0) (slots' := 0) hP hD hS hA [5, 6, 0, 1] [2, 3, 4] rfl rfl (by decide) (by decide) rfl rfl (va_runS (n := 4) (As := [.ref q, .int (nI ps), .int (nI pl), .ref q2]) (rest := []) ⟨hx, hb, hml, hown, hE.hts⟩ (c_Packer_writePlain l g q r n t q2 r2 w3 f3 ps pl (by omega) (by omega) (by omega) (by omega) _) ⟨pc_cb hE m_257 m_3 m_255 (by decide +kernel) ⟨by exact Nat.le_of_ble_eq_true rfl, by exact Nat.le_of_ble_eq_true rfl⟩, hE.w m_256⟩ (pc_pre hP hD hE hS hA [5, 6, 0, 1] (by decide) rfl [.ref q, .int (nI ps), .int (nI pl), .ref q2]) rfl rfl hl.1 rfl (lv_room (by exact Nat.le_of_ble_eq_true rfl)) d_Packer_write_65 ⟨by exact Nat.le_of_ble_eq_true rfl, by exact Nat.le_of_ble_eq_true rfl⟩) (fun r_24 u_23 H locs hw hP hD hS => ?_)
            obtain ⟨n6, t6⟩ := u_23
            have hw_25 := hw
            have hw_25 : (r_24 = 1 ∧ bl t6 n6 = bl f3 w3 ++ plL (bl t n) ps pl ∧ n6 ≤ 32768) ∨ (r_24 = 0 ∧ 32768 < w3 + (plL (bl t n) ps pl).length) := hw_25
            have hP : va_P g.1 pc_cl [(k, .inr (3, [.ref ra, .ref rb, .int (nI c1), .int (nI d1)])), (ra, .inl (g.2.2.1, 4096, .inl ga)), (rb, .inl (g.2.2.1, 4096, .inl gb)), (q, .inr (1, [.ref r, .int (nI n)])), (r, .inl (g.2.1, 32768, .inl (bA t))), (q2, .inr (1, [.ref r2, .int (nI n6)])), (r2, .inl (g.2.1, 32768, .inl (bA t6)))] H := hP
            have hD : va_D A [(k, .inr (3, [.ref ra, .ref rb, .int (nI c1), .int (nI d1)])), (ra, .inl (g.2.2.1, 4096, .inl ga)), (rb, .inl (g.2.2.1, 4096, .inl gb)), (q, .inr (1, [.ref r, .int (nI n)])), (r, .inl (g.2.1, 32768, .inl (bA t))), (q2, .inr (1, [.ref r2, .int (nI n6)])), (r2, .inl (g.2.1, 32768, .inl (bA t6)))] := hD
            rcases hw_25 with ⟨rfl, hpl1⟩ | ⟨rfl, hpl0⟩
            · skip
              refine pc_ti (y := nI 1) rfl ?_
              refine pc_zeq (tgt := 79) hx hb d_Packer_write_68 (by decide) (by omega) (fun h_d => absurd h_d (by decide)) (fun h_d => ?_)
              refine lv_aload_n hx hb d_Packer_write_71 rfl (lv_at hl 0 rfl) ?_
              refine lv_aload_n hx hb d_Packer_write_72 rfl (lv_at hl 2 rfl) ?_
              refine pc_i (wc := [(k, .inr (3, [.ref ra, .ref rb, .int (nI c1), .int (nI d1)])), (q2, .inr (1, [.ref r2, .int (nI n6)])), (r2, .inl (g.2.1, 32768, .inl (bA t6)))]) (wr := [(ra, .inl (g.2.2.1, 4096, .inl ga)), (rb, .inl (g.2.2.1, 4096, .inl gb)), (q, .inr (1, [.ref r, .int (nI n)])), (r, .inl (g.2.1, 32768, .inl (bA t)))]) (cells' := 0) (slots' := 0) hP hD hS hA [0, 5, 6] [1, 2, 3, 4] rfl rfl (by decide) (by decide) rfl rfl (va_runV (n := 1) (As := [.ref q2]) (rest := []) (C := R_Packer) ⟨hx, hb, hml, hown, hE.hts⟩ (c_Packer_writePointer l g k ra rb c1 d1 q2 r2 n6 t6 (by omega) (by omega) (by omega) _) ⟨pc_cb hE m_270 m_3 m_267 (by decide +kernel) ⟨by exact Nat.le_of_ble_eq_true rfl, by exact Nat.le_of_ble_eq_true rfl⟩, hE.w m_269, hE.w ms_9⟩ (pc_preV (ci := 3) (q0 := 0) hP hD hE hS hA [0, 5, 6] (by decide) rfl [.ref q2] rfl rfl) rfl rfl hl.1 rfl (lv_room (by exact Nat.le_of_ble_eq_true rfl)) d_Packer_write_73 ⟨by exact Nat.le_of_ble_eq_true rfl, by exact Nat.le_of_ble_eq_true rfl⟩) (fun r_27 u_26 H locs hw hP hD hS => ?_)
              obtain ⟨n7, t7⟩ := u_26
              have hw_28 := hw
              have hw_28 : (r_27 = 1 ∧ bl t7 n7 = bl t6 n6 ++ ptL c1 d1 ∧ n7 ≤ 32768) ∨ (r_27 = 0 ∧ 32768 < n6 + (ptL c1 d1).length) := hw_28
              have hP : va_P g.1 pc_cl [(ra, .inl (g.2.2.1, 4096, .inl ga)), (rb, .inl (g.2.2.1, 4096, .inl gb)), (q, .inr (1, [.ref r, .int (nI n)])), (r, .inl (g.2.1, 32768, .inl (bA t))), (k, .inr (3, [.ref ra, .ref rb, .int (nI c1), .int (nI d1)])), (q2, .inr (1, [.ref r2, .int (nI n7)])), (r2, .inl (g.2.1, 32768, .inl (bA t7)))] H := hP
              have hD : va_D A [(ra, .inl (g.2.2.1, 4096, .inl ga)), (rb, .inl (g.2.2.1, 4096, .inl gb)), (q, .inr (1, [.ref r, .int (nI n)])), (r, .inl (g.2.1, 32768, .inl (bA t))), (k, .inr (3, [.ref ra, .ref rb, .int (nI c1), .int (nI d1)])), (q2, .inr (1, [.ref r2, .int (nI n7)])), (r2, .inl (g.2.1, 32768, .inl (bA t7)))] := hD
              rcases hw_28 with ⟨rfl, hpt1⟩ | ⟨rfl, hpt0⟩
              · skip
                refine pc_ti (y := nI 1) rfl ?_
                refine pc_zne (tgt := 81) hx hb d_Packer_write_76 (by decide) (by omega) (fun h_d => ?_) (fun h_d => absurd h_d (by decide))
                refine lv_iload hx hb d_Packer_write_81 (lv_at hl 5 rfl) ?_
                refine lv_aload_n hx hb d_Packer_write_83 rfl (lv_at hl 0 rfl) ?_
                refine va_get (ci := 3) (C := R_Packer) (T := F_Packer) (N := 4) hx hb hE.hts in_Packer hown hE.2.1 hP 4 rfl rfl 2 (by decide) (hE.w m_55) (fun _ h9 => h9) rfl d_Packer_write_84 ?_
                refine lv_iadd hx hb d_Packer_write_87 ?_
                refine pc_ti (y := nI (pl + c1)) (nI_add _ _) ?_
                refine lv_istore (lv' := [(4, .int (nI (pl + c1))), (0, .ref k), (1, .ref q), (2, .ref q2), (3, .int (nI ps)), (5, .int (nI pl))]) hx hb d_Packer_write_88 hl (by decide) rfl (fun ls hl => ?_)
                refine lv_iload hx hb d_Packer_write_90 (lv_at hl 0 rfl) ?_
                refine lv_istore_n (lv' := [(3, .int (nI (pl + c1))), (4, .int (nI (pl + c1))), (0, .ref k), (1, .ref q), (2, .ref q2), (5, .int (nI pl))]) hx hb d_Packer_write_92 rfl hl (by decide) rfl (fun ls hl => ?_)
                refine lv_aload_n hx hb d_Packer_write_93 rfl (lv_at hl 2 rfl) ?_
                refine lv_aload_n hx hb d_Packer_write_94 rfl (lv_at hl 3 rfl) ?_
                refine lv_iload hx hb d_Packer_write_95 (lv_at hl 5 rfl) ?_
                refine pc_v (wc := [(k, .inr (3, [.ref ra, .ref rb, .int (nI c1), .int (nI d1)])), (ra, .inl (g.2.2.1, 4096, .inl ga)), (rb, .inl (g.2.2.1, 4096, .inl gb)), (q, .inr (1, [.ref r, .int (nI n)])), (r, .inl (g.2.1, 32768, .inl (bA t)))]) (wr := [(q2, .inr (1, [.ref r2, .int (nI n7)])), (r2, .inl (g.2.1, 32768, .inl (bA t7)))]) (cells' := 0) (slots' := 0) hP hD hS hA [4, 0, 1, 2, 3] [5, 6] rfl rfl (by decide) (by decide) rfl rfl (va_runV (n := 2) (As := [.ref q, .int (nI pl)]) (rest := []) (C := R_Packer) ⟨hx, hb, hml, hown, hE.hts⟩ (c_Packer_remember l g k ra rb (nI c1) (nI d1) ga gb q r n t pl (by omega) (by omega) (by omega) _) ⟨pc_cb hE m_274 m_3 m_271 (by decide +kernel) ⟨by exact Nat.le_of_ble_eq_true rfl, by exact Nat.le_of_ble_eq_true rfl⟩, hE.w m_273, hE.w ms_10⟩ (pc_preV (ci := 3) (q0 := 4) hP hD hE hS hA [4, 0, 1, 2, 3] (by decide) rfl [.ref q, .int (nI pl)] rfl rfl) rfl rfl hl.1 rfl (lv_room (by exact Nat.le_of_ble_eq_true rfl)) d_Packer_write_97 ⟨by exact Nat.le_of_ble_eq_true rfl, by exact Nat.le_of_ble_eq_true rfl⟩) (fun u_29 H locs hw hP hD hS => ?_)
                obtain ⟨fa2_31, fb2_32⟩ := u_29
                have hI2 := hw
                have hI2 : chOK t n (pl + 1) fa2_31 fb2_32 := hI2
                have hP : va_P g.1 pc_cl [(q2, .inr (1, [.ref r2, .int (nI n7)])), (r2, .inl (g.2.1, 32768, .inl (bA t7))), (k, .inr (3, [.ref ra, .ref rb, .int (nI c1), .int (nI d1)])), (ra, .inl (g.2.2.1, 4096, .inl fa2_31)), (rb, .inl (g.2.2.1, 4096, .inl fb2_32)), (q, .inr (1, [.ref r, .int (nI n)])), (r, .inl (g.2.1, 32768, .inl (bA t)))] H := hP
                have hD : va_D A [(q2, .inr (1, [.ref r2, .int (nI n7)])), (r2, .inl (g.2.1, 32768, .inl (bA t7))), (k, .inr (3, [.ref ra, .ref rb, .int (nI c1), .int (nI d1)])), (ra, .inl (g.2.2.1, 4096, .inl fa2_31)), (rb, .inl (g.2.2.1, 4096, .inl fb2_32)), (q, .inr (1, [.ref r, .int (nI n)])), (r, .inl (g.2.1, 32768, .inl (bA t)))] := hD
                refine lv_iinc (v := nI (pl + 1)) (lv' := [(5, .int (nI (pl + 1))), (3, .int (nI (pl + c1))), (4, .int (nI (pl + c1))), (0, .ref k), (1, .ref q), (2, .ref q2)]) hx hb d_Packer_write_100 hl (k := 5) rfl (pc_inc pl 1) (by decide) rfl (fun ls hl => ?_)
                refine lv_goto (tgt := 29) hx hb d_Packer_write_103 (by decide) ?_
                exact ih_29 (pl + 1) (pl + c1) (pl + c1) n7 t7 (nI c1) (nI d1) fa2_31 fb2_32 fu9 (by omega) (by omega) (by omega) (by omega) (by omega) hI2 (by omega) (by rw [show max (pl + 1) (pl + c1) = pl + c1 by omega, hpt1.1, hpl1.1, ← hE2, show max pl pe = pl by omega, pcs_yes (by rw [bl_len]; omega) hM.1, ← hM.2.1, ← hM.2.2]; simp only [List.append_assoc]) (by omega) _ _ (hP.sub [2, 3, 4, 5, 6, 0, 1] rfl) (hD.sub [2, 3, 4, 5, 6, 0, 1] (by decide) rfl) hS _ (lv_sub hl [3, 4, 5, 1, 2, 0] rfl)
              · skip
                refine pc_ti (y := nI 0) rfl ?_
                refine pc_zne (tgt := 81) hx hb d_Packer_write_76 (by decide) (by omega) (fun h_d => absurd h_d (fun k9 => k9 rfl)) (fun h_d => ?_)
                refine lv_iconst (v := nI 0) hx hb d_Packer_write_79 (by decide) ?_
                exact hQ _ _ 80 _ (nI 0) (nI c1, nI d1, ga, gb, n7, t7) d_Packer_write_80 rfl (Or.inr ⟨rfl, by rw [← hE2, show max pl pe = pl by omega, pcs_yes (by rw [bl_len]; omega) hM.1, ← hM.2.1, ← hM.2.2]; simp only [List.length_append, bl_len]; first | omega | (have z9 := congrArg List.length hpl1.1; simp only [List.length_append, bl_len] at z9; omega)⟩) (hP.sub [4, 0, 1, 2, 3, 5, 6] rfl) (hD.sub [4, 0, 1, 2, 3, 5, 6] (by decide) rfl) hS
            · skip
              refine pc_ti (y := nI 0) rfl ?_
              refine pc_zeq (tgt := 79) hx hb d_Packer_write_68 (by decide) (by omega) (fun h_d => ?_) (fun h_d => absurd h_d (fun k9 => k9 rfl))
              refine lv_iconst (v := nI 0) hx hb d_Packer_write_79 (by decide) ?_
              exact hQ _ _ 80 _ (nI 0) (nI c1, nI d1, ga, gb, n6, t6) d_Packer_write_80 rfl (Or.inr ⟨rfl, by rw [← hE2, show max pl pe = pl by omega, pcs_yes (by rw [bl_len]; omega) hM.1, ← hM.2.1, ← hM.2.2]; simp only [List.length_append, bl_len]; first | omega | (have z9 := congrArg List.length hpl1.1; simp only [List.length_append, bl_len] at z9; omega)⟩) (hP.sub [0, 1, 2, 3, 4, 5, 6] rfl) (hD.sub [0, 1, 2, 3, 4, 5, 6] (by decide) rfl) hS
  exact lp_29 (n - 0 + 1) 0 0 0 n5 t5 bc0 bd0 fz fb (n + 1) (by omega) (by omega) (by omega) (by omega) (by omega) (chOK_0 hfill) (by omega) (by rw [ht5, bl_0, List.nil_append]; show _ ++ pcs (bl t n) (n + 1) 0 0 = _; unfold packL; rw [bl_len]) (Nat.lt_succ_self _) _ _ (hP.sub [0, 4, 1, 2, 3, 5, 6] rfl) (hD.sub [0, 4, 1, 2, 3, 5, 6] (by decide) rfl) hS _ (lv_sub hl [3, 4, 5, 2, 1, 0] rfl)
