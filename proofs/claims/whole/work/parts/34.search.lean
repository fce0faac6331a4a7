abbrev rm_Packer_search : Room := { frames := 2, cells := 0, slots := 0, locals := 43 }
set_option maxHeartbeats 1000000 in
set_option maxRecDepth 100000 in
/-- the greatest count and its least distance -/
theorem c_Packer_search (l : Launch) (g : pc_G) (k : Nat) (ra : Nat) (rb : Nat) (bc0 : Int32) (bd0 : Int32) (fa : Nat → Int32) (fb : Nat → Int32) (q : Nat) (r : Nat) (n : Nat) (t : Nat → UInt8) (p0 : Nat) (hn : n ≤ 32768) (hp : p0 < n) (hI : chOK t n p0 fa fb) : pc_Cv (S := Nat × Nat) l y_Packer_search prog_5_method_3_code 8 rm_Packer_search g [(k, .inr (3, [.ref ra, .ref rb, .int bc0, .int bd0])), (ra, .inl (g.2.2.1, 4096, .inl fa)), (rb, .inl (g.2.2.1, 4096, .inl fb)), (q, .inr (1, [.ref r, .int (nI n)])), (r, .inl (g.2.1, 32768, .inl (bA t)))] [.ref k, .ref q, .int (nI p0)] (fun u => bRel (best (bl t n) p0) u.1 u.2 ∧ u.1 ≤ 64) (fun u => [(k, .inr (3, [.ref ra, .ref rb, .int (nI u.1), .int (nI u.2)])), (ra, .inl (g.2.2.1, 4096, .inl fa)), (rb, .inl (g.2.2.1, 4096, .inl fb)), (q, .inr (1, [.ref r, .int (nI n)])), (r, .inl (g.2.1, 32768, .inl (bA t)))]) := by
  refine pc_Cv.of (by decide) (by exact Nat.le_of_ble_eq_true rfl) ?_
  intro p e s m below meth c A Q hx hb hml hown hE hA hnm hQ hP hD ls hl
  have hS : va_S A s.heap s.heap [] := va_S.rf
  have hl : lv_has ls 8 [(0, .ref k), (1, .ref q), (2, .int (nI p0))] := hl
  refine lv_aload_n hx hb d_Packer_search_0 rfl (lv_at hl 0 rfl) ?_
  refine lv_iconst (v := nI 0) hx hb d_Packer_search_1 (by decide) ?_
  refine va_put (ci := 3) (ty := .int) (C := R_Packer) (T := F_Packer) (N := 4) hx hb hE.hts in_Packer t_Packer tk_Packer nn_Packer hown hE.2.1 hP hD hS 0 rfl rfl 2 (by decide) (hE.w m_55) (fun _ h9 => h9) rfl (by decide +kernel) (by rfl) (by rfl) (by exact Nat.le_of_ble_eq_true rfl) d_Packer_search_2 (fun H locs hP hD hS => ?_)
  have hP : va_P g.1 pc_cl [(k, .inr (3, [.ref ra, .ref rb, .int (nI 0), .int bd0])), (ra, .inl (g.2.2.1, 4096, .inl fa)), (rb, .inl (g.2.2.1, 4096, .inl fb)), (q, .inr (1, [.ref r, .int (nI n)])), (r, .inl (g.2.1, 32768, .inl (bA t)))] H := hP
  have hD : va_D A [(k, .inr (3, [.ref ra, .ref rb, .int (nI 0), .int bd0])), (ra, .inl (g.2.2.1, 4096, .inl fa)), (rb, .inl (g.2.2.1, 4096, .inl fb)), (q, .inr (1, [.ref r, .int (nI n)])), (r, .inl (g.2.1, 32768, .inl (bA t)))] := hD
  refine lv_aload_n hx hb d_Packer_search_5 rfl (lv_at hl 0 rfl) ?_
  refine lv_iconst (v := nI 0) hx hb d_Packer_search_6 (by decide) ?_
  refine va_put (ci := 3) (ty := .int) (C := R_Packer) (T := F_Packer) (N := 4) hx hb hE.hts in_Packer t_Packer tk_Packer nn_Packer hown hE.2.1 hP hD hS 0 rfl rfl 3 (by decide) (hE.w m_56) (fun _ h9 => h9) rfl (by decide +kernel) (by rfl) (by rfl) (by exact Nat.le_of_ble_eq_true rfl) d_Packer_search_7 (fun H locs hP hD hS => ?_)
  have hP : va_P g.1 pc_cl [(k, .inr (3, [.ref ra, .ref rb, .int (nI 0), .int (nI 0)])), (ra, .inl (g.2.2.1, 4096, .inl fa)), (rb, .inl (g.2.2.1, 4096, .inl fb)), (q, .inr (1, [.ref r, .int (nI n)])), (r, .inl (g.2.1, 32768, .inl (bA t)))] H := hP
  have hD : va_D A [(k, .inr (3, [.ref ra, .ref rb, .int (nI 0), .int (nI 0)])), (ra, .inl (g.2.2.1, 4096, .inl fa)), (rb, .inl (g.2.2.1, 4096, .inl fb)), (q, .inr (1, [.ref r, .int (nI n)])), (r, .inl (g.2.1, 32768, .inl (bA t)))] := hD
  refine lv_bipush (v := nI 64) hx hb d_Packer_search_10 (by decide) ?_
  refine lv_aload_n hx hb d_Packer_search_12 rfl (lv_at hl 1 rfl) ?_
  refine va_getN (ci := 1) (C := R_Bytes) (T := F_Bytes) (N := 2) hx hb hE.hts in_Bytes hown hE.2.1 hP 3 rfl rfl 1 (by decide) (hE.w m_39) (fun _ h9 => h9) rfl d_Packer_search_13 ?_
  refine lv_iload_n hx hb d_Packer_search_16 rfl (lv_at hl 2 rfl) ?_
  refine lv_isub hx hb d_Packer_search_17 ?_
  refine pc_ti (y := nI (n - p0)) (pk_sub (by omega)) ?_
  refine va_mmin hx hb (hml.trans hl.1.symm) hown (hE.w m_237) (hE.w m_238) (hE.w m_13) (hE.w m_239) (by exact Nat.le_of_ble_eq_true rfl) (by exact Nat.le_of_ble_eq_true rfl) (by exact Nat.le_of_ble_eq_true rfl) (by exact Nat.le_of_ble_eq_true rfl) d_Packer_search_18 ?_
  refine pc_ti (y := nI (min 64 (n - p0))) (pc_min _ _ (by omega) (by omega)) ?_
  refine lv_istore_n (lv' := [(3, .int (nI (min 64 (n - p0)))), (0, .ref k), (1, .ref q), (2, .int (nI p0))]) hx hb d_Packer_search_21 rfl hl (by decide) rfl (fun ls hl => ?_)
  refine lv_iload_n hx hb d_Packer_search_22 rfl (lv_at hl 0 rfl) ?_
  refine lv_iconst (v := nI 4) hx hb d_Packer_search_23 (by decide) ?_
  refine pc_jge (tgt := 28) hx hb d_Packer_search_24 (by decide) (by omega) (by omega) (fun h_1 => ?_) (fun h_1 => ?_)
  · skip
    refine lv_iconst (v := nI 0) hx hb d_Packer_search_28 (by decide) ?_
    refine lv_iload_n hx hb d_Packer_search_29 rfl (lv_at hl 3 rfl) ?_
    refine lv_sipush (v := nI 4095) hx hb d_Packer_search_30 (by decide) ?_
    refine lv_isub hx hb d_Packer_search_33 ?_
    refine va_mmax hx hb (hml.trans hl.1.symm) hown (hE.w m_240) (hE.w m_241) (hE.w m_13) (hE.w m_242) (by exact Nat.le_of_ble_eq_true rfl) (by exact Nat.le_of_ble_eq_true rfl) (by exact Nat.le_of_ble_eq_true rfl) (by exact Nat.le_of_ble_eq_true rfl) d_Packer_search_34 ?_
    refine pc_ti (y := nI (p0 - 4095)) (pc_max0 (by omega) (by omega)) ?_
    refine lv_istore (lv' := [(4, .int (nI (p0 - 4095))), (3, .int (nI (min 64 (n - p0)))), (0, .ref k), (1, .ref q), (2, .int (nI p0))]) hx hb d_Packer_search_37 hl (by decide) rfl (fun ls hl => ?_)
    refine lv_aload_n hx hb d_Packer_search_39 rfl (lv_at hl 2 rfl) ?_
    refine va_get (ci := 3) (C := R_Packer) (T := F_Packer) (N := 4) hx hb hE.hts in_Packer hown hE.2.1 hP 0 rfl rfl 0 (by decide) (hE.w m_53) (fun _ h9 => h9) rfl d_Packer_search_40 ?_
    refine lv_aload_n hx hb d_Packer_search_43 rfl (lv_at hl 3 rfl) ?_
    refine lv_iload_n hx hb d_Packer_search_44 rfl (lv_at hl 4 rfl) ?_
    refine pc_i (wc := [(q, .inr (1, [.ref r, .int (nI n)])), (r, .inl (g.2.1, 32768, .inl (bA t)))]) (wr := [(k, .inr (3, [.ref ra, .ref rb, .int (nI 0), .int (nI 0)])), (ra, .inl (g.2.2.1, 4096, .inl fa)), (rb, .inl (g.2.2.1, 4096, .inl fb))]) (cells' := 0) (slots' := 0) hP hD hS hA [3, 4] [0, 1, 2] rfl rfl (by decide) (by decide) rfl rfl (va_runS (n := 2) (As := [.ref q, .int (nI p0)]) (rest := [.ref ra]) ⟨hx, hb, hml, hown, hE.hts⟩ (c_Packer_bucket l g q r n t p0 (by omega) _) ⟨pc_cb hE m_245 m_3 m_243 (by decide +kernel) ⟨by exact Nat.le_of_ble_eq_true rfl, by exact Nat.le_of_ble_eq_true rfl⟩, hE.w m_244⟩ (pc_pre hP hD hE hS hA [3, 4] (by decide) rfl [.ref q, .int (nI p0)]) rfl rfl hl.1 rfl (lv_room (by exact Nat.le_of_ble_eq_true rfl)) d_Packer_search_45 ⟨by exact Nat.le_of_ble_eq_true rfl, by exact Nat.le_of_ble_eq_true rfl⟩) (fun r_3 u_2 H locs hw hP hD hS => ?_)
    obtain rfl := hw
    have hP : va_P g.1 pc_cl [(k, .inr (3, [.ref ra, .ref rb, .int (nI 0), .int (nI 0)])), (ra, .inl (g.2.2.1, 4096, .inl fa)), (rb, .inl (g.2.2.1, 4096, .inl fb)), (q, .inr (1, [.ref r, .int (nI n)])), (r, .inl (g.2.1, 32768, .inl (bA t)))] H := hP
    have hD : va_D A [(k, .inr (3, [.ref ra, .ref rb, .int (nI 0), .int (nI 0)])), (ra, .inl (g.2.2.1, 4096, .inl fa)), (rb, .inl (g.2.2.1, 4096, .inl fb)), (q, .inr (1, [.ref r, .int (nI n)])), (r, .inl (g.2.1, 32768, .inl (bA t)))] := hD
    have hbk := bkt_lt t p0
    refine pc_iald hx hb hE.2.1 hP 1 1 rfl rfl (by omega) (by omega) d_Packer_search_48 ?_
    refine lv_istore (lv' := [(5, .int (fa (bkt t p0))), (4, .int (nI (p0 - 4095))), (3, .int (nI (min 64 (n - p0)))), (0, .ref k), (1, .ref q), (2, .int (nI p0))]) hx hb d_Packer_search_49 hl (by decide) rfl (fun ls hl => ?_)
    have hl : lv_has ls 8 [(5, .int (encO (prevB t n (bkt t p0) p0))), (4, .int (nI (p0 - 4095))), (3, .int (nI (min 64 (n - p0)))), (0, .ref k), (1, .ref q), (2, .int (nI p0))] := by rw [← show fa (bkt t p0) = encO (prevB t n (bkt t p0) p0) from hI.1 _ hbk]; exact hl
    refine lv_iconst (v := nI 0) hx hb d_Packer_search_51 (by decide) ?_
    refine lv_istore (lv' := [(6, .int (nI 0)), (5, .int (encO (prevB t n (bkt t p0) p0))), (4, .int (nI (p0 - 4095))), (3, .int (nI (min 64 (n - p0)))), (0, .ref k), (1, .ref q), (2, .int (nI p0))]) hx hb d_Packer_search_52 hl (by decide) rfl (fun ls hl => ?_)
    have lp_54 : ∀ (n9 : Nat) (i : Nat) (up : Nat) (ev : Option Nat) (bc : Nat) (bd : Nat) (hup : up ≤ p0) (hlo : p0 - 4095 ≤ up) (hiu : i + up ≤ p0) (hev : ev = prevB t n (bkt t p0) up) (hbc : bc ≤ 64) (hbr : bRel (bst (bl t n) p0 (p0 - up)) bc bd) (hmu : 4096 - i < n9) (H : Heap) (locs : List Loc) (hP : va_P g.1 pc_cl [(k, .inr (3, [.ref ra, .ref rb, .int (nI bc), .int (nI bd)])), (ra, .inl (g.2.2.1, 4096, .inl fa)), (rb, .inl (g.2.2.1, 4096, .inl fb)), (q, .inr (1, [.ref r, .int (nI n)])), (r, .inl (g.2.1, 32768, .inl (bA t)))] H) (hD : va_D A [(k, .inr (3, [.ref ra, .ref rb, .int (nI bc), .int (nI bd)])), (ra, .inl (g.2.2.1, 4096, .inl fa)), (rb, .inl (g.2.2.1, 4096, .inl fb)), (q, .inr (1, [.ref r, .int (nI n)])), (r, .inl (g.2.1, 32768, .inl (bA t)))]) (hS : va_S A s.heap H locs) (ls : Array Slot) (hl : lv_has ls 8 [(0, .ref k), (1, .ref q), (2, .int (nI p0)), (3, .int (nI (min 64 (n - p0)))), (4, .int (nI (p0 - 4095))), (5, .int (encO ev)), (6, .int (nI i))]), W p l e rm_Packer_search s m ([.ref k, .ref q, .int (nI p0)] : List Value).toArray below meth c H locs 0 0 Q (F0 m 54 ls []) := by
      intro n9
      induction n9 with
      | zero => intros; omega
      | succ n9 ih_54 =>
        intro i up ev bc bd hup hlo hiu hev hbc hbr hmu H locs hP hD hS ls hl
        refine lv_iload hx hb d_Packer_search_54 (lv_at hl 6 rfl) ?_
        refine lv_sipush (v := nI 4095) hx hb d_Packer_search_56 (by decide) ?_
        refine pc_jge (tgt := 129) hx hb d_Packer_search_59 (by decide) (by omega) (by omega) (fun h_4 => ?_) (fun h_4 => ?_)
        · skip
          exact hQ _ _ 129 _ (bc, bd) d_Packer_search_129 (⟨by first | exact search_end (by omega) hup hlo (fun p h1 h2 h3 => prevB_none hev.symm p h2 h3) hbr | exact search_end (by omega) hup hlo (fun p h1 h2 h3 => hes.2.2.2 p (by omega) h2 h3) hbr | exact search_full (by omega) hup hlo (by omega) hbr | (unfold best; rw [show min p0 4095 = p0 - up by omega]; exact hbr), by omega⟩) (hP.sub [0, 1, 2, 3, 4] rfl) (hD.sub [0, 1, 2, 3, 4] (by decide) rfl) hS
        · skip
          rcases ev with _ | e9
          · skip
            have hl : lv_has ls 8 [(0, .ref k), (1, .ref q), (2, .int (nI p0)), (3, .int (nI (min 64 (n - p0)))), (4, .int (nI (p0 - 4095))), (5, .int (-1)), (6, .int (nI i))] := by rw [← show encO none = (-1) from rfl]; exact hl
            refine lv_iload hx hb d_Packer_search_62 (lv_at hl 5 rfl) ?_
            refine lv_iload hx hb d_Packer_search_64 (lv_at hl 4 rfl) ?_
            refine lv_icmp_lt (tgt := 129) hx hb d_Packer_search_66 (by decide) (fun h_d => ?_) (fun h_d => absurd h_d (fun k9 => k9 (m1_lt (by omega))))
            exact hQ _ _ 129 _ (bc, bd) d_Packer_search_129 (⟨by first | exact search_end (by omega) hup hlo (fun p h1 h2 h3 => prevB_none hev.symm p h2 h3) hbr | exact search_end (by omega) hup hlo (fun p h1 h2 h3 => hes.2.2.2 p (by omega) h2 h3) hbr | exact search_full (by omega) hup hlo (by omega) hbr | (unfold best; rw [show min p0 4095 = p0 - up by omega]; exact hbr), by omega⟩) (hP.sub [0, 1, 2, 3, 4] rfl) (hD.sub [0, 1, 2, 3, 4] (by decide) rfl) hS
          · skip
            have hl : lv_has ls 8 [(0, .ref k), (1, .ref q), (2, .int (nI p0)), (3, .int (nI (min 64 (n - p0)))), (4, .int (nI (p0 - 4095))), (5, .int (nI e9)), (6, .int (nI i))] := by rw [← show encO (some e9) = nI e9 from rfl]; exact hl
            have hes := prevB_some hev.symm
            refine lv_iload hx hb d_Packer_search_62 (lv_at hl 5 rfl) ?_
            refine lv_iload hx hb d_Packer_search_64 (lv_at hl 4 rfl) ?_
            refine pc_jlt (tgt := 129) hx hb d_Packer_search_66 (by decide) (by omega) (by omega) (fun h_5 => ?_) (fun h_5 => ?_)
            · skip
              exact hQ _ _ 129 _ (bc, bd) d_Packer_search_129 (⟨by first | exact search_end (by omega) hup hlo (fun p h1 h2 h3 => prevB_none hev.symm p h2 h3) hbr | exact search_end (by omega) hup hlo (fun p h1 h2 h3 => hes.2.2.2 p (by omega) h2 h3) hbr | exact search_full (by omega) hup hlo (by omega) hbr | (unfold best; rw [show min p0 4095 = p0 - up by omega]; exact hbr), by omega⟩) (hP.sub [0, 1, 2, 3, 4] rfl) (hD.sub [0, 1, 2, 3, 4] (by decide) rfl) hS
            · skip
              refine lv_aload_n hx hb d_Packer_search_69 rfl (lv_at hl 0 rfl) ?_
              refine va_get (ci := 3) (C := R_Packer) (T := F_Packer) (N := 4) hx hb hE.hts in_Packer hown hE.2.1 hP 0 rfl rfl 2 (by decide) (hE.w m_55) (fun _ h9 => h9) rfl d_Packer_search_70 ?_
              refine lv_iload_n hx hb d_Packer_search_73 rfl (lv_at hl 3 rfl) ?_
              refine pc_jge (tgt := 129) hx hb d_Packer_search_74 (by decide) (by omega) (by omega) (fun h_6 => ?_) (fun h_6 => ?_)
              · skip
                exact hQ _ _ 129 _ (bc, bd) d_Packer_search_129 (⟨by first | exact search_end (by omega) hup hlo (fun p h1 h2 h3 => prevB_none hev.symm p h2 h3) hbr | exact search_end (by omega) hup hlo (fun p h1 h2 h3 => hes.2.2.2 p (by omega) h2 h3) hbr | exact search_full (by omega) hup hlo (by omega) hbr | (unfold best; rw [show min p0 4095 = p0 - up by omega]; exact hbr), by omega⟩) (hP.sub [0, 1, 2, 3, 4] rfl) (hD.sub [0, 1, 2, 3, 4] (by decide) rfl) hS
              · skip
                refine lv_aload_n hx hb d_Packer_search_77 rfl (lv_at hl 1 rfl) ?_
                refine lv_iload hx hb d_Packer_search_78 (lv_at hl 5 rfl) ?_
                refine lv_iload_n hx hb d_Packer_search_80 rfl (lv_at hl 2 rfl) ?_
                refine lv_iload_n hx hb d_Packer_search_81 rfl (lv_at hl 3 rfl) ?_
                refine pc_i (wc := [(q, .inr (1, [.ref r, .int (nI n)])), (r, .inl (g.2.1, 32768, .inl (bA t)))]) (wr := [(k, .inr (3, [.ref ra, .ref rb, .int (nI bc), .int (nI bd)])), (ra, .inl (g.2.2.1, 4096, .inl fa)), (rb, .inl (g.2.2.1, 4096, .inl fb))]) (cells' := 0) (slots' := 0) hP hD hS hA [3, 4] [0, 1, 2] rfl rfl (by decide) (by decide) rfl rfl (va_runVN (n := 3) (As := [.int (nI e9), .int (nI p0), .int (nI (min 64 (n - p0)))]) (rest := []) (C := R_Bytes) ⟨hx, hb, hml, hown, hE.hts⟩ (c_Bytes_countSame l g q r n t e9 p0 (min 64 (n - p0)) (by omega) (by omega) _) ⟨pc_cn hE m_254 m_2 m_251 (by decide +kernel) ⟨by exact Nat.le_of_ble_eq_true rfl, by exact Nat.le_of_ble_eq_true rfl⟩, hE.w m_253, hE.w ms_7⟩ (pc_preV (ci := 1) (q0 := 3) hP hD hE hS hA [3, 4] (by decide) rfl [.int (nI e9), .int (nI p0), .int (nI (min 64 (n - p0)))] rfl rfl) rfl rfl hl.1 rfl (lv_room (by exact Nat.le_of_ble_eq_true rfl)) d_Packer_search_82 ⟨by exact Nat.le_of_ble_eq_true rfl, by exact Nat.le_of_ble_eq_true rfl⟩) (fun r_8 u_7 H locs hw hP hD hS => ?_)
                obtain ⟨cc, rfl⟩ : ∃ z, z = u_7 := ⟨_, rfl⟩
                obtain ⟨rfl, hlc⟩ := hw
                have hlc : lcp t e9 p0 (min 64 (n - p0)) cc := hlc
                have hP : va_P g.1 pc_cl [(k, .inr (3, [.ref ra, .ref rb, .int (nI bc), .int (nI bd)])), (ra, .inl (g.2.2.1, 4096, .inl fa)), (rb, .inl (g.2.2.1, 4096, .inl fb)), (q, .inr (1, [.ref r, .int (nI n)])), (r, .inl (g.2.1, 32768, .inl (bA t)))] H := hP
                have hD : va_D A [(k, .inr (3, [.ref ra, .ref rb, .int (nI bc), .int (nI bd)])), (ra, .inl (g.2.2.1, 4096, .inl fa)), (rb, .inl (g.2.2.1, 4096, .inl fb)), (q, .inr (1, [.ref r, .int (nI n)])), (r, .inl (g.2.1, 32768, .inl (bA t)))] := hD
                refine lv_istore (lv' := [(7, .int (nI cc)), (0, .ref k), (1, .ref q), (2, .int (nI p0)), (3, .int (nI (min 64 (n - p0)))), (4, .int (nI (p0 - 4095))), (5, .int (nI e9)), (6, .int (nI i))]) hx hb d_Packer_search_85 hl (by decide) rfl (fun ls hl => ?_)
                have hcc := hlc.1
                refine lv_iload hx hb d_Packer_search_87 (lv_at hl 0 rfl) ?_
                refine lv_aload_n hx hb d_Packer_search_89 rfl (lv_at hl 1 rfl) ?_
                refine va_get (ci := 3) (C := R_Packer) (T := F_Packer) (N := 4) hx hb hE.hts in_Packer hown hE.2.1 hP 0 rfl rfl 2 (by decide) (hE.w m_55) (fun _ h9 => h9) rfl d_Packer_search_90 ?_
                refine pc_jle (tgt := 110) hx hb d_Packer_search_93 (by decide) (by omega) (by omega) (fun h_9 => ?_) (fun h_9 => ?_)
                · skip
                  refine lv_aload_n hx hb d_Packer_search_110 rfl (lv_at hl 1 rfl) ?_
                  refine va_get (ci := 3) (C := R_Packer) (T := F_Packer) (N := 4) hx hb hE.hts in_Packer hown hE.2.1 hP 0 rfl rfl 1 (by decide) (hE.w m_54) (fun _ h9 => h9) rfl d_Packer_search_111 ?_
                  refine lv_iload hx hb d_Packer_search_114 (lv_at hl 6 rfl) ?_
                  refine lv_sipush (v := nI 4095) hx hb d_Packer_search_116 (by decide) ?_
                  refine lv_iand hx hb d_Packer_search_119 ?_
                  refine pc_ti (y := nI (e9 % 4096)) (pk_andN (by omega) 12 (by decide)) ?_
                  refine pc_iald hx hb hE.2.1 hP 2 1 rfl rfl (by omega) (by omega) d_Packer_search_120 ?_
                  refine lv_istore (lv' := [(5, .int (fb (e9 % 4096))), (7, .int (nI cc)), (0, .ref k), (1, .ref q), (2, .int (nI p0)), (3, .int (nI (min 64 (n - p0)))), (4, .int (nI (p0 - 4095))), (6, .int (nI i))]) hx hb d_Packer_search_121 hl (by decide) rfl (fun ls hl => ?_)
                  have hl : lv_has ls 8 [(5, .int (encO (prevB t n (bkt t p0) e9))), (7, .int (nI cc)), (0, .ref k), (1, .ref q), (2, .int (nI p0)), (3, .int (nI (min 64 (n - p0)))), (4, .int (nI (p0 - 4095))), (6, .int (nI i))] := by rw [← show fb (e9 % 4096) = encO (prevB t n (bkt t p0) e9) from by rw [hI.2 e9 (by omega) (by omega) (by omega), hes.2.2.1]]; exact hl
                  refine lv_iinc (v := nI (i + 1)) (lv' := [(6, .int (nI (i + 1))), (5, .int (encO (prevB t n (bkt t p0) e9))), (7, .int (nI cc)), (0, .ref k), (1, .ref q), (2, .int (nI p0)), (3, .int (nI (min 64 (n - p0)))), (4, .int (nI (p0 - 4095)))]) hx hb d_Packer_search_123 hl (k := 7) rfl (pc_inc i 1) (by decide) rfl (fun ls hl => ?_)
                  refine lv_goto (tgt := 54) hx hb d_Packer_search_126 (by decide) ?_
                  exact ih_54 (i + 1) e9 (prevB t n (bkt t p0) e9) bc bd (by omega) (by omega) (by omega) rfl (by omega) (by have z9 := search_hit (by omega) hup hev.symm hlc hbr; first | (rwa [if_neg (by omega), if_neg (by omega)] at z9) | (rwa [if_pos (by omega), if_pos (by omega)] at z9)) (by omega) _ _ (hP.sub [0, 1, 2, 3, 4] rfl) (hD.sub [0, 1, 2, 3, 4] (by decide) rfl) hS _ (lv_sub hl [3, 4, 5, 6, 7, 1, 0] rfl)
                · skip
                  refine lv_aload_n hx hb d_Packer_search_96 rfl (lv_at hl 1 rfl) ?_
                  refine lv_iload hx hb d_Packer_search_97 (lv_at hl 0 rfl) ?_
                  refine va_put (ci := 3) (ty := .int) (C := R_Packer) (T := F_Packer) (N := 4) hx hb hE.hts in_Packer t_Packer tk_Packer nn_Packer hown hE.2.1 hP hD hS 0 rfl rfl 2 (by decide) (hE.w m_55) (fun _ h9 => h9) rfl (by decide +kernel) (by rfl) (by rfl) (by exact Nat.le_of_ble_eq_true rfl) d_Packer_search_99 (fun H locs hP hD hS => ?_)
                  have hP : va_P g.1 pc_cl [(k, .inr (3, [.ref ra, .ref rb, .int (nI cc), .int (nI bd)])), (ra, .inl (g.2.2.1, 4096, .inl fa)), (rb, .inl (g.2.2.1, 4096, .inl fb)), (q, .inr (1, [.ref r, .int (nI n)])), (r, .inl (g.2.1, 32768, .inl (bA t)))] H := hP
                  have hD : va_D A [(k, .inr (3, [.ref ra, .ref rb, .int (nI cc), .int (nI bd)])), (ra, .inl (g.2.2.1, 4096, .inl fa)), (rb, .inl (g.2.2.1, 4096, .inl fb)), (q, .inr (1, [.ref r, .int (nI n)])), (r, .inl (g.2.1, 32768, .inl (bA t)))] := hD
                  refine lv_aload_n hx hb d_Packer_search_102 rfl (lv_at hl 1 rfl) ?_
                  refine lv_iload_n hx hb d_Packer_search_103 rfl (lv_at hl 3 rfl) ?_
                  refine lv_iload hx hb d_Packer_search_104 (lv_at hl 6 rfl) ?_
                  refine lv_isub hx hb d_Packer_search_106 ?_
                  refine pc_ti (y := nI (p0 - e9)) (pk_sub (by omega)) ?_
                  refine va_put (ci := 3) (ty := .int) (C := R_Packer) (T := F_Packer) (N := 4) hx hb hE.hts in_Packer t_Packer tk_Packer nn_Packer hown hE.2.1 hP hD hS 0 rfl rfl 3 (by decide) (hE.w m_56) (fun _ h9 => h9) rfl (by decide +kernel) (by rfl) (by rfl) (by exact Nat.le_of_ble_eq_true rfl) d_Packer_search_107 (fun H locs hP hD hS => ?_)
                  have hP : va_P g.1 pc_cl [(k, .inr (3, [.ref ra, .ref rb, .int (nI cc), .int (nI (p0 - e9))])), (ra, .inl (g.2.2.1, 4096, .inl fa)), (rb, .inl (g.2.2.1, 4096, .inl fb)), (q, .inr (1, [.ref r, .int (nI n)])), (r, .inl (g.2.1, 32768, .inl (bA t)))] H := hP
                  have hD : va_D A [(k, .inr (3, [.ref ra, .ref rb, .int (nI cc), .int (nI (p0 - e9))])), (ra, .inl (g.2.2.1, 4096, .inl fa)), (rb, .inl (g.2.2.1, 4096, .inl fb)), (q, .inr (1, [.ref r, .int (nI n)])), (r, .inl (g.2.1, 32768, .inl (bA t)))] := hD
                  refine lv_aload_n hx hb d_Packer_search_110 rfl (lv_at hl 1 rfl) ?_
                  refine va_get (ci := 3) (C := R_Packer) (T := F_Packer) (N := 4) hx hb hE.hts in_Packer hown hE.2.1 hP 0 rfl rfl 1 (by decide) (hE.w m_54) (fun _ h9 => h9) rfl d_Packer_search_111 ?_
                  refine lv_iload hx hb d_Packer_search_114 (lv_at hl 6 rfl) ?_
                  refine lv_sipush (v := nI 4095) hx hb d_Packer_search_116 (by decide) ?_
                  refine lv_iand hx hb d_Packer_search_119 ?_
                  refine pc_ti (y := nI (e9 % 4096)) (pk_andN (by omega) 12 (by decide)) ?_
                  refine pc_iald hx hb hE.2.1 hP 2 1 rfl rfl (by omega) (by omega) d_Packer_search_120 ?_
                  refine lv_istore (lv' := [(5, .int (fb (e9 % 4096))), (7, .int (nI cc)), (0, .ref k), (1, .ref q), (2, .int (nI p0)), (3, .int (nI (min 64 (n - p0)))), (4, .int (nI (p0 - 4095))), (6, .int (nI i))]) hx hb d_Packer_search_121 hl (by decide) rfl (fun ls hl => ?_)
                  have hl : lv_has ls 8 [(5, .int (encO (prevB t n (bkt t p0) e9))), (7, .int (nI cc)), (0, .ref k), (1, .ref q), (2, .int (nI p0)), (3, .int (nI (min 64 (n - p0)))), (4, .int (nI (p0 - 4095))), (6, .int (nI i))] := by rw [← show fb (e9 % 4096) = encO (prevB t n (bkt t p0) e9) from by rw [hI.2 e9 (by omega) (by omega) (by omega), hes.2.2.1]]; exact hl
                  refine lv_iinc (v := nI (i + 1)) (lv' := [(6, .int (nI (i + 1))), (5, .int (encO (prevB t n (bkt t p0) e9))), (7, .int (nI cc)), (0, .ref k), (1, .ref q), (2, .int (nI p0)), (3, .int (nI (min 64 (n - p0)))), (4, .int (nI (p0 - 4095)))]) hx hb d_Packer_search_123 hl (k := 7) rfl (pc_inc i 1) (by decide) rfl (fun ls hl => ?_)
                  refine lv_goto (tgt := 54) hx hb d_Packer_search_126 (by decide) ?_
                  exact ih_54 (i + 1) e9 (prevB t n (bkt t p0) e9) cc (p0 - e9) (by omega) (by omega) (by omega) rfl (by omega) (by have z9 := search_hit (by omega) hup hev.symm hlc hbr; first | (rwa [if_neg (by omega), if_neg (by omega)] at z9) | (rwa [if_pos (by omega), if_pos (by omega)] at z9)) (by omega) _ _ (hP.sub [0, 1, 2, 3, 4] rfl) (hD.sub [0, 1, 2, 3, 4] (by decide) rfl) hS _ (lv_sub hl [3, 4, 5, 6, 7, 1, 0] rfl)
    exact lp_54 (4096 - 0 + 1) 0 p0 (prevB t n (bkt t p0) p0) 0 0 (by omega) (by omega) (by omega) rfl (by omega) (by rw [Nat.sub_self]; exact bRel_0 _ _) (Nat.lt_succ_self _) _ _ (hP.sub [0, 1, 2, 3, 4] rfl) (hD.sub [0, 1, 2, 3, 4] (by decide) rfl) hS _ (lv_sub hl [4, 5, 6, 3, 2, 1, 0] rfl)
  · skip
    exact hQ _ _ 27 _ (0, 0) d_Packer_search_27 (⟨⟨fun h9 => by have := (best_in (bl t n) p0).1; rw [bl_len] at this; omega, fun _ => by omega⟩, by omega⟩) (hP.sub [0, 1, 2, 3, 4] rfl) (hD.sub [0, 1, 2, 3, 4] (by decide) rfl) hS
