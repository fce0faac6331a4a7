abbrev rm_Crc_ofFirst : Room := { frames := 1, cells := 0, slots := 0, locals := 21 }
set_option maxHeartbeats 1000000 in
set_option maxRecDepth 100000 in
/-- the checksum of the first k bytes -/
theorem c_Crc_ofFirst (l : Launch) (g : pc_G) (k : Nat) (q : Nat) (r : Nat) (n : Nat) (t : Nat → UInt8) (hk : k ≤ 32768) : pc_Ci (S := Unit) l y_Crc_ofFirst prog_3_method_2_code 4 .int rm_Crc_ofFirst g [(q, .inr (1, [.ref r, .int (nI n)])), (r, .inl (g.2.1, 32768, .inl (bA t)))] [.int (nI k), .ref q] (fun rv _ => rv = cF t k ^^^ (-1)) (fun _ => [(q, .inr (1, [.ref r, .int (nI n)])), (r, .inl (g.2.1, 32768, .inl (bA t)))]) := by
  refine pc_Ci.of (by decide) (by exact Nat.le_of_ble_eq_true rfl) ?_
  intro p e s m below meth c A Q hx hb hml hown hE hA hQ hP hD ls hl
  have hS : va_S A s.heap s.heap [] := va_S.rf
  have hl : lv_has ls 4 [(0, .int (nI k)), (1, .ref q)] := hl
  obtain ⟨th, hZh, hTh⟩ := hE.2.2.2.2
  refine lv_iconst (v := (-1)) hx hb d_Crc_ofFirst_0 (by decide) ?_
  refine lv_istore_n (lv' := [(2, .int (-1)), (0, .int (nI k)), (1, .ref q)]) hx hb d_Crc_ofFirst_1 rfl hl (by decide) rfl (fun ls hl => ?_)
  have hl : lv_has ls 4 [(2, .int (cF t 0)), (0, .int (nI k)), (1, .ref q)] := by rw [← show (-1) = cF t 0 from rfl]; exact hl
  refine lv_iconst (v := nI 0) hx hb d_Crc_ofFirst_2 (by decide) ?_
  refine lv_istore_n (lv' := [(3, .int (nI 0)), (2, .int (cF t 0)), (0, .int (nI k)), (1, .ref q)]) hx hb d_Crc_ofFirst_3 rfl hl (by decide) rfl (fun ls hl => ?_)
  have lp_4 : ∀ (n9 : Nat) (i : Nat) (hi : i ≤ k) (hmu : k - i < n9) (H : Heap) (locs : List Loc) (hP : va_P g.1 pc_cl [(q, .inr (1, [.ref r, .int (nI n)])), (r, .inl (g.2.1, 32768, .inl (bA t)))] H) (hD : va_D A [(q, .inr (1, [.ref r, .int (nI n)])), (r, .inl (g.2.1, 32768, .inl (bA t)))]) (hS : va_S A s.heap H locs) (ls : Array Slot) (hl : lv_has ls 4 [(0, .int (nI k)), (1, .ref q), (2, .int (cF t i)), (3, .int (nI i))]), W p l e rm_Crc_ofFirst s m ([.int (nI k), .ref q] : List Value).toArray below meth c H locs 0 0 Q (F0 m 4 ls []) := by
    intro n9
    induction n9 with
    | zero => intros; omega
    | succ n9 ih_4 =>
      intro i hi hmu H locs hP hD hS ls hl
      refine lv_iload_n hx hb d_Crc_ofFirst_4 rfl (lv_at hl 3 rfl) ?_
      refine lv_iload_n hx hb d_Crc_ofFirst_5 rfl (lv_at hl 0 rfl) ?_
      refine pc_jge (tgt := 49) hx hb d_Crc_ofFirst_6 (by decide) (by omega) (by omega) (fun h_1 => ?_) (fun h_1 => ?_)
      · skip
        have hik : i = k := by omega
        refine lv_iload_n hx hb d_Crc_ofFirst_49 rfl (lv_at hl 2 rfl) ?_
        refine lv_iconst (v := (-1)) hx hb d_Crc_ofFirst_50 (by decide) ?_
        refine lv_ixor hx hb d_Crc_ofFirst_51 ?_
        exact hQ _ _ 52 _ ((cF t i) ^^^ (-1)) () d_Crc_ofFirst_52 rfl (by rw [hik]) (hP.sub [0, 1] rfl) (hD.sub [0, 1] (by decide) rfl) hS
      · skip
        refine lv_iload_n hx hb d_Crc_ofFirst_9 rfl (lv_at hl 2 rfl) ?_
        refine lv_aload_n hx hb d_Crc_ofFirst_10 rfl (lv_at hl 1 rfl) ?_
        refine lv_iload_n hx hb d_Crc_ofFirst_11 rfl (lv_at hl 3 rfl) ?_
        refine pc_i (wc := [(q, .inr (1, [.ref r, .int (nI n)])), (r, .inl (g.2.1, 32768, .inl (bA t)))]) (wr := []) (cells' := 0) (slots' := 0) hP hD hS hA [0, 1] [] rfl rfl (by decide) (by decide) rfl rfl (va_runVN (n := 1) (As := [.int (nI i)]) (rest := [.int (cF t i)]) (C := R_Bytes) ⟨hx, hb, hml, hown, hE.hts⟩ (c_Bytes_at l g q r n t i (by omega) _) ⟨pc_cn hE m_249 m_2 m_464 (by decide +kernel) ⟨by exact Nat.le_of_ble_eq_true rfl, by exact Nat.le_of_ble_eq_true rfl⟩, hE.w m_248, hE.w ms_6⟩ (pc_preV (ci := 1) (q0 := 0) hP hD hE hS hA [0, 1] (by decide) rfl [.int (nI i)] rfl rfl) rfl rfl hl.1 rfl (lv_room (by exact Nat.le_of_ble_eq_true rfl)) d_Crc_ofFirst_12 ⟨by exact Nat.le_of_ble_eq_true rfl, by exact Nat.le_of_ble_eq_true rfl⟩) (fun r_3 u_2 H locs hw hP hD hS => ?_)
        obtain rfl := hw
        have hP : va_P g.1 pc_cl [(q, .inr (1, [.ref r, .int (nI n)])), (r, .inl (g.2.1, 32768, .inl (bA t)))] H := hP
        have hD : va_D A [(q, .inr (1, [.ref r, .int (nI n)])), (r, .inl (g.2.1, 32768, .inl (bA t)))] := hD
        refine lv_ixor hx hb d_Crc_ofFirst_15 ?_
        refine lv_istore_n (lv' := [(2, .int ((cF t i) ^^^ (nI (bN t i)))), (0, .int (nI k)), (1, .ref q), (3, .int (nI i))]) hx hb d_Crc_ofFirst_16 rfl hl (by decide) rfl (fun ls hl => ?_)
        refine va_gets hx hb hZh hS hown (hE.w m_465) (fun _ h9 => h9) d_Crc_ofFirst_17 ?_
        refine lv_iload_n hx hb d_Crc_ofFirst_20 rfl (lv_at hl 0 rfl) ?_
        refine lv_bipush (v := nI 15) hx hb d_Crc_ofFirst_21 (by decide) ?_
        refine lv_iand hx hb d_Crc_ofFirst_23 ?_
        refine pc_ti (y := nI (((cF t i) ^^^ (nI (bN t i))).toBitVec.toNat % 2 ^ 4)) (pk_and _ 4 (by decide)) ?_
        refine va_ti (v := .int (pc_half.getD (((cF t i) ^^^ (nI (bN t i))).toBitVec.toNat % 2 ^ 4) 0)) hx hb hTh hS (vp_in_nI (by omega) (by omega)) (by rw [nI_clamp (by omega)]) d_Crc_ofFirst_24 ?_
        refine lv_iload_n hx hb d_Crc_ofFirst_25 rfl (lv_at hl 0 rfl) ?_
        refine lv_iconst (v := nI 4) hx hb d_Crc_ofFirst_26 (by decide) ?_
        refine lv_iushr (v := (((cF t i) ^^^ (nI (bN t i))).toUInt32 >>> ((nI 4).toUInt32 &&& Int32.toUInt32 31)).toInt32) hx hb d_Crc_ofFirst_27 rfl ?_
        refine lv_ixor hx hb d_Crc_ofFirst_28 ?_
        refine pc_ti (y := hfS (cF t i ^^^ nI (bN t i))) (rfl) ?_
        refine lv_istore_n (lv' := [(2, .int (hfS (cF t i ^^^ nI (bN t i)))), (0, .int (nI k)), (1, .ref q), (3, .int (nI i))]) hx hb d_Crc_ofFirst_29 rfl hl (by decide) rfl (fun ls hl => ?_)
        refine va_gets hx hb hZh hS hown (hE.w m_465) (fun _ h9 => h9) d_Crc_ofFirst_30 ?_
        refine lv_iload_n hx hb d_Crc_ofFirst_33 rfl (lv_at hl 0 rfl) ?_
        refine lv_bipush (v := nI 15) hx hb d_Crc_ofFirst_34 (by decide) ?_
        refine lv_iand hx hb d_Crc_ofFirst_36 ?_
        refine pc_ti (y := nI ((hfS (cF t i ^^^ nI (bN t i))).toBitVec.toNat % 2 ^ 4)) (pk_and _ 4 (by decide)) ?_
        refine va_ti (v := .int (pc_half.getD ((hfS (cF t i ^^^ nI (bN t i))).toBitVec.toNat % 2 ^ 4) 0)) hx hb hTh hS (vp_in_nI (by omega) (by omega)) (by rw [nI_clamp (by omega)]) d_Crc_ofFirst_37 ?_
        refine lv_iload_n hx hb d_Crc_ofFirst_38 rfl (lv_at hl 0 rfl) ?_
        refine lv_iconst (v := nI 4) hx hb d_Crc_ofFirst_39 (by decide) ?_
        refine lv_iushr (v := ((hfS (cF t i ^^^ nI (bN t i))).toUInt32 >>> ((nI 4).toUInt32 &&& Int32.toUInt32 31)).toInt32) hx hb d_Crc_ofFirst_40 rfl ?_
        refine lv_ixor hx hb d_Crc_ofFirst_41 ?_
        refine pc_ti (y := cF t (i + 1)) (rfl) ?_
        refine lv_istore_n (lv' := [(2, .int (cF t (i + 1))), (0, .int (nI k)), (1, .ref q), (3, .int (nI i))]) hx hb d_Crc_ofFirst_42 rfl hl (by decide) rfl (fun ls hl => ?_)
        refine lv_iinc (v := nI (i + 1)) (lv' := [(3, .int (nI (i + 1))), (2, .int (cF t (i + 1))), (0, .int (nI k)), (1, .ref q)]) hx hb d_Crc_ofFirst_43 hl (k := 3) rfl (pc_inc i 1) (by decide) rfl (fun ls hl => ?_)
        refine lv_goto (tgt := 4) hx hb d_Crc_ofFirst_46 (by decide) ?_
        exact ih_4 (i + 1) (by omega) (by omega) _ _ (hP.sub [0, 1] rfl) (hD.sub [0, 1] (by decide) rfl) hS _ (lv_sub hl [2, 3, 1, 0] rfl)
  exact lp_4 (k - 0 + 1) 0 (by omega) (Nat.lt_succ_self _) _ _ (hP.sub [0, 1] rfl) (hD.sub [0, 1] (by decide) rfl) hS _ (lv_sub hl [2, 3, 1, 0] rfl)
