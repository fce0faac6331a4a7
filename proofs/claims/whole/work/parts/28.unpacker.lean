abbrev rm_Unpacker_writePlain : Room := { frames := 3, cells := 0, slots := 0, locals := 85 }
set_option maxHeartbeats 1000000 in
set_option maxRecDepth 100000 in
/-- a plain piece -/
theorem c_Unpacker_writePlain (l : Launch) (g : pc_G) (o : Nat) (p0 : Nat) (q : Nat) (r : Nat) (n : Nat) (t : Nat → UInt8) (q2 : Nat) (r2 : Nat) (n2 : Nat) (t2 : Nat → UInt8) (k : Nat) (hp : p0 ≤ n) (hn : n ≤ 32768) (hk : n2 + k ≤ 32768) : pc_Ci (S := Nat × Nat × (Nat → UInt8)) l y_Unpacker_writePlain prog_7_method_4_code 3 .boolean rm_Unpacker_writePlain g [(o, .inr (4, [.ref q, .int (nI p0)])), (q, .inr (1, [.ref r, .int (nI n)])), (r, .inl (g.2.1, 32768, .inl (bA t))), (q2, .inr (1, [.ref r2, .int (nI n2)])), (r2, .inl (g.2.1, 32768, .inl (bA t2)))] [.ref o, .ref q2, .int (nI k)] (fun rv u => stepRes (plStep (bl t n) p0 (bl t2 n2) k) rv u.1 u.2.1 u.2.2 n) (fun u => [(o, .inr (4, [.ref q, .int (nI u.1)])), (q, .inr (1, [.ref r, .int (nI n)])), (r, .inl (g.2.1, 32768, .inl (bA t))), (q2, .inr (1, [.ref r2, .int (nI u.2.1)])), (r2, .inl (g.2.1, 32768, .inl (bA u.2.2)))]) := by
  refine pc_Ci.of (by decide) (by exact Nat.le_of_ble_eq_true rfl) ?_
  intro p e s m below meth c A Q hx hb hml hown hE hA hQ hP hD ls hl
  have hS : va_S A s.heap s.heap [] := va_S.rf
  have hl : lv_has ls 3 [(0, .ref o), (1, .ref q2), (2, .int (nI k))] := hl
  refine lv_iload_n hx hb d_Unpacker_writePlain_0 rfl (lv_at hl 2 rfl) ?_
  refine lv_iconst (v := nI 1) hx hb d_Unpacker_writePlain_1 (by decide) ?_
  refine pc_jlt (tgt := 13) hx hb d_Unpacker_writePlain_2 (by decide) (by omega) (by omega) (fun h_1 => ?_) (fun h_1 => ?_)
  · skip
    refine lv_iconst (v := nI 0) hx hb d_Unpacker_writePlain_13 (by decide) ?_
    exact hQ _ _ 14 _ (nI 0) (p0, n2, t2) d_Unpacker_writePlain_14 rfl (Or.inr ⟨rfl, by unfold plStep; rw [if_pos (by rw [bl_len]; omega)], show p0 ≤ n by omega, show n2 ≤ 32768 by omega⟩) (hP.sub [0, 1, 2, 3, 4] rfl) (hD.sub [0, 1, 2, 3, 4] (by decide) rfl) hS
  · skip
    refine lv_iload_n hx hb d_Unpacker_writePlain_5 rfl (lv_at hl 2 rfl) ?_
    refine lv_aload_n hx hb d_Unpacker_writePlain_6 rfl (lv_at hl 0 rfl) ?_
    refine pc_i (wc := [(o, .inr (4, [.ref q, .int (nI p0)])), (q, .inr (1, [.ref r, .int (nI n)])), (r, .inl (g.2.1, 32768, .inl (bA t)))]) (wr := [(q2, .inr (1, [.ref r2, .int (nI n2)])), (r2, .inl (g.2.1, 32768, .inl (bA t2)))]) (cells' := 0) (slots' := 0) hP hD hS hA [0, 1, 2] [3, 4] rfl rfl (by decide) (by decide) rfl rfl (va_runVN (n := 0) (As := []) (rest := [.int (nI k)]) (C := R_Reader) ⟨hx, hb, hml, hown, hE.hts⟩ (c_Reader_left l g o p0 q r n t (by omega) (by omega) _) ⟨pc_cn hE m_313 m_15 m_322 (by decide +kernel) ⟨by exact Nat.le_of_ble_eq_true rfl, by exact Nat.le_of_ble_eq_true rfl⟩, hE.w m_312, hE.w ms_14⟩ (pc_preV (ci := 4) (q0 := 0) hP hD hE hS hA [0, 1, 2] (by decide) rfl [] rfl rfl) rfl rfl hl.1 rfl (lv_room (by exact Nat.le_of_ble_eq_true rfl)) d_Unpacker_writePlain_7 ⟨by exact Nat.le_of_ble_eq_true rfl, by exact Nat.le_of_ble_eq_true rfl⟩) (fun r_3 u_2 H locs hw hP hD hS => ?_)
    obtain rfl := hw
    have hP : va_P g.1 pc_cl [(q2, .inr (1, [.ref r2, .int (nI n2)])), (r2, .inl (g.2.1, 32768, .inl (bA t2))), (o, .inr (4, [.ref q, .int (nI p0)])), (q, .inr (1, [.ref r, .int (nI n)])), (r, .inl (g.2.1, 32768, .inl (bA t)))] H := hP
    have hD : va_D A [(q2, .inr (1, [.ref r2, .int (nI n2)])), (r2, .inl (g.2.1, 32768, .inl (bA t2))), (o, .inr (4, [.ref q, .int (nI p0)])), (q, .inr (1, [.ref r, .int (nI n)])), (r, .inl (g.2.1, 32768, .inl (bA t)))] := hD
    refine pc_jle (tgt := 15) hx hb d_Unpacker_writePlain_10 (by decide) (by omega) (by omega) (fun h_4 => ?_) (fun h_4 => ?_)
    · skip
      refine lv_aload_n hx hb d_Unpacker_writePlain_15 rfl (lv_at hl 0 rfl) ?_
      refine lv_iload_n hx hb d_Unpacker_writePlain_16 rfl (lv_at hl 2 rfl) ?_
      refine lv_aload_n hx hb d_Unpacker_writePlain_17 rfl (lv_at hl 1 rfl) ?_
      refine pc_v (wc := [(o, .inr (4, [.ref q, .int (nI p0)])), (q, .inr (1, [.ref r, .int (nI n)])), (r, .inl (g.2.1, 32768, .inl (bA t))), (q2, .inr (1, [.ref r2, .int (nI n2)])), (r2, .inl (g.2.1, 32768, .inl (bA t2)))]) (wr := []) (cells' := 0) (slots' := 0) hP hD hS hA [2, 3, 4, 0, 1] [] rfl rfl (by decide) (by decide) rfl rfl (va_runVN (n := 2) (As := [.int (nI k), .ref q2]) (rest := []) (C := R_Reader) ⟨hx, hb, hml, hown, hE.hts⟩ (c_Reader_takeRun l g o p0 q r n t q2 r2 n2 t2 k (by omega) (by omega) (by omega) _) ⟨pc_cn hE m_326 m_15 m_323 (by decide +kernel) ⟨by exact Nat.le_of_ble_eq_true rfl, by exact Nat.le_of_ble_eq_true rfl⟩, hE.w m_325, hE.w ms_15⟩ (pc_preV (ci := 4) (q0 := 2) hP hD hE hS hA [2, 3, 4, 0, 1] (by decide) rfl [.int (nI k), .ref q2] rfl rfl) rfl rfl hl.1 rfl (lv_room (by exact Nat.le_of_ble_eq_true rfl)) d_Unpacker_writePlain_18 ⟨by exact Nat.le_of_ble_eq_true rfl, by exact Nat.le_of_ble_eq_true rfl⟩) (fun u_5 H locs hw hP hD hS => ?_)
      have hP : va_P g.1 pc_cl [(o, .inr (4, [.ref q, .int (nI (p0 + k))])), (q, .inr (1, [.ref r, .int (nI n)])), (r, .inl (g.2.1, 32768, .inl (bA t))), (q2, .inr (1, [.ref r2, .int (nI (n2 + k))])), (r2, .inl (g.2.1, 32768, .inl (bA (va_cpy t t2 p0 n2 k))))] H := hP
      have hD : va_D A [(o, .inr (4, [.ref q, .int (nI (p0 + k))])), (q, .inr (1, [.ref r, .int (nI n)])), (r, .inl (g.2.1, 32768, .inl (bA t))), (q2, .inr (1, [.ref r2, .int (nI (n2 + k))])), (r2, .inl (g.2.1, 32768, .inl (bA (va_cpy t t2 p0 n2 k))))] := hD
      refine lv_iconst (v := nI 1) hx hb d_Unpacker_writePlain_21 (by decide) ?_
      exact hQ _ _ 22 _ (nI 1) (p0 + k, n2 + k, va_cpy t t2 p0 n2 k) d_Unpacker_writePlain_22 rfl (Or.inl ⟨rfl, by unfold plStep; rw [if_neg (by rw [bl_len]; omega), bl_cpy (n := n) (by omega)], show p0 + k ≤ n by omega, show n2 + k ≤ 32768 by omega⟩) (hP.sub [0, 1, 2, 3, 4] rfl) (hD.sub [0, 1, 2, 3, 4] (by decide) rfl) hS
    · skip
      refine lv_iconst (v := nI 0) hx hb d_Unpacker_writePlain_13 (by decide) ?_
      exact hQ _ _ 14 _ (nI 0) (p0, n2, t2) d_Unpacker_writePlain_14 rfl (Or.inr ⟨rfl, by unfold plStep; rw [if_pos (by rw [bl_len]; omega)], show p0 ≤ n by omega, show n2 ≤ 32768 by omega⟩) (hP.sub [2, 3, 4, 0, 1] rfl) (hD.sub [2, 3, 4, 0, 1] (by decide) rfl) hS
abbrev rm_Unpacker_writePointed : Room := { frames := 3, cells := 0, slots := 0, locals := 65 }
set_option maxHeartbeats 1000000 in
set_option maxRecDepth 100000 in
/-- a pointed piece -/
theorem c_Unpacker_writePointed (l : Launch) (g : pc_G) (o : Nat) (p0 : Nat) (q : Nat) (r : Nat) (n : Nat) (t : Nat → UInt8) (q2 : Nat) (r2 : Nat) (n2 : Nat) (t2 : Nat → UInt8) (k : Nat) (hp : p0 ≤ n) (hn : n ≤ 32768) (hk : n2 + k ≤ 32768) : pc_Ci (S := Nat × Nat × (Nat → UInt8)) l y_Unpacker_writePointed prog_7_method_5_code 4 .boolean rm_Unpacker_writePointed g [(o, .inr (4, [.ref q, .int (nI p0)])), (q, .inr (1, [.ref r, .int (nI n)])), (r, .inl (g.2.1, 32768, .inl (bA t))), (q2, .inr (1, [.ref r2, .int (nI n2)])), (r2, .inl (g.2.1, 32768, .inl (bA t2)))] [.ref o, .ref q2, .int (nI k)] (fun rv u => stepRes (poStep (bl t n) p0 (bl t2 n2) k) rv u.1 u.2.1 u.2.2 n) (fun u => [(o, .inr (4, [.ref q, .int (nI u.1)])), (q, .inr (1, [.ref r, .int (nI n)])), (r, .inl (g.2.1, 32768, .inl (bA t))), (q2, .inr (1, [.ref r2, .int (nI u.2.1)])), (r2, .inl (g.2.1, 32768, .inl (bA u.2.2)))]) := by
  refine pc_Ci.of (by decide) (by exact Nat.le_of_ble_eq_true rfl) ?_
  intro p e s m below meth c A Q hx hb hml hown hE hA hQ hP hD ls hl
  have hS : va_S A s.heap s.heap [] := va_S.rf
  have hl : lv_has ls 4 [(0, .ref o), (1, .ref q2), (2, .int (nI k))] := hl
  refine lv_aload_n hx hb d_Unpacker_writePointed_0 rfl (lv_at hl 0 rfl) ?_
  refine pc_i (wc := [(o, .inr (4, [.ref q, .int (nI p0)])), (q, .inr (1, [.ref r, .int (nI n)])), (r, .inl (g.2.1, 32768, .inl (bA t)))]) (wr := [(q2, .inr (1, [.ref r2, .int (nI n2)])), (r2, .inl (g.2.1, 32768, .inl (bA t2)))]) (cells' := 0) (slots' := 0) hP hD hS hA [0, 1, 2] [3, 4] rfl rfl (by decide) (by decide) rfl rfl (va_runVN (n := 0) (As := []) (rest := []) (C := R_Reader) ⟨hx, hb, hml, hown, hE.hts⟩ (c_Reader_takeVarint l g o p0 q r n t (by omega) (by omega) _) ⟨pc_cn hE m_305 m_15 m_302 (by decide +kernel) ⟨by exact Nat.le_of_ble_eq_true rfl, by exact Nat.le_of_ble_eq_true rfl⟩, hE.w m_304, hE.w ms_12⟩ (pc_preV (ci := 4) (q0 := 0) hP hD hE hS hA [0, 1, 2] (by decide) rfl [] rfl rfl) rfl rfl hl.1 rfl (lv_room (by exact Nat.le_of_ble_eq_true rfl)) d_Unpacker_writePointed_1 ⟨by exact Nat.le_of_ble_eq_true rfl, by exact Nat.le_of_ble_eq_true rfl⟩) (fun r_2 u_1 H locs hw hP hD hS => ?_)
  obtain ⟨w, rfl⟩ : ∃ z, z = u_1 := ⟨_, rfl⟩
  have hw_3 := hw
  have hw_3 : rdRes (readV (bl t n) p0) r_2 w n := hw_3
  have hP : va_P g.1 pc_cl [(q2, .inr (1, [.ref r2, .int (nI n2)])), (r2, .inl (g.2.1, 32768, .inl (bA t2))), (o, .inr (4, [.ref q, .int (nI w)])), (q, .inr (1, [.ref r, .int (nI n)])), (r, .inl (g.2.1, 32768, .inl (bA t)))] H := hP
  have hD : va_D A [(q2, .inr (1, [.ref r2, .int (nI n2)])), (r2, .inl (g.2.1, 32768, .inl (bA t2))), (o, .inr (4, [.ref q, .int (nI w)])), (q, .inr (1, [.ref r, .int (nI n)])), (r, .inl (g.2.1, 32768, .inl (bA t)))] := hD
  rcases hw_3 with ⟨hno, rfl, hp2⟩ | ⟨v, hyes, rfl, hv31, hp2⟩
  · skip
    refine lv_istore_n (lv' := [(3, .int (-1)), (0, .ref o), (1, .ref q2), (2, .int (nI k))]) hx hb d_Unpacker_writePointed_4 rfl hl (by decide) rfl (fun ls hl => ?_)
    refine lv_iload_n hx hb d_Unpacker_writePointed_5 rfl (lv_at hl 3 rfl) ?_
    refine lv_iconst (v := nI 4) hx hb d_Unpacker_writePointed_6 (by decide) ?_
    refine pc_jlt (tgt := 23) hx hb d_Unpacker_writePointed_7 (by decide) (by omega) (by omega) (fun h_4 => ?_) (fun h_4 => ?_)
    · skip
      refine lv_iconst (v := nI 0) hx hb d_Unpacker_writePointed_23 (by decide) ?_
      exact hQ _ _ 24 _ (nI 0) (w, n2, t2) d_Unpacker_writePointed_24 rfl (Or.inr ⟨rfl, by unfold poStep; rw [hno], show w ≤ n by omega, show n2 ≤ 32768 by omega⟩) (hP.sub [2, 3, 4, 0, 1] rfl) (hD.sub [2, 3, 4, 0, 1] (by decide) rfl) hS
    · skip
      refine lv_iload_n hx hb d_Unpacker_writePointed_10 rfl (lv_at hl 0 rfl) ?_
      refine lv_iconst (v := nI 1) hx hb d_Unpacker_writePointed_11 (by decide) ?_
      refine lv_icmp_lt (tgt := 23) hx hb d_Unpacker_writePointed_12 (by decide) (fun h_d => ?_) (fun h_d => absurd h_d (fun k9 => k9 (by decide)))
      refine lv_iconst (v := nI 0) hx hb d_Unpacker_writePointed_23 (by decide) ?_
      exact hQ _ _ 24 _ (nI 0) (w, n2, t2) d_Unpacker_writePointed_24 rfl (Or.inr ⟨rfl, by unfold poStep; rw [hno], show w ≤ n by omega, show n2 ≤ 32768 by omega⟩) (hP.sub [2, 3, 4, 0, 1] rfl) (hD.sub [2, 3, 4, 0, 1] (by decide) rfl) hS
  · skip
    have hin := readV_in hyes
    rw [bl_len] at hin
    refine lv_istore_n (lv' := [(3, .int (nI v)), (0, .ref o), (1, .ref q2), (2, .int (nI k))]) hx hb d_Unpacker_writePointed_4 rfl hl (by decide) rfl (fun ls hl => ?_)
    refine lv_iload_n hx hb d_Unpacker_writePointed_5 rfl (lv_at hl 3 rfl) ?_
    refine lv_iconst (v := nI 4) hx hb d_Unpacker_writePointed_6 (by decide) ?_
    refine pc_jlt (tgt := 23) hx hb d_Unpacker_writePointed_7 (by decide) (by omega) (by omega) (fun h_5 => ?_) (fun h_5 => ?_)
    · skip
      refine lv_iconst (v := nI 0) hx hb d_Unpacker_writePointed_23 (by decide) ?_
      exact hQ _ _ 24 _ (nI 0) (w, n2, t2) d_Unpacker_writePointed_24 rfl (Or.inr ⟨rfl, by unfold poStep; rw [hyes]; show (if _ then _ else _) = _; rw [if_pos (by rw [bl_len]; omega)], show w ≤ n by omega, show n2 ≤ 32768 by omega⟩) (hP.sub [2, 3, 4, 0, 1] rfl) (hD.sub [2, 3, 4, 0, 1] (by decide) rfl) hS
    · skip
      refine lv_iload_n hx hb d_Unpacker_writePointed_10 rfl (lv_at hl 0 rfl) ?_
      refine lv_iconst (v := nI 1) hx hb d_Unpacker_writePointed_11 (by decide) ?_
      refine pc_jlt (tgt := 23) hx hb d_Unpacker_writePointed_12 (by decide) (by omega) (by omega) (fun h_6 => ?_) (fun h_6 => ?_)
      · skip
        refine lv_iconst (v := nI 0) hx hb d_Unpacker_writePointed_23 (by decide) ?_
        exact hQ _ _ 24 _ (nI 0) (w, n2, t2) d_Unpacker_writePointed_24 rfl (Or.inr ⟨rfl, by unfold poStep; rw [hyes]; show (if _ then _ else _) = _; rw [if_pos (by rw [bl_len]; omega)], show w ≤ n by omega, show n2 ≤ 32768 by omega⟩) (hP.sub [2, 3, 4, 0, 1] rfl) (hD.sub [2, 3, 4, 0, 1] (by decide) rfl) hS
      · skip
        refine lv_iload_n hx hb d_Unpacker_writePointed_15 rfl (lv_at hl 0 rfl) ?_
        refine lv_aload_n hx hb d_Unpacker_writePointed_16 rfl (lv_at hl 2 rfl) ?_
        refine va_getN (ci := 1) (C := R_Bytes) (T := F_Bytes) (N := 2) hx hb hE.hts in_Bytes hown hE.2.1 hP 0 rfl rfl 1 (by decide) (hE.w m_37) (fun _ h9 => h9) rfl d_Unpacker_writePointed_17 ?_
        refine pc_jle (tgt := 25) hx hb d_Unpacker_writePointed_20 (by decide) (by omega) (by omega) (fun h_7 => ?_) (fun h_7 => ?_)
        · skip
          refine lv_aload_n hx hb d_Unpacker_writePointed_25 rfl (lv_at hl 2 rfl) ?_
          refine lv_iload_n hx hb d_Unpacker_writePointed_26 rfl (lv_at hl 0 rfl) ?_
          refine lv_iload_n hx hb d_Unpacker_writePointed_27 rfl (lv_at hl 3 rfl) ?_
          refine pc_v (wc := [(q2, .inr (1, [.ref r2, .int (nI n2)])), (r2, .inl (g.2.1, 32768, .inl (bA t2)))]) (wr := [(o, .inr (4, [.ref q, .int (nI w)])), (q, .inr (1, [.ref r, .int (nI n)])), (r, .inl (g.2.1, 32768, .inl (bA t)))]) (cells' := 0) (slots' := 0) hP hD hS hA [0, 1] [2, 3, 4] rfl rfl (by decide) (by decide) rfl rfl (va_runVN (n := 2) (As := [.int (nI v), .int (nI k)]) (rest := []) (C := R_Bytes) ⟨hx, hb, hml, hown, hE.hts⟩ (c_Bytes_addFromBack l g q2 r2 n2 t2 v k (by omega) (by omega) (by omega) _) ⟨pc_cn hE m_334 m_2 m_331 (by decide +kernel) ⟨by exact Nat.le_of_ble_eq_true rfl, by exact Nat.le_of_ble_eq_true rfl⟩, hE.w m_333, hE.w ms_16⟩ (pc_preV (ci := 1) (q0 := 0) hP hD hE hS hA [0, 1] (by decide) rfl [.int (nI v), .int (nI k)] rfl rfl) rfl rfl hl.1 rfl (lv_room (by exact Nat.le_of_ble_eq_true rfl)) d_Unpacker_writePointed_28 ⟨by exact Nat.le_of_ble_eq_true rfl, by exact Nat.le_of_ble_eq_true rfl⟩) (fun u_8 H locs hw hP hD hS => ?_)
          obtain ⟨v3, rfl⟩ : ∃ z, z = u_8 := ⟨_, rfl⟩
          have hbk := hw
          have hbk : bl v3 (n2 + k) = backL v k (bl t2 n2) := hbk
          have hP : va_P g.1 pc_cl [(o, .inr (4, [.ref q, .int (nI w)])), (q, .inr (1, [.ref r, .int (nI n)])), (r, .inl (g.2.1, 32768, .inl (bA t))), (q2, .inr (1, [.ref r2, .int (nI (n2 + k))])), (r2, .inl (g.2.1, 32768, .inl (bA v3)))] H := hP
          have hD : va_D A [(o, .inr (4, [.ref q, .int (nI w)])), (q, .inr (1, [.ref r, .int (nI n)])), (r, .inl (g.2.1, 32768, .inl (bA t))), (q2, .inr (1, [.ref r2, .int (nI (n2 + k))])), (r2, .inl (g.2.1, 32768, .inl (bA v3)))] := hD
          refine lv_iconst (v := nI 1) hx hb d_Unpacker_writePointed_31 (by decide) ?_
          exact hQ _ _ 32 _ (nI 1) (w, n2 + k, v3) d_Unpacker_writePointed_32 rfl (Or.inl ⟨rfl, by unfold poStep; rw [hyes]; show (if _ then _ else _) = _; rw [if_neg (by rw [bl_len]; omega), hbk], show w ≤ n by omega, show n2 + k ≤ 32768 by omega⟩) (hP.sub [0, 1, 2, 3, 4] rfl) (hD.sub [0, 1, 2, 3, 4] (by decide) rfl) hS
        · skip
          refine lv_iconst (v := nI 0) hx hb d_Unpacker_writePointed_23 (by decide) ?_
          exact hQ _ _ 24 _ (nI 0) (w, n2, t2) d_Unpacker_writePointed_24 rfl (Or.inr ⟨rfl, by unfold poStep; rw [hyes]; show (if _ then _ else _) = _; rw [if_pos (by rw [bl_len]; omega)], show w ≤ n by omega, show n2 ≤ 32768 by omega⟩) (hP.sub [2, 3, 4, 0, 1] rfl) (hD.sub [2, 3, 4, 0, 1] (by decide) rfl) hS
abbrev rm_Unpacker_writePiece : Room := { frames := 4, cells := 0, slots := 0, locals := 107 }
set_option maxHeartbeats 1000000 in
set_option maxRecDepth 100000 in
/-- a piece -/
theorem c_Unpacker_writePiece (l : Launch) (g : pc_G) (o : Nat) (p0 : Nat) (q : Nat) (r : Nat) (n : Nat) (t : Nat → UInt8) (q2 : Nat) (r2 : Nat) (n2 : Nat) (t2 : Nat → UInt8) (k : Nat) (hp : p0 ≤ n) (hn : n ≤ 32768) (hk : n2 + k ≤ 32768) : pc_Ci (S := Nat × Nat × (Nat → UInt8)) l y_Unpacker_writePiece prog_7_method_3_code 4 .boolean rm_Unpacker_writePiece g [(o, .inr (4, [.ref q, .int (nI p0)])), (q, .inr (1, [.ref r, .int (nI n)])), (r, .inl (g.2.1, 32768, .inl (bA t))), (q2, .inr (1, [.ref r2, .int (nI n2)])), (r2, .inl (g.2.1, 32768, .inl (bA t2)))] [.ref o, .ref q2, .int (nI k)] (fun rv u => stepRes (piStep (bl t n) p0 (bl t2 n2) k) rv u.1 u.2.1 u.2.2 n) (fun u => [(o, .inr (4, [.ref q, .int (nI u.1)])), (q, .inr (1, [.ref r, .int (nI n)])), (r, .inl (g.2.1, 32768, .inl (bA t))), (q2, .inr (1, [.ref r2, .int (nI u.2.1)])), (r2, .inl (g.2.1, 32768, .inl (bA u.2.2)))]) := by
  refine pc_Ci.of (by decide) (by exact Nat.le_of_ble_eq_true rfl) ?_
  intro p e s m below meth c A Q hx hb hml hown hE hA hQ hP hD ls hl
  have hS : va_S A s.heap s.heap [] := va_S.rf
  have hl : lv_has ls 4 [(0, .ref o), (1, .ref q2), (2, .int (nI k))] := hl
  refine lv_aload_n hx hb d_Unpacker_writePiece_0 rfl (lv_at hl 0 rfl) ?_
  refine pc_i (wc := [(o, .inr (4, [.ref q, .int (nI p0)])), (q, .inr (1, [.ref r, .int (nI n)])), (r, .inl (g.2.1, 32768, .inl (bA t)))]) (wr := [(q2, .inr (1, [.ref r2, .int (nI n2)])), (r2, .inl (g.2.1, 32768, .inl (bA t2)))]) (cells' := 0) (slots' := 0) hP hD hS hA [0, 1, 2] [3, 4] rfl rfl (by decide) (by decide) rfl rfl (va_runVN (n := 0) (As := []) (rest := []) (C := R_Reader) ⟨hx, hb, hml, hown, hE.hts⟩ (c_Reader_takeVarint l g o p0 q r n t (by omega) (by omega) _) ⟨pc_cn hE m_305 m_15 m_302 (by decide +kernel) ⟨by exact Nat.le_of_ble_eq_true rfl, by exact Nat.le_of_ble_eq_true rfl⟩, hE.w m_304, hE.w ms_12⟩ (pc_preV (ci := 4) (q0 := 0) hP hD hE hS hA [0, 1, 2] (by decide) rfl [] rfl rfl) rfl rfl hl.1 rfl (lv_room (by exact Nat.le_of_ble_eq_true rfl)) d_Unpacker_writePiece_1 ⟨by exact Nat.le_of_ble_eq_true rfl, by exact Nat.le_of_ble_eq_true rfl⟩) (fun r_2 u_1 H locs hw hP hD hS => ?_)
  obtain ⟨w, rfl⟩ : ∃ z, z = u_1 := ⟨_, rfl⟩
  have hw_3 := hw
  have hw_3 : rdRes (readV (bl t n) p0) r_2 w n := hw_3
  have hP : va_P g.1 pc_cl [(q2, .inr (1, [.ref r2, .int (nI n2)])), (r2, .inl (g.2.1, 32768, .inl (bA t2))), (o, .inr (4, [.ref q, .int (nI w)])), (q, .inr (1, [.ref r, .int (nI n)])), (r, .inl (g.2.1, 32768, .inl (bA t)))] H := hP
  have hD : va_D A [(q2, .inr (1, [.ref r2, .int (nI n2)])), (r2, .inl (g.2.1, 32768, .inl (bA t2))), (o, .inr (4, [.ref q, .int (nI w)])), (q, .inr (1, [.ref r, .int (nI n)])), (r, .inl (g.2.1, 32768, .inl (bA t)))] := hD
  rcases hw_3 with ⟨hno, rfl, hp2⟩ | ⟨v, hyes, rfl, hv31, hp2⟩
  · skip
    refine lv_istore_n (lv' := [(3, .int (-1)), (0, .ref o), (1, .ref q2), (2, .int (nI k))]) hx hb d_Unpacker_writePiece_4 rfl hl (by decide) rfl (fun ls hl => ?_)
    refine lv_iload_n hx hb d_Unpacker_writePiece_5 rfl (lv_at hl 0 rfl) ?_
    refine lv_iconst (v := (-1)) hx hb d_Unpacker_writePiece_6 (by decide) ?_
    refine lv_icmp_eq (tgt := 17) hx hb d_Unpacker_writePiece_7 (by decide) (fun h_d => ?_) (fun h_d => absurd h_d (fun k9 => k9 rfl))
    refine lv_iconst (v := nI 0) hx hb d_Unpacker_writePiece_17 (by decide) ?_
    exact hQ _ _ 18 _ (nI 0) (w, n2, t2) d_Unpacker_writePiece_18 rfl (Or.inr ⟨rfl, by unfold piStep; rw [hno], show w ≤ n by omega, show n2 ≤ 32768 by omega⟩) (hP.sub [2, 3, 4, 0, 1] rfl) (hD.sub [2, 3, 4, 0, 1] (by decide) rfl) hS
  · skip
    have hin := readV_in hyes
    rw [bl_len] at hin
    refine lv_istore_n (lv' := [(3, .int (nI v)), (0, .ref o), (1, .ref q2), (2, .int (nI k))]) hx hb d_Unpacker_writePiece_4 rfl hl (by decide) rfl (fun ls hl => ?_)
    refine lv_iload_n hx hb d_Unpacker_writePiece_5 rfl (lv_at hl 0 rfl) ?_
    refine lv_iconst (v := (-1)) hx hb d_Unpacker_writePiece_6 (by decide) ?_
    refine lv_icmp_eq (tgt := 17) hx hb d_Unpacker_writePiece_7 (by decide) (fun h_d => absurd h_d (pc_nm1 (by omega))) (fun h_d => ?_)
    refine lv_iload_n hx hb d_Unpacker_writePiece_10 rfl (lv_at hl 0 rfl) ?_
    refine lv_iconst (v := nI 2) hx hb d_Unpacker_writePiece_11 (by decide) ?_
    refine lv_idiv hx hb d_Unpacker_writePiece_12 (by decide) ?_
    refine pc_ti (y := nI (v / 2)) (pk_div (by omega) (by omega) (by omega)) ?_
    refine lv_iload_n hx hb d_Unpacker_writePiece_13 rfl (lv_at hl 3 rfl) ?_
    refine pc_jle (tgt := 19) hx hb d_Unpacker_writePiece_14 (by decide) (by omega) (by omega) (fun h_4 => ?_) (fun h_4 => ?_)
    · skip
      refine lv_iload_n hx hb d_Unpacker_writePiece_19 rfl (lv_at hl 0 rfl) ?_
      refine lv_iconst (v := nI 2) hx hb d_Unpacker_writePiece_20 (by decide) ?_
      refine lv_irem hx hb d_Unpacker_writePiece_21 (by decide) ?_
      refine pc_ti (y := nI (v % 2)) (pk_rem (by omega) (by omega) (by omega)) ?_
      refine pc_zne (tgt := 36) hx hb d_Unpacker_writePiece_22 (by decide) (by omega) (fun h_5 => ?_) (fun h_5 => ?_)
      · skip
        refine lv_aload_n hx hb d_Unpacker_writePiece_36 rfl (lv_at hl 1 rfl) ?_
        refine lv_aload_n hx hb d_Unpacker_writePiece_37 rfl (lv_at hl 2 rfl) ?_
        refine lv_iload_n hx hb d_Unpacker_writePiece_38 rfl (lv_at hl 0 rfl) ?_
        refine lv_iconst (v := nI 2) hx hb d_Unpacker_writePiece_39 (by decide) ?_
        refine lv_idiv hx hb d_Unpacker_writePiece_40 (by decide) ?_
        refine pc_ti (y := nI (v / 2)) (pk_div (by omega) (by omega) (by omega)) ?_
        refine pc_i (wc := [(o, .inr (4, [.ref q, .int (nI w)])), (q, .inr (1, [.ref r, .int (nI n)])), (r, .inl (g.2.1, 32768, .inl (bA t))), (q2, .inr (1, [.ref r2, .int (nI n2)])), (r2, .inl (g.2.1, 32768, .inl (bA t2)))]) (wr := []) (cells' := 0) (slots' := 0) hP hD hS hA [2, 3, 4, 0, 1] [] rfl rfl (by decide) (by decide) rfl rfl (va_runS (n := 3) (As := [.ref o, .ref q2, .int (nI (v / 2))]) (rest := []) ⟨hx, hb, hml, hown, hE.hts⟩ (c_Unpacker_writePointed l g o w q r n t q2 r2 n2 t2 (v / 2) (by omega) (by omega) (by omega) _) ⟨pc_cb hE m_330 m_16 m_328 (by decide +kernel) ⟨by exact Nat.le_of_ble_eq_true rfl, by exact Nat.le_of_ble_eq_true rfl⟩, hE.w m_329⟩ (pc_pre hP hD hE hS hA [2, 3, 4, 0, 1] (by decide) rfl [.ref o, .ref q2, .int (nI (v / 2))]) rfl rfl hl.1 rfl (lv_room (by exact Nat.le_of_ble_eq_true rfl)) d_Unpacker_writePiece_41 ⟨by exact Nat.le_of_ble_eq_true rfl, by exact Nat.le_of_ble_eq_true rfl⟩) (fun r_7 u_6 H locs hw hP hD hS => ?_)
        obtain ⟨p2_8, n3_9, t3_10⟩ := u_6
        have hw_11 := hw
        have hw_11 : stepRes (poStep (bl t n) w (bl t2 n2) (v / 2)) r_7 p2_8 n3_9 t3_10 n := hw_11
        have hP : va_P g.1 pc_cl [(o, .inr (4, [.ref q, .int (nI p2_8)])), (q, .inr (1, [.ref r, .int (nI n)])), (r, .inl (g.2.1, 32768, .inl (bA t))), (q2, .inr (1, [.ref r2, .int (nI n3_9)])), (r2, .inl (g.2.1, 32768, .inl (bA t3_10)))] H := hP
        have hD : va_D A [(o, .inr (4, [.ref q, .int (nI p2_8)])), (q, .inr (1, [.ref r, .int (nI n)])), (r, .inl (g.2.1, 32768, .inl (bA t))), (q2, .inr (1, [.ref r2, .int (nI n3_9)])), (r2, .inl (g.2.1, 32768, .inl (bA t3_10)))] := hD
        have hsn : narrow .boolean (.int r_7) = .int r_7 := by rcases hw_11 with ⟨e9, -⟩ | ⟨e9, -⟩ <;> rw [e9] <;> rfl
        have hsr := hw_11
        exact hQ _ _ 44 _ r_7 (p2_8, n3_9, t3_10) d_Unpacker_writePiece_44 hsn (by unfold piStep; rw [hyes]; show stepRes (if _ then _ else _) _ _ _ _ _; rw [if_neg (by omega), if_neg (by omega)]; exact hsr) (hP.sub [0, 1, 2, 3, 4] rfl) (hD.sub [0, 1, 2, 3, 4] (by decide) rfl) hS
      · skip
        refine lv_aload_n hx hb d_Unpacker_writePiece_25 rfl (lv_at hl 1 rfl) ?_
        refine lv_aload_n hx hb d_Unpacker_writePiece_26 rfl (lv_at hl 2 rfl) ?_
        refine lv_iload_n hx hb d_Unpacker_writePiece_27 rfl (lv_at hl 0 rfl) ?_
        refine lv_iconst (v := nI 2) hx hb d_Unpacker_writePiece_28 (by decide) ?_
        refine lv_idiv hx hb d_Unpacker_writePiece_29 (by decide) ?_
        refine pc_ti (y := nI (v / 2)) (pk_div (by omega) (by omega) (by omega)) ?_
        refine pc_i (wc := [(o, .inr (4, [.ref q, .int (nI w)])), (q, .inr (1, [.ref r, .int (nI n)])), (r, .inl (g.2.1, 32768, .inl (bA t))), (q2, .inr (1, [.ref r2, .int (nI n2)])), (r2, .inl (g.2.1, 32768, .inl (bA t2)))]) (wr := []) (cells' := 0) (slots' := 0) hP hD hS hA [2, 3, 4, 0, 1] [] rfl rfl (by decide) (by decide) rfl rfl (va_runS (n := 3) (As := [.ref o, .ref q2, .int (nI (v / 2))]) (rest := []) ⟨hx, hb, hml, hown, hE.hts⟩ (c_Unpacker_writePlain l g o w q r n t q2 r2 n2 t2 (v / 2) (by omega) (by omega) (by omega) _) ⟨pc_cb hE m_321 m_16 m_319 (by decide +kernel) ⟨by exact Nat.le_of_ble_eq_true rfl, by exact Nat.le_of_ble_eq_true rfl⟩, hE.w m_320⟩ (pc_pre hP hD hE hS hA [2, 3, 4, 0, 1] (by decide) rfl [.ref o, .ref q2, .int (nI (v / 2))]) rfl rfl hl.1 rfl (lv_room (by exact Nat.le_of_ble_eq_true rfl)) d_Unpacker_writePiece_30 ⟨by exact Nat.le_of_ble_eq_true rfl, by exact Nat.le_of_ble_eq_true rfl⟩) (fun r_13 u_12 H locs hw hP hD hS => ?_)
        obtain ⟨p2_14, n3_15, t3_16⟩ := u_12
        have hw_17 := hw
        have hw_17 : stepRes (plStep (bl t n) w (bl t2 n2) (v / 2)) r_13 p2_14 n3_15 t3_16 n := hw_17
        have hP : va_P g.1 pc_cl [(o, .inr (4, [.ref q, .int (nI p2_14)])), (q, .inr (1, [.ref r, .int (nI n)])), (r, .inl (g.2.1, 32768, .inl (bA t))), (q2, .inr (1, [.ref r2, .int (nI n3_15)])), (r2, .inl (g.2.1, 32768, .inl (bA t3_16)))] H := hP
        have hD : va_D A [(o, .inr (4, [.ref q, .int (nI p2_14)])), (q, .inr (1, [.ref r, .int (nI n)])), (r, .inl (g.2.1, 32768, .inl (bA t))), (q2, .inr (1, [.ref r2, .int (nI n3_15)])), (r2, .inl (g.2.1, 32768, .inl (bA t3_16)))] := hD
        have hsn : narrow .boolean (.int r_13) = .int r_13 := by rcases hw_17 with ⟨e9, -⟩ | ⟨e9, -⟩ <;> rw [e9] <;> rfl
        have hsr := hw_17
        refine lv_goto (tgt := 44) hx hb d_Unpacker_writePiece_33 (by decide) ?_
        exact hQ _ _ 44 _ r_13 (p2_14, n3_15, t3_16) d_Unpacker_writePiece_44 hsn (by unfold piStep; rw [hyes]; show stepRes (if _ then _ else _) _ _ _ _ _; rw [if_neg (by omega), if_pos (by omega)]; exact hsr) (hP.sub [0, 1, 2, 3, 4] rfl) (hD.sub [0, 1, 2, 3, 4] (by decide) rfl) hS
    · skip
      refine lv_iconst (v := nI 0) hx hb d_Unpacker_writePiece_17 (by decide) ?_
      exact hQ _ _ 18 _ (nI 0) (w, n2, t2) d_Unpacker_writePiece_18 rfl (Or.inr ⟨rfl, by unfold piStep; rw [hyes]; show (if _ then _ else _) = _; rw [if_pos (by omega)], show w ≤ n by omega, show n2 ≤ 32768 by omega⟩) (hP.sub [2, 3, 4, 0, 1] rfl) (hD.sub [2, 3, 4, 0, 1] (by decide) rfl) hS
abbrev rm_Unpacker_write : Room := { frames := 5, cells := 0, slots := 0, locals := 130 }
set_option maxHeartbeats 1000000 in
set_option maxRecDepth 100000 in
/-- packed bytes taken apart -/
theorem c_Unpacker_write (l : Launch) (g : pc_G) (o : Nat) (p0 : Nat) (q : Nat) (r : Nat) (n : Nat) (t : Nat → UInt8) (q2 : Nat) (r2 : Nat) (n2 : Int32) (t2 : Nat → UInt8) (hp : p0 ≤ n) (hn : n ≤ 32768) : pc_Ci (S := Nat × Nat × (Nat → UInt8)) l y_Unpacker_write prog_7_method_2_code 4 .boolean rm_Unpacker_write g [(o, .inr (4, [.ref q, .int (nI p0)])), (q, .inr (1, [.ref r, .int (nI n)])), (r, .inl (g.2.1, 32768, .inl (bA t))), (q2, .inr (1, [.ref r2, .int n2])), (r2, .inl (g.2.1, 32768, .inl (bA t2)))] [.ref o, .ref q2] (fun rv u => ((rv = 1 ∧ unP (bl t n) p0 = some (bl u.2.2 u.2.1) ∧ u.2.1 ≤ 32768) ∨ (rv = 0 ∧ unP (bl t n) p0 = none))) (fun u => [(o, .inr (4, [.ref q, .int (nI u.1)])), (q, .inr (1, [.ref r, .int (nI n)])), (r, .inl (g.2.1, 32768, .inl (bA t))), (q2, .inr (1, [.ref r2, .int (nI u.2.1)])), (r2, .inl (g.2.1, 32768, .inl (bA u.2.2)))]) := by
  refine pc_Ci.of (by decide) (by exact Nat.le_of_ble_eq_true rfl) ?_
  intro p e s m below meth c A Q hx hb hml hown hE hA hQ hP hD ls hl
  have hS : va_S A s.heap s.heap [] := va_S.rf
  have hl : lv_has ls 4 [(0, .ref o), (1, .ref q2)] := hl
  refine lv_aload_n hx hb d_Unpacker_write_0 rfl (lv_at hl 1 rfl) ?_
  refine lv_iconst (v := nI 0) hx hb d_Unpacker_write_1 (by decide) ?_
  refine va_putN (ci := 1) (ty := .int) (C := R_Bytes) (T := F_Bytes) (N := 2) hx hb hE.hts in_Bytes t_Bytes tk_Bytes nn_Bytes hown hE.2.1 hP hD hS 3 rfl rfl 1 (by decide) (hE.w m_37) (fun _ h9 => h9) rfl (by decide +kernel) (by rfl) (by rfl) (by exact Nat.le_of_ble_eq_true rfl) d_Unpacker_write_2 (fun H locs hP hD hS => ?_)
  have hP : va_P g.1 pc_cl [(o, .inr (4, [.ref q, .int (nI p0)])), (q, .inr (1, [.ref r, .int (nI n)])), (r, .inl (g.2.1, 32768, .inl (bA t))), (q2, .inr (1, [.ref r2, .int (nI 0)])), (r2, .inl (g.2.1, 32768, .inl (bA t2)))] H := hP
  have hD : va_D A [(o, .inr (4, [.ref q, .int (nI p0)])), (q, .inr (1, [.ref r, .int (nI n)])), (r, .inl (g.2.1, 32768, .inl (bA t))), (q2, .inr (1, [.ref r2, .int (nI 0)])), (r2, .inl (g.2.1, 32768, .inl (bA t2)))] := hD
  refine lv_aload_n hx hb d_Unpacker_write_5 rfl (lv_at hl 0 rfl) ?_
  refine pc_i (wc := [(o, .inr (4, [.ref q, .int (nI p0)])), (q, .inr (1, [.ref r, .int (nI n)])), (r, .inl (g.2.1, 32768, .inl (bA t)))]) (wr := [(q2, .inr (1, [.ref r2, .int (nI 0)])), (r2, .inl (g.2.1, 32768, .inl (bA t2)))]) (cells' := 0) (slots' := 0) hP hD hS hA [0, 1, 2] [3, 4] rfl rfl (by decide) (by decide) rfl rfl (va_runVN (n := 0) (As := []) (rest := []) (C := R_Reader) ⟨hx, hb, hml, hown, hE.hts⟩ (c_Reader_takeVarint l g o p0 q r n t (by omega) (by omega) _) ⟨pc_cn hE m_305 m_15 m_302 (by decide +kernel) ⟨by exact Nat.le_of_ble_eq_true rfl, by exact Nat.le_of_ble_eq_true rfl⟩, hE.w m_304, hE.w ms_12⟩ (pc_preV (ci := 4) (q0 := 0) hP hD hE hS hA [0, 1, 2] (by decide) rfl [] rfl rfl) rfl rfl hl.1 rfl (lv_room (by exact Nat.le_of_ble_eq_true rfl)) d_Unpacker_write_6 ⟨by exact Nat.le_of_ble_eq_true rfl, by exact Nat.le_of_ble_eq_true rfl⟩) (fun r_2 u_1 H locs hw hP hD hS => ?_)
  obtain ⟨wp, rfl⟩ : ∃ z, z = u_1 := ⟨_, rfl⟩
  have hw_3 := hw
  have hw_3 : rdRes (readV (bl t n) p0) r_2 wp n := hw_3
  have hP : va_P g.1 pc_cl [(q2, .inr (1, [.ref r2, .int (nI 0)])), (r2, .inl (g.2.1, 32768, .inl (bA t2))), (o, .inr (4, [.ref q, .int (nI wp)])), (q, .inr (1, [.ref r, .int (nI n)])), (r, .inl (g.2.1, 32768, .inl (bA t)))] H := hP
  have hD : va_D A [(q2, .inr (1, [.ref r2, .int (nI 0)])), (r2, .inl (g.2.1, 32768, .inl (bA t2))), (o, .inr (4, [.ref q, .int (nI wp)])), (q, .inr (1, [.ref r, .int (nI n)])), (r, .inl (g.2.1, 32768, .inl (bA t)))] := hD
  rcases hw_3 with ⟨hno, rfl, hp2⟩ | ⟨v, hyes, rfl, hv31, hp2⟩
  · skip
    refine lv_istore_n (lv' := [(2, .int (-1)), (0, .ref o), (1, .ref q2)]) hx hb d_Unpacker_write_9 rfl hl (by decide) rfl (fun ls hl => ?_)
    refine lv_iload_n hx hb d_Unpacker_write_10 rfl (lv_at hl 0 rfl) ?_
    refine lv_iconst (v := (-1)) hx hb d_Unpacker_write_11 (by decide) ?_
    refine lv_icmp_eq (tgt := 21) hx hb d_Unpacker_write_12 (by decide) (fun h_d => ?_) (fun h_d => absurd h_d (fun k9 => k9 rfl))
    refine lv_iconst (v := nI 0) hx hb d_Unpacker_write_21 (by decide) ?_
    exact hQ _ _ 22 _ (nI 0) (wp, 0, t2) d_Unpacker_write_22 rfl (Or.inr ⟨rfl, by unfold unP; rw [hno]⟩) (hP.sub [2, 3, 4, 0, 1] rfl) (hD.sub [2, 3, 4, 0, 1] (by decide) rfl) hS
  · skip
    have hin := readV_in hyes
    rw [bl_len] at hin
    refine lv_istore_n (lv' := [(2, .int (nI v)), (0, .ref o), (1, .ref q2)]) hx hb d_Unpacker_write_9 rfl hl (by decide) rfl (fun ls hl => ?_)
    refine lv_iload_n hx hb d_Unpacker_write_10 rfl (lv_at hl 0 rfl) ?_
    refine lv_iconst (v := (-1)) hx hb d_Unpacker_write_11 (by decide) ?_
    refine lv_icmp_eq (tgt := 21) hx hb d_Unpacker_write_12 (by decide) (fun h_d => absurd h_d (pc_nm1 (by omega))) (fun h_d => ?_)
    refine lv_iload_n hx hb d_Unpacker_write_15 rfl (lv_at hl 0 rfl) ?_
    refine lv_ldc hx hb hown (hE.w m_315) d_Unpacker_write_16 ?_
    refine pc_ti (y := nI 32768) (by decide) ?_
    refine pc_jle (tgt := 23) hx hb d_Unpacker_write_18 (by decide) (by omega) (by omega) (fun h_4 => ?_) (fun h_4 => ?_)
    · skip
      refine lv_iconst (v := nI 0) hx hb d_Unpacker_write_23 (by decide) ?_
      refine lv_istore_n (lv' := [(3, .int (nI 0)), (2, .int (nI v)), (0, .ref o), (1, .ref q2)]) hx hb d_Unpacker_write_24 rfl hl (by decide) rfl (fun ls hl => ?_)
      have lp_25 : ∀ (n9 : Nat) (k : Nat) (w : Nat) (w2 : Nat) (f : Nat → UInt8) (fu : Nat) (hwn : w ≤ n) (hkw : k ≤ w2) (hw2 : w2 ≤ v) (hfu : v - w2 < fu) (hf : unA (bl t n) v fu w (bl f w2) = unA (bl t n) v (v + 1) wp []) (hmu : v - w2 < n9) (H : Heap) (locs : List Loc) (hP : va_P g.1 pc_cl [(o, .inr (4, [.ref q, .int (nI w)])), (q, .inr (1, [.ref r, .int (nI n)])), (r, .inl (g.2.1, 32768, .inl (bA t))), (q2, .inr (1, [.ref r2, .int (nI w2)])), (r2, .inl (g.2.1, 32768, .inl (bA f)))] H) (hD : va_D A [(o, .inr (4, [.ref q, .int (nI w)])), (q, .inr (1, [.ref r, .int (nI n)])), (r, .inl (g.2.1, 32768, .inl (bA t))), (q2, .inr (1, [.ref r2, .int (nI w2)])), (r2, .inl (g.2.1, 32768, .inl (bA f)))]) (hS : va_S A s.heap H locs) (ls : Array Slot) (hl : lv_has ls 4 [(0, .ref o), (1, .ref q2), (2, .int (nI v)), (3, .int (nI k))]), W p l e rm_Unpacker_write s m ([.ref o, .ref q2] : List Value).toArray below meth c H locs 0 0 Q (F0 m 25 ls []) := by
        intro n9
        induction n9 with
        | zero => intros; omega
        | succ n9 ih_25 =>
          intro k w w2 f fu hwn hkw hw2 hfu hf hmu H locs hP hD hS ls hl
          refine lv_iload_n hx hb d_Unpacker_write_25 rfl (lv_at hl 3 rfl) ?_
          refine lv_ldc hx hb hown (hE.w m_315) d_Unpacker_write_26 ?_
          refine pc_ti (y := nI 32768) (by decide) ?_
          refine pc_jge (tgt := 61) hx hb d_Unpacker_write_28 (by decide) (by omega) (by omega) (fun h_5 => ?_) (fun h_5 => ?_)
          · skip
            refine lv_aload_n hx hb d_Unpacker_write_61 rfl (lv_at hl 1 rfl) ?_
            refine va_getN (ci := 1) (C := R_Bytes) (T := F_Bytes) (N := 2) hx hb hE.hts in_Bytes hown hE.2.1 hP 3 rfl rfl 1 (by decide) (hE.w m_37) (fun _ h9 => h9) rfl d_Unpacker_write_62 ?_
            refine lv_iload_n hx hb d_Unpacker_write_65 rfl (lv_at hl 2 rfl) ?_
            refine pc_jne (tgt := 80) hx hb d_Unpacker_write_66 (by decide) (by omega) (by omega) (fun h_6 => ?_) (fun h_6 => ?_)
            · skip
              exact absurd h_6 (by omega)
            · skip
              refine lv_aload_n hx hb d_Unpacker_write_69 rfl (lv_at hl 0 rfl) ?_
              refine pc_i (wc := [(o, .inr (4, [.ref q, .int (nI w)])), (q, .inr (1, [.ref r, .int (nI n)])), (r, .inl (g.2.1, 32768, .inl (bA t)))]) (wr := [(q2, .inr (1, [.ref r2, .int (nI w2)])), (r2, .inl (g.2.1, 32768, .inl (bA f)))]) (cells' := 0) (slots' := 0) hP hD hS hA [0, 1, 2] [3, 4] rfl rfl (by decide) (by decide) rfl rfl (va_runVN (n := 0) (As := []) (rest := []) (C := R_Reader) ⟨hx, hb, hml, hown, hE.hts⟩ (c_Reader_left l g o w q r n t (by omega) (by omega) _) ⟨pc_cn hE m_313 m_15 m_322 (by decide +kernel) ⟨by exact Nat.le_of_ble_eq_true rfl, by exact Nat.le_of_ble_eq_true rfl⟩, hE.w m_312, hE.w ms_14⟩ (pc_preV (ci := 4) (q0 := 0) hP hD hE hS hA [0, 1, 2] (by decide) rfl [] rfl rfl) rfl rfl hl.1 rfl (lv_room (by exact Nat.le_of_ble_eq_true rfl)) d_Unpacker_write_70 ⟨by exact Nat.le_of_ble_eq_true rfl, by exact Nat.le_of_ble_eq_true rfl⟩) (fun r_8 u_7 H locs hw hP hD hS => ?_)
              obtain rfl := hw
              have hP : va_P g.1 pc_cl [(q2, .inr (1, [.ref r2, .int (nI w2)])), (r2, .inl (g.2.1, 32768, .inl (bA f))), (o, .inr (4, [.ref q, .int (nI w)])), (q, .inr (1, [.ref r, .int (nI n)])), (r, .inl (g.2.1, 32768, .inl (bA t)))] H := hP
              have hD : va_D A [(q2, .inr (1, [.ref r2, .int (nI w2)])), (r2, .inl (g.2.1, 32768, .inl (bA f))), (o, .inr (4, [.ref q, .int (nI w)])), (q, .inr (1, [.ref r, .int (nI n)])), (r, .inl (g.2.1, 32768, .inl (bA t)))] := hD
              refine pc_zne (tgt := 80) hx hb d_Unpacker_write_73 (by decide) (by omega) (fun h_9 => ?_) (fun h_9 => ?_)
              · skip
                refine lv_iconst (v := nI 0) hx hb d_Unpacker_write_80 (by decide) ?_
                exact hQ _ _ 81 _ (nI 0) (w, w2, f) d_Unpacker_write_81 rfl (Or.inr ⟨rfl, by unfold unP; rw [hyes]; show (if _ then _ else _) = _; rw [if_neg (by omega), ← hf]; exact unA_over (by rw [bl_len]; omega) (by rw [bl_len]; omega)⟩) (hP.sub [2, 3, 4, 0, 1] rfl) (hD.sub [2, 3, 4, 0, 1] (by decide) rfl) hS
              · skip
                refine lv_iconst (v := nI 1) hx hb d_Unpacker_write_76 (by decide) ?_
                refine lv_goto (tgt := 81) hx hb d_Unpacker_write_77 (by decide) ?_
                exact hQ _ _ 81 _ (nI 1) (w, w2, f) d_Unpacker_write_81 rfl (Or.inl ⟨rfl, by unfold unP; rw [hyes]; show (if _ then _ else _) = _; rw [if_neg (by omega), ← hf]; exact unA_end (by omega) (by rw [bl_len]; omega) (by rw [bl_len]; omega), show w2 ≤ 32768 by omega⟩) (hP.sub [2, 3, 4, 0, 1] rfl) (hD.sub [2, 3, 4, 0, 1] (by decide) rfl) hS
          · skip
            refine lv_aload_n hx hb d_Unpacker_write_31 rfl (lv_at hl 1 rfl) ?_
            refine va_getN (ci := 1) (C := R_Bytes) (T := F_Bytes) (N := 2) hx hb hE.hts in_Bytes hown hE.2.1 hP 3 rfl rfl 1 (by decide) (hE.w m_37) (fun _ h9 => h9) rfl d_Unpacker_write_32 ?_
            refine lv_iload_n hx hb d_Unpacker_write_35 rfl (lv_at hl 2 rfl) ?_
            refine pc_jge (tgt := 61) hx hb d_Unpacker_write_36 (by decide) (by omega) (by omega) (fun h_10 => ?_) (fun h_10 => ?_)
            · skip
              refine lv_aload_n hx hb d_Unpacker_write_61 rfl (lv_at hl 1 rfl) ?_
              refine va_getN (ci := 1) (C := R_Bytes) (T := F_Bytes) (N := 2) hx hb hE.hts in_Bytes hown hE.2.1 hP 3 rfl rfl 1 (by decide) (hE.w m_37) (fun _ h9 => h9) rfl d_Unpacker_write_62 ?_
              refine lv_iload_n hx hb d_Unpacker_write_65 rfl (lv_at hl 2 rfl) ?_
              refine pc_jne (tgt := 80) hx hb d_Unpacker_write_66 (by decide) (by omega) (by omega) (fun h_11 => ?_) (fun h_11 => ?_)
              · skip
                exact absurd h_11 (by omega)
              · skip
                refine lv_aload_n hx hb d_Unpacker_write_69 rfl (lv_at hl 0 rfl) ?_
                refine pc_i (wc := [(o, .inr (4, [.ref q, .int (nI w)])), (q, .inr (1, [.ref r, .int (nI n)])), (r, .inl (g.2.1, 32768, .inl (bA t)))]) (wr := [(q2, .inr (1, [.ref r2, .int (nI w2)])), (r2, .inl (g.2.1, 32768, .inl (bA f)))]) (cells' := 0) (slots' := 0) hP hD hS hA [0, 1, 2] [3, 4] rfl rfl (by decide) (by decide) rfl rfl (va_runVN (n := 0) (As := []) (rest := []) (C := R_Reader) ⟨hx, hb, hml, hown, hE.hts⟩ (c_Reader_left l g o w q r n t (by omega) (by omega) _) ⟨pc_cn hE m_313 m_15 m_322 (by decide +kernel) ⟨by exact Nat.le_of_ble_eq_true rfl, by exact Nat.le_of_ble_eq_true rfl⟩, hE.w m_312, hE.w ms_14⟩ (pc_preV (ci := 4) (q0 := 0) hP hD hE hS hA [0, 1, 2] (by decide) rfl [] rfl rfl) rfl rfl hl.1 rfl (lv_room (by exact Nat.le_of_ble_eq_true rfl)) d_Unpacker_write_70 ⟨by exact Nat.le_of_ble_eq_true rfl, by exact Nat.le_of_ble_eq_true rfl⟩) (fun r_13 u_12 H locs hw hP hD hS => ?_)
                obtain rfl := hw
                have hP : va_P g.1 pc_cl [(q2, .inr (1, [.ref r2, .int (nI w2)])), (r2, .inl (g.2.1, 32768, .inl (bA f))), (o, .inr (4, [.ref q, .int (nI w)])), (q, .inr (1, [.ref r, .int (nI n)])), (r, .inl (g.2.1, 32768, .inl (bA t)))] H := hP
                have hD : va_D A [(q2, .inr (1, [.ref r2, .int (nI w2)])), (r2, .inl (g.2.1, 32768, .inl (bA f))), (o, .inr (4, [.ref q, .int (nI w)])), (q, .inr (1, [.ref r, .int (nI n)])), (r, .inl (g.2.1, 32768, .inl (bA t)))] := hD
                refine pc_zne (tgt := 80) hx hb d_Unpacker_write_73 (by decide) (by omega) (fun h_14 => ?_) (fun h_14 => ?_)
                · skip
                  refine lv_iconst (v := nI 0) hx hb d_Unpacker_write_80 (by decide) ?_
                  exact hQ _ _ 81 _ (nI 0) (w, w2, f) d_Unpacker_write_81 rfl (Or.inr ⟨rfl, by unfold unP; rw [hyes]; show (if _ then _ else _) = _; rw [if_neg (by omega), ← hf]; exact unA_over (by rw [bl_len]; omega) (by rw [bl_len]; omega)⟩) (hP.sub [2, 3, 4, 0, 1] rfl) (hD.sub [2, 3, 4, 0, 1] (by decide) rfl) hS
                · skip
                  refine lv_iconst (v := nI 1) hx hb d_Unpacker_write_76 (by decide) ?_
                  refine lv_goto (tgt := 81) hx hb d_Unpacker_write_77 (by decide) ?_
                  exact hQ _ _ 81 _ (nI 1) (w, w2, f) d_Unpacker_write_81 rfl (Or.inl ⟨rfl, by unfold unP; rw [hyes]; show (if _ then _ else _) = _; rw [if_neg (by omega), ← hf]; exact unA_end (by omega) (by rw [bl_len]; omega) (by rw [bl_len]; omega), show w2 ≤ 32768 by omega⟩) (hP.sub [2, 3, 4, 0, 1] rfl) (hD.sub [2, 3, 4, 0, 1] (by decide) rfl) hS
            · skip
              refine lv_aload_n hx hb d_Unpacker_write_39 rfl (lv_at hl 0 rfl) ?_
              refine lv_aload_n hx hb d_Unpacker_write_40 rfl (lv_at hl 1 rfl) ?_
              refine lv_iload_n hx hb d_Unpacker_write_41 rfl (lv_at hl 2 rfl) ?_
              refine lv_aload_n hx hb d_Unpacker_write_42 rfl (lv_at hl 1 rfl) ?_
              refine va_getN (ci := 1) (C := R_Bytes) (T := F_Bytes) (N := 2) hx hb hE.hts in_Bytes hown hE.2.1 hP 3 rfl rfl 1 (by decide) (hE.w m_37) (fun _ h9 => h9) rfl d_Unpacker_write_43 ?_
              refine lv_isub hx hb d_Unpacker_write_46 ?_
              refine pc_ti (y := nI (v - w2)) (pk_sub (by omega)) ?_
              refine pc_i (wc := [(o, .inr (4, [.ref q, .int (nI w)])), (q, .inr (1, [.ref r, .int (nI n)])), (r, .inl (g.2.1, 32768, .inl (bA t))), (q2, .inr (1, [.ref r2, .int (nI w2)])), (r2, .inl (g.2.1, 32768, .inl (bA f)))]) (wr := []) (cells' := 0) (slots' := 0) hP hD hS hA [0, 1, 2, 3, 4] [] rfl rfl (by decide) (by decide) rfl rfl (va_runS (n := 3) (As := [.ref o, .ref q2, .int (nI (v - w2))]) (rest := []) ⟨hx, hb, hml, hown, hE.hts⟩ (c_Unpacker_writePiece l g o w q r n t q2 r2 w2 f (v - w2) (by omega) (by omega) (by omega) _) ⟨pc_cb hE m_318 m_16 m_316 (by decide +kernel) ⟨by exact Nat.le_of_ble_eq_true rfl, by exact Nat.le_of_ble_eq_true rfl⟩, hE.w m_317⟩ (pc_pre hP hD hE hS hA [0, 1, 2, 3, 4] (by decide) rfl [.ref o, .ref q2, .int (nI (v - w2))]) rfl rfl hl.1 rfl (lv_room (by exact Nat.le_of_ble_eq_true rfl)) d_Unpacker_write_47 ⟨by exact Nat.le_of_ble_eq_true rfl, by exact Nat.le_of_ble_eq_true rfl⟩) (fun r_16 u_15 H locs hw hP hD hS => ?_)
              obtain ⟨p2_17, n3_18, t3_19⟩ := u_15
              have hw_20 := hw
              have hw_20 : stepRes (piStep (bl t n) w (bl f w2) (v - w2)) r_16 p2_17 n3_18 t3_19 n := hw_20
              have hP : va_P g.1 pc_cl [(o, .inr (4, [.ref q, .int (nI p2_17)])), (q, .inr (1, [.ref r, .int (nI n)])), (r, .inl (g.2.1, 32768, .inl (bA t))), (q2, .inr (1, [.ref r2, .int (nI n3_18)])), (r2, .inl (g.2.1, 32768, .inl (bA t3_19)))] H := hP
              have hD : va_D A [(o, .inr (4, [.ref q, .int (nI p2_17)])), (q, .inr (1, [.ref r, .int (nI n)])), (r, .inl (g.2.1, 32768, .inl (bA t))), (q2, .inr (1, [.ref r2, .int (nI n3_18)])), (r2, .inl (g.2.1, 32768, .inl (bA t3_19)))] := hD
              rcases hw_20 with ⟨rfl, hsyes, hp3, hn3⟩ | ⟨rfl, hsno, hp3, hn3⟩
              · skip
                refine pc_ti (y := nI 1) rfl ?_
                have hlen := piStep_len hsyes
                rw [bl_len, bl_len, bl_len] at hlen
                obtain ⟨fu9, rfl⟩ : ∃ z, fu = z + 1 := ⟨fu - 1, by omega⟩
                refine pc_zne (tgt := 55) hx hb d_Unpacker_write_50 (by decide) (by omega) (fun h_d => ?_) (fun h_d => absurd h_d (by decide))
                refine lv_iinc (v := nI (k + 1)) (lv' := [(3, .int (nI (k + 1))), (0, .ref o), (1, .ref q2), (2, .int (nI v))]) hx hb d_Unpacker_write_55 hl (k := 3) rfl (pc_inc k 1) (by decide) rfl (fun ls hl => ?_)
                refine lv_goto (tgt := 25) hx hb d_Unpacker_write_58 (by decide) ?_
                exact ih_25 (k + 1) p2_17 n3_18 t3_19 fu9 (by omega) (by omega) (by omega) (by omega) ((unA_more (o := bl f w2) (by rw [bl_len]; omega) (by rw [bl_len]; exact hsyes)).symm.trans hf) (by omega) _ _ (hP.sub [0, 1, 2, 3, 4] rfl) (hD.sub [0, 1, 2, 3, 4] (by decide) rfl) hS _ (lv_sub hl [1, 2, 3, 0] rfl)
              · skip
                refine pc_ti (y := nI 0) rfl ?_
                refine pc_zne (tgt := 55) hx hb d_Unpacker_write_50 (by decide) (by omega) (fun h_d => absurd h_d (fun k9 => k9 rfl)) (fun h_d => ?_)
                refine lv_iconst (v := nI 0) hx hb d_Unpacker_write_53 (by decide) ?_
                exact hQ _ _ 54 _ (nI 0) (p2_17, n3_18, t3_19) d_Unpacker_write_54 rfl (Or.inr ⟨rfl, by unfold unP; rw [hyes]; show (if _ then _ else _) = _; rw [if_neg (by omega), ← hf]; exact unA_bad (by rw [bl_len]; omega) (by rw [bl_len]; exact hsno)⟩) (hP.sub [0, 1, 2, 3, 4] rfl) (hD.sub [0, 1, 2, 3, 4] (by decide) rfl) hS
      exact lp_25 (v - 0 + 1) 0 wp 0 t2 (v + 1) (by omega) (by omega) (by omega) (by omega) (by rw [bl_0]) (Nat.lt_succ_self _) _ _ (hP.sub [2, 3, 4, 0, 1] rfl) (hD.sub [2, 3, 4, 0, 1] (by decide) rfl) hS _ (lv_sub hl [2, 3, 1, 0] rfl)
    · skip
      refine lv_iconst (v := nI 0) hx hb d_Unpacker_write_21 (by decide) ?_
      exact hQ _ _ 22 _ (nI 0) (wp, 0, t2) d_Unpacker_write_22 rfl (Or.inr ⟨rfl, by unfold unP; rw [hyes]; show (if _ then _ else _) = _; rw [if_pos (by omega)]⟩) (hP.sub [2, 3, 4, 0, 1] rfl) (hD.sub [2, 3, 4, 0, 1] (by decide) rfl) hS
