abbrev rm_Law_feed : Room := { frames := 7, cells := 1, slots := 6, locals := 106 }
set_option maxHeartbeats 1000000 in
set_option maxRecDepth 100000 in
/-- the law asks feed -/
theorem c_Law_feed (l : Launch) (htr : l.stackTraces = false) (g : pc_G) (x : Nat) (qt : Nat) (kp : Nat) (qo : Nat) (qs : Nat) (qc : Nat) (qn : Nat) (qi : Nat) (r : Nat) (n : Nat) (t : Nat → UInt8) (a : Nat) (b : Nat) (c2 : Nat) (d : Nat) (e2 : Nat) (hn : n ≤ 32768) (ha32 : a < 2 ^ 32) (hb32 : b < 2 ^ 32) (hc232 : c2 < 2 ^ 32) (hd32 : d < 2 ^ 32) (he232 : e2 < 2 ^ 32) : pc_X (S := Nat × (Nat → UInt8)) l y_Law_feed (.codeWith y_Law_feed method_3_code 7 (some .int) [(0, 11, 14, 13)]) (some .int) rm_Law_feed g [(x, .inr (0, [.ref qt, .ref kp, .ref qo, .ref qs, .ref qc, .ref qn, .ref qi])), (qt, .inr (1, [.ref r, .int (nI n)])), (r, .inl (g.2.1, 32768, .inl (bA t)))] [.ref x, .int (nI a), .int (nI b), .int (nI c2), .int (nI d), .int (nI e2)] (fun rv u => (rv = .inl (nI 0) ∧ n + 20 ≤ 32768 ∧ u.1 = n + 20 ∧ bl u.2 u.1 = bl t n ++ feedL a b c2 d e2) ∨ (rv = .inl (nI 1) ∧ 32768 < n + 20 ∧ u.1 = n ∧ u.2 = t)) (fun u => [(x, .inr (0, [.ref qt, .ref kp, .ref qo, .ref qs, .ref qc, .ref qn, .ref qi])), (qt, .inr (1, [.ref r, .int (nI u.1)])), (r, .inl (g.2.1, 32768, .inl (bA u.2)))]) := by
  refine pc_X.of (cc := method_3_code) (nL := 7) (rt := (some .int)) (hh := [(0, 11, 14, 13)]) (by decide) tx_wd.with (by exact Nat.le_of_ble_eq_true rfl) htr ?_
  intro p e s m below meth c A Q hx hb hml hown hE hA htab hR hT hO hP hD ls hl
  have hS : va_S A s.heap s.heap [] := va_S.rf
  have hl : lv_has ls 7 [(0, .ref x), (1, .int (nI a)), (2, .int (nI b)), (3, .int (nI c2)), (4, .int (nI d)), (5, .int (nI e2))] := hl
  refine lv_aload_n hx hb d_Law_feed_0 rfl (lv_at hl 0 rfl) ?_
  refine lv_iload_n hx hb d_Law_feed_1 rfl (lv_at hl 1 rfl) ?_
  refine lv_iload_n hx hb d_Law_feed_2 rfl (lv_at hl 2 rfl) ?_
  refine lv_iload_n hx hb d_Law_feed_3 rfl (lv_at hl 3 rfl) ?_
  refine lv_iload hx hb d_Law_feed_4 (lv_at hl 4 rfl) ?_
  refine lv_iload hx hb d_Law_feed_6 (lv_at hl 5 rfl) ?_
  refine pc_x (rt := none) (wc := [(x, .inr (0, [.ref qt, .ref kp, .ref qo, .ref qs, .ref qc, .ref qn, .ref qi])), (qt, .inr (1, [.ref r, .int (nI n)])), (r, .inl (g.2.1, 32768, .inl (bA t)))]) (wr := []) (cells' := 1) (slots' := 6) hP hD hS hA [0, 1, 2] [] rfl rfl (by decide) (by decide) rfl rfl (tx_runV (n := 5) (As := [.int (nI a), .int (nI b), .int (nI c2), .int (nI d), .int (nI e2)]) (rest := []) (C := R_Pk) hE hx hb hml hown (c_Pk_feed l htr g x qt kp qo qs qc qn qi r n t a b c2 d e2 hn ha32 hb32 hc232 hd32 he232 _) (fun U9 hW9 => tx_wd.plain.cd (hE.1.at hW9 m_113 #[])) m_113 m_1 m_110 m_111 m_112 (by decide +kernel) (pc_preV (ci := 0) (q0 := 0) hP hD hE hS hA [0, 1, 2] (by decide) rfl [.int (nI a), .int (nI b), .int (nI c2), .int (nI d), .int (nI e2)] rfl rfl) ⟨by exact Nat.le_of_ble_eq_true rfl, by exact Nat.le_of_ble_eq_true rfl⟩ rfl rfl hl.1 rfl (lv_room (by exact Nat.le_of_ble_eq_true rfl)) d_Law_feed_8 ⟨by exact Nat.le_of_ble_eq_true rfl, by exact Nat.le_of_ble_eq_true rfl⟩) (fun r_2 u_1 H locs hw hP hD hS => ?_)
  obtain ⟨n2_3, t2_4⟩ := u_1
  have hP : va_P g.1 pc_cl [(x, .inr (0, [.ref qt, .ref kp, .ref qo, .ref qs, .ref qc, .ref qn, .ref qi])), (qt, .inr (1, [.ref r, .int (nI n2_3)])), (r, .inl (g.2.1, 32768, .inl (bA t2_4)))] H := hP
  have hD : va_D A [(x, .inr (0, [.ref qt, .ref kp, .ref qo, .ref qs, .ref qc, .ref qn, .ref qi])), (qt, .inr (1, [.ref r, .int (nI n2_3)])), (r, .inl (g.2.1, 32768, .inl (bA t2_4)))] := hD
  rcases hw with ⟨rfl, hw_5, hw_6, hw_7⟩ | ⟨rfl, hw_8, hw_9, hw_10⟩
  · skip
    have hw_5 : n + 20 ≤ 32768 := hw_5
    have hw_6 : n2_3 = n + 20 := hw_6
    have hw_7 : bl t2_4 n2_3 = bl t n ++ feedL a b c2 d e2 := hw_7
    refine tx_onV ?_
    refine lv_goto (tgt := 18) hx hb d_Law_feed_11 (by decide) ?_
    refine lv_iconst (v := nI 0) hx hb d_Law_feed_18 (by decide) ?_
    exact hR _ _ 19 _ (nI 0) (n2_3, t2_4) d_Law_feed_19 rfl (Or.inl (⟨rfl, hw_5, hw_6, hw_7⟩)) (hP.sub [0, 1, 2] rfl) (hD.sub [0, 1, 2] (by decide) rfl) hS
  · skip
    have hw_8 : 32768 < n + 20 := hw_8
    have hw_9 : n2_3 = n := hw_9
    have hw_10 : t2_4 = t := hw_10
    refine tx_onX (fun q_11 ce hq1 hq2 hq3 => ?_)
    refine tx_catch (name := "java/lang/IllegalStateException") (E := "java/lang/IllegalStateException") hE hown [] ⟨0, 11, 14, 13⟩ [] htab (fun z hz => nomatch hz) (by decide) (by decide) m_109 m_120 hq1 hq2 hq3 ?_
    refine W.eq (g2 := F0 m 14 ls [.ref q_11]) rfl ?_
    refine lv_astore (lv' := [(6, .ref q_11), (0, .ref x), (1, .int (nI a)), (2, .int (nI b)), (3, .int (nI c2)), (4, .int (nI d)), (5, .int (nI e2))]) hx hb d_Law_feed_14 hl (by decide) rfl (fun ls hl => ?_)
    refine lv_iconst (v := nI 1) hx hb d_Law_feed_16 (by decide) ?_
    exact hR _ _ 17 _ (nI 1) (n2_3, t2_4) d_Law_feed_17 rfl (Or.inr (⟨rfl, hw_8, hw_9, hw_10⟩)) (hP.sub [0, 1, 2] rfl) (hD.sub [0, 1, 2] (by decide) rfl) hS
abbrev rm_Law_end : Room := { frames := 7, cells := 1, slots := 6, locals := 103 }
set_option maxHeartbeats 1000000 in
set_option maxRecDepth 100000 in
/-- the law asks end -/
theorem c_Law_end (l : Launch) (htr : l.stackTraces = false) (g : pc_G) (x : Nat) (qt : Nat) (kp : Nat) (qo : Nat) (qs : Nat) (qc : Nat) (qn : Nat) (qi : Nat) (r : Nat) (n : Nat) (t : Nat → UInt8) (k : Int32) (ol : Nat) (lo : Nat → Int64) (hn : n ≤ 32768) : pc_X (S := Nat × (Nat → Int64)) l y_Law_end (.codeWith y_Law_end method_4_code 4 (some .int) [(0, 9, 12, 19)]) (some .int) rm_Law_end g [(x, .inr (0, [.ref qt, .ref kp, .ref qo, .ref qs, .ref qc, .ref qn, .ref qi])), (qt, .inr (1, [.ref r, .int (nI n)])), (r, .inl (g.2.1, 32768, .inl (bA t))), (ol, .inl (g.2.2.2, 1, .inr (.inl lo)))] [.ref x, .int k, .ref ol] (fun rv u => (rv = .inl (nI 0) ∧ ¬ k < 0 ∧ iN k ≤ n ∧ u.1 = iN k ∧ u.2 0 = (nI (n - iN k)).toInt64) ∨ (rv = .inl (nI 1) ∧ (k < 0 ∨ n < iN k) ∧ u.1 = n ∧ u.2 = lo)) (fun u => [(x, .inr (0, [.ref qt, .ref kp, .ref qo, .ref qs, .ref qc, .ref qn, .ref qi])), (qt, .inr (1, [.ref r, .int (nI u.1)])), (r, .inl (g.2.1, 32768, .inl (bA t))), (ol, .inl (g.2.2.2, 1, .inr (.inl u.2)))]) := by
  refine pc_X.of (cc := method_4_code) (nL := 4) (rt := (some .int)) (hh := [(0, 9, 12, 19)]) (by decide) tx_wd.with (by exact Nat.le_of_ble_eq_true rfl) htr ?_
  intro p e s m below meth c A Q hx hb hml hown hE hA htab hR hT hO hP hD ls hl
  have hS : va_S A s.heap s.heap [] := va_S.rf
  have hl : lv_has ls 4 [(0, .ref x), (1, .int k), (2, .ref ol)] := hl
  refine lv_aload_n hx hb d_Law_end_0 rfl (lv_at hl 2 rfl) ?_
  refine lv_iconst (v := nI 0) hx hb d_Law_end_1 (by decide) ?_
  refine lv_aload_n hx hb d_Law_end_2 rfl (lv_at hl 0 rfl) ?_
  refine lv_iload_n hx hb d_Law_end_3 rfl (lv_at hl 1 rfl) ?_
  refine pc_x (rt := (some .int)) (wc := [(x, .inr (0, [.ref qt, .ref kp, .ref qo, .ref qs, .ref qc, .ref qn, .ref qi])), (qt, .inr (1, [.ref r, .int (nI n)])), (r, .inl (g.2.1, 32768, .inl (bA t)))]) (wr := [(ol, .inl (g.2.2.2, 1, .inr (.inl lo)))]) (cells' := 1) (slots' := 6) hP hD hS hA [0, 1, 2] [3] rfl rfl (by decide) (by decide) rfl rfl (tx_runV (n := 1) (As := [.int k]) (rest := [.int (nI 0), .ref ol]) (C := R_Pk) hE hx hb hml hown (c_Pk_end l htr g x qt kp qo qs qc qn qi r n t k hn _) (fun U9 hW9 => tx_wd.plain.cd (hE.1.at hW9 m_196 #[])) m_196 m_1 m_193 m_194 m_195 (by decide +kernel) (pc_preV (ci := 0) (q0 := 0) hP hD hE hS hA [0, 1, 2] (by decide) rfl [.int k] rfl rfl) ⟨by exact Nat.le_of_ble_eq_true rfl, by exact Nat.le_of_ble_eq_true rfl⟩ rfl rfl hl.1 rfl (lv_room (by exact Nat.le_of_ble_eq_true rfl)) d_Law_end_4 ⟨by exact Nat.le_of_ble_eq_true rfl, by exact Nat.le_of_ble_eq_true rfl⟩) (fun r_2 u_1 H locs hw hP hD hS => ?_)
  obtain ⟨n2_3, rfl⟩ : ∃ z, z = u_1 := ⟨_, rfl⟩
  have hP : va_P g.1 pc_cl [(ol, .inl (g.2.2.2, 1, .inr (.inl lo))), (x, .inr (0, [.ref qt, .ref kp, .ref qo, .ref qs, .ref qc, .ref qn, .ref qi])), (qt, .inr (1, [.ref r, .int (nI n2_3)])), (r, .inl (g.2.1, 32768, .inl (bA t)))] H := hP
  have hD : va_D A [(ol, .inl (g.2.2.2, 1, .inr (.inl lo))), (x, .inr (0, [.ref qt, .ref kp, .ref qo, .ref qs, .ref qc, .ref qn, .ref qi])), (qt, .inr (1, [.ref r, .int (nI n2_3)])), (r, .inl (g.2.1, 32768, .inl (bA t)))] := hD
  rcases hw with ⟨rfl, hw_4, hw_5, hw_6⟩ | ⟨rfl, hw_7, hw_8⟩
  · skip
    have hw_4 : ¬ k < 0 := hw_4
    have hw_5 : iN k ≤ n := hw_5
    have hw_6 : n2_3 = iN k := hw_6
    refine tx_onI ?_
    refine lv_i2l (v := (nI (n - iN k)).toInt64) hx hb d_Law_end_7 rfl ?_
    refine pc_lsto hx hb hE.2.1 hP hD hS 0 2 rfl rfl (by omega) (by omega) d_Law_end_8 (fun H locs hP hD hS => ?_)
    have hP : va_P g.1 pc_cl [(ol, .inl (g.2.2.2, 1, .inr (.inl (vp_updL lo 0 ((nI (n - iN k)).toInt64))))), (x, .inr (0, [.ref qt, .ref kp, .ref qo, .ref qs, .ref qc, .ref qn, .ref qi])), (qt, .inr (1, [.ref r, .int (nI n2_3)])), (r, .inl (g.2.1, 32768, .inl (bA t)))] H := hP
    have hD : va_D A [(ol, .inl (g.2.2.2, 1, .inr (.inl (vp_updL lo 0 ((nI (n - iN k)).toInt64))))), (x, .inr (0, [.ref qt, .ref kp, .ref qo, .ref qs, .ref qc, .ref qn, .ref qi])), (qt, .inr (1, [.ref r, .int (nI n2_3)])), (r, .inl (g.2.1, 32768, .inl (bA t)))] := hD
    refine lv_goto (tgt := 15) hx hb d_Law_end_9 (by decide) ?_
    refine lv_iconst (v := nI 0) hx hb d_Law_end_15 (by decide) ?_
    exact hR _ _ 16 _ (nI 0) (n2_3, vp_updL lo 0 ((nI (n - iN k)).toInt64)) d_Law_end_16 rfl (Or.inl (⟨rfl, hw_4, hw_5, hw_6, updL_0 lo _⟩)) (hP.sub [1, 2, 3, 0] rfl) (hD.sub [1, 2, 3, 0] (by decide) rfl) hS
  · skip
    have hw_7 : k < 0 ∨ n < iN k := hw_7
    have hw_8 : n2_3 = n := hw_8
    refine tx_onX (fun q_9 ce hq1 hq2 hq3 => ?_)
    refine tx_catch (name := "java/lang/IllegalArgumentException") (E := "java/lang/IllegalArgumentException") hE hown [] ⟨0, 9, 12, 19⟩ [] htab (fun z hz => nomatch hz) (by decide) (by decide) m_192 m_199 hq1 hq2 hq3 ?_
    refine W.eq (g2 := F0 m 12 ls [.ref q_9]) rfl ?_
    refine lv_astore_n (lv' := [(3, .ref q_9), (0, .ref x), (1, .int k), (2, .ref ol)]) hx hb d_Law_end_12 rfl hl (by decide) rfl (fun ls hl => ?_)
    refine lv_iconst (v := nI 1) hx hb d_Law_end_13 (by decide) ?_
    exact hR _ _ 14 _ (nI 1) (n2_3, lo) d_Law_end_14 rfl (Or.inr (⟨rfl, hw_7, hw_8, rfl⟩)) (hP.sub [1, 2, 3, 0] rfl) (hD.sub [1, 2, 3, 0] (by decide) rfl) hS
abbrev rm_Law_pack : Room := { frames := 7, cells := 1, slots := 6, locals := 132 }
set_option maxHeartbeats 1000000 in
set_option maxRecDepth 100000 in
/-- the law asks pack -/
theorem c_Law_pack (l : Launch) (htr : l.stackTraces = false) (g : pc_G) (x : Nat) (qt : Nat) (kp : Nat) (qo : Nat) (qs : Nat) (qc : Nat) (qn : Nat) (qi : Nat) (ra : Nat) (rb : Nat) (bc : Int32) (bd : Int32) (fa : Nat → Int32) (fb : Nat → Int32) (r : Nat) (n : Nat) (t : Nat → UInt8) (rs : Nat) (ns : Int32) (ts : Nat → UInt8) (ol : Nat) (lo : Nat → Int64) (hn : n ≤ 32768) : pc_X (S := Int32 × Int32 × (Nat → Int32) × (Nat → Int32) × Nat × Nat × (Nat → UInt8) × Nat × Nat × (Nat → Int64)) l y_Law_pack (.codeWith y_Law_pack method_5_code 3 (some .int) [(0, 8, 11, 13)]) (some .int) rm_Law_pack g [(x, .inr (0, [.ref qt, .ref kp, .ref qo, .ref qs, .ref qc, .ref qn, .ref qi])), (kp, .inr (3, [.ref ra, .ref rb, .int bc, .int bd])), (ra, .inl (g.2.2.1, 4096, .inl fa)), (rb, .inl (g.2.2.1, 4096, .inl fb)), (qt, .inr (1, [.ref r, .int (nI n)])), (r, .inl (g.2.1, 32768, .inl (bA t))), (qs, .inr (1, [.ref rs, .int ns])), (rs, .inl (g.2.1, 32768, .inl (bA ts))), (ol, .inl (g.2.2.2, 1, .inr (.inl lo)))] [.ref x, .ref ol] (fun rv u => (rv = .inl (nI 0) ∧ bl u.2.2.2.2.2.2.1 u.2.2.2.2.2.1 = packL (bl t n) ∧ u.2.2.2.2.2.1 ≤ 32768 ∧ u.2.2.2.2.1 = 0 ∧ u.2.2.2.2.2.2.2.1 = qs ∧ u.2.2.2.2.2.2.2.2.1 = qo ∧ u.2.2.2.2.2.2.2.2.2 0 = (nI u.2.2.2.2.2.1).toInt64) ∨ (rv = .inl (nI 1) ∧ 32768 < (packL (bl t n)).length ∧ u.2.2.2.2.1 = n ∧ u.2.2.2.2.2.2.2.1 = qo ∧ u.2.2.2.2.2.2.2.2.1 = qs ∧ u.2.2.2.2.2.2.2.2.2 = lo)) (fun u => [(x, .inr (0, [.ref qt, .ref kp, .ref u.2.2.2.2.2.2.2.1, .ref u.2.2.2.2.2.2.2.2.1, .ref qc, .ref qn, .ref qi])), (kp, .inr (3, [.ref ra, .ref rb, .int u.1, .int u.2.1])), (ra, .inl (g.2.2.1, 4096, .inl u.2.2.1)), (rb, .inl (g.2.2.1, 4096, .inl u.2.2.2.1)), (qt, .inr (1, [.ref r, .int (nI u.2.2.2.2.1)])), (r, .inl (g.2.1, 32768, .inl (bA t))), (qs, .inr (1, [.ref rs, .int (nI u.2.2.2.2.2.1)])), (rs, .inl (g.2.1, 32768, .inl (bA u.2.2.2.2.2.2.1))), (ol, .inl (g.2.2.2, 1, .inr (.inl u.2.2.2.2.2.2.2.2.2)))]) := by
  refine pc_X.of (cc := method_5_code) (nL := 3) (rt := (some .int)) (hh := [(0, 8, 11, 13)]) (by decide) tx_wd.with (by exact Nat.le_of_ble_eq_true rfl) htr ?_
  intro p e s m below meth c A Q hx hb hml hown hE hA htab hR hT hO hP hD ls hl
  have hS : va_S A s.heap s.heap [] := va_S.rf
  have hl : lv_has ls 3 [(0, .ref x), (1, .ref ol)] := hl
  refine lv_aload_n hx hb d_Law_pack_0 rfl (lv_at hl 1 rfl) ?_
  refine lv_iconst (v := nI 0) hx hb d_Law_pack_1 (by decide) ?_
  refine lv_aload_n hx hb d_Law_pack_2 rfl (lv_at hl 0 rfl) ?_
  refine pc_x (rt := (some .int)) (wc := [(x, .inr (0, [.ref qt, .ref kp, .ref qo, .ref qs, .ref qc, .ref qn, .ref qi])), (kp, .inr (3, [.ref ra, .ref rb, .int bc, .int bd])), (ra, .inl (g.2.2.1, 4096, .inl fa)), (rb, .inl (g.2.2.1, 4096, .inl fb)), (qt, .inr (1, [.ref r, .int (nI n)])), (r, .inl (g.2.1, 32768, .inl (bA t))), (qs, .inr (1, [.ref rs, .int ns])), (rs, .inl (g.2.1, 32768, .inl (bA ts)))]) (wr := [(ol, .inl (g.2.2.2, 1, .inr (.inl lo)))]) (cells' := 1) (slots' := 6) hP hD hS hA [0, 1, 2, 3, 4, 5, 6, 7] [8] rfl rfl (by decide) (by decide) rfl rfl (tx_runV (n := 0) (As := []) (rest := [.int (nI 0), .ref ol]) (C := R_Pk) hE hx hb hml hown (c_Pk_pack l htr g x qt kp qo qs qc qn qi ra rb bc bd fa fb r n t rs ns ts hn _) (fun U9 hW9 => tx_wd.plain.cd (hE.1.at hW9 m_218 #[])) m_218 m_1 m_215 m_216 m_217 (by decide +kernel) (pc_preV (ci := 0) (q0 := 0) hP hD hE hS hA [0, 1, 2, 3, 4, 5, 6, 7] (by decide) rfl [] rfl rfl) ⟨by exact Nat.le_of_ble_eq_true rfl, by exact Nat.le_of_ble_eq_true rfl⟩ rfl rfl hl.1 rfl (lv_room (by exact Nat.le_of_ble_eq_true rfl)) d_Law_pack_3 ⟨by exact Nat.le_of_ble_eq_true rfl, by exact Nat.le_of_ble_eq_true rfl⟩) (fun r_2 u_1 H locs hw hP hD hS => ?_)
  obtain ⟨b1_3, b2_4, fa2_5, fb2_6, n2_7, n3_8, t3_9, qo2_10, qs2_11⟩ := u_1
  have hP : va_P g.1 pc_cl [(ol, .inl (g.2.2.2, 1, .inr (.inl lo))), (x, .inr (0, [.ref qt, .ref kp, .ref qo2_10, .ref qs2_11, .ref qc, .ref qn, .ref qi])), (kp, .inr (3, [.ref ra, .ref rb, .int b1_3, .int b2_4])), (ra, .inl (g.2.2.1, 4096, .inl fa2_5)), (rb, .inl (g.2.2.1, 4096, .inl fb2_6)), (qt, .inr (1, [.ref r, .int (nI n2_7)])), (r, .inl (g.2.1, 32768, .inl (bA t))), (qs, .inr (1, [.ref rs, .int (nI n3_8)])), (rs, .inl (g.2.1, 32768, .inl (bA t3_9)))] H := hP
  have hD : va_D A [(ol, .inl (g.2.2.2, 1, .inr (.inl lo))), (x, .inr (0, [.ref qt, .ref kp, .ref qo2_10, .ref qs2_11, .ref qc, .ref qn, .ref qi])), (kp, .inr (3, [.ref ra, .ref rb, .int b1_3, .int b2_4])), (ra, .inl (g.2.2.1, 4096, .inl fa2_5)), (rb, .inl (g.2.2.1, 4096, .inl fb2_6)), (qt, .inr (1, [.ref r, .int (nI n2_7)])), (r, .inl (g.2.1, 32768, .inl (bA t))), (qs, .inr (1, [.ref rs, .int (nI n3_8)])), (rs, .inl (g.2.1, 32768, .inl (bA t3_9)))] := hD
  rcases hw with ⟨rfl, hw_12, hw_13, hw_14, hw_15, hw_16⟩ | ⟨rfl, hw_17, hw_18, hw_19, hw_20⟩
  · skip
    have hw_12 : bl t3_9 n3_8 = packL (bl t n) := hw_12
    have hw_13 : n3_8 ≤ 32768 := hw_13
    have hw_14 : n2_7 = 0 := hw_14
    have hw_15 : qo2_10 = qs := hw_15
    have hw_16 : qs2_11 = qo := hw_16
    refine tx_onI ?_
    refine lv_i2l (v := (nI n3_8).toInt64) hx hb d_Law_pack_6 rfl ?_
    refine pc_lsto hx hb hE.2.1 hP hD hS 0 2 rfl rfl (by omega) (by omega) d_Law_pack_7 (fun H locs hP hD hS => ?_)
    have hP : va_P g.1 pc_cl [(ol, .inl (g.2.2.2, 1, .inr (.inl (vp_updL lo 0 ((nI n3_8).toInt64))))), (x, .inr (0, [.ref qt, .ref kp, .ref qo2_10, .ref qs2_11, .ref qc, .ref qn, .ref qi])), (kp, .inr (3, [.ref ra, .ref rb, .int b1_3, .int b2_4])), (ra, .inl (g.2.2.1, 4096, .inl fa2_5)), (rb, .inl (g.2.2.1, 4096, .inl fb2_6)), (qt, .inr (1, [.ref r, .int (nI n2_7)])), (r, .inl (g.2.1, 32768, .inl (bA t))), (qs, .inr (1, [.ref rs, .int (nI n3_8)])), (rs, .inl (g.2.1, 32768, .inl (bA t3_9)))] H := hP
    have hD : va_D A [(ol, .inl (g.2.2.2, 1, .inr (.inl (vp_updL lo 0 ((nI n3_8).toInt64))))), (x, .inr (0, [.ref qt, .ref kp, .ref qo2_10, .ref qs2_11, .ref qc, .ref qn, .ref qi])), (kp, .inr (3, [.ref ra, .ref rb, .int b1_3, .int b2_4])), (ra, .inl (g.2.2.1, 4096, .inl fa2_5)), (rb, .inl (g.2.2.1, 4096, .inl fb2_6)), (qt, .inr (1, [.ref r, .int (nI n2_7)])), (r, .inl (g.2.1, 32768, .inl (bA t))), (qs, .inr (1, [.ref rs, .int (nI n3_8)])), (rs, .inl (g.2.1, 32768, .inl (bA t3_9)))] := hD
    refine lv_goto (tgt := 14) hx hb d_Law_pack_8 (by decide) ?_
    refine lv_iconst (v := nI 0) hx hb d_Law_pack_14 (by decide) ?_
    exact hR _ _ 15 _ (nI 0) (b1_3, b2_4, fa2_5, fb2_6, n2_7, n3_8, t3_9, qo2_10, qs2_11, vp_updL lo 0 ((nI n3_8).toInt64)) d_Law_pack_15 rfl (Or.inl (⟨rfl, hw_12, hw_13, hw_14, hw_15, hw_16, updL_0 lo _⟩)) (hP.sub [1, 2, 3, 4, 5, 6, 7, 8, 0] rfl) (hD.sub [1, 2, 3, 4, 5, 6, 7, 8, 0] (by decide) rfl) hS
  · skip
    have hw_17 : 32768 < (packL (bl t n)).length := hw_17
    have hw_18 : n2_7 = n := hw_18
    have hw_19 : qo2_10 = qo := hw_19
    have hw_20 : qs2_11 = qs := hw_20
    refine tx_onX (fun q_21 ce hq1 hq2 hq3 => ?_)
    refine tx_catch (name := "java/lang/IllegalStateException") (E := "java/lang/IllegalStateException") hE hown [] ⟨0, 8, 11, 13⟩ [] htab (fun z hz => nomatch hz) (by decide) (by decide) m_109 m_120 hq1 hq2 hq3 ?_
    refine W.eq (g2 := F0 m 11 ls [.ref q_21]) rfl ?_
    refine lv_astore_n (lv' := [(2, .ref q_21), (0, .ref x), (1, .ref ol)]) hx hb d_Law_pack_11 rfl hl (by decide) rfl (fun ls hl => ?_)
    refine lv_iconst (v := nI 1) hx hb d_Law_pack_12 (by decide) ?_
    exact hR _ _ 13 _ (nI 1) (b1_3, b2_4, fa2_5, fb2_6, n2_7, n3_8, t3_9, qo2_10, qs2_11, lo) d_Law_pack_13 rfl (Or.inr (⟨rfl, hw_17, hw_18, hw_19, hw_20, rfl⟩)) (hP.sub [1, 2, 3, 4, 5, 6, 7, 8, 0] rfl) (hD.sub [1, 2, 3, 4, 5, 6, 7, 8, 0] (by decide) rfl) hS
abbrev rm_Law_unpack : Room := { frames := 7, cells := 2, slots := 8, locals := 174 }
set_option maxHeartbeats 1000000 in
set_option maxRecDepth 100000 in
/-- the law asks unpack -/
theorem c_Law_unpack (l : Launch) (htr : l.stackTraces = false) (g : pc_G) (x : Nat) (qt : Nat) (kp : Nat) (qo : Nat) (qs : Nat) (qc : Nat) (qn : Nat) (qi : Nat) (r : Nat) (n : Nat) (t : Nat → UInt8) (rs : Nat) (ns : Int32) (ts : Nat → UInt8) (ol : Nat) (lo : Nat → Int64) (hn : n ≤ 32768) : pc_X (S := Nat × (Nat → UInt8) × Nat × Nat × (Nat → Int64)) l y_Law_unpack (.codeWith y_Law_unpack method_6_code 3 (some .int) [(0, 8, 11, 19)]) (some .int) rm_Law_unpack g [(x, .inr (0, [.ref qt, .ref kp, .ref qo, .ref qs, .ref qc, .ref qn, .ref qi])), (qt, .inr (1, [.ref r, .int (nI n)])), (r, .inl (g.2.1, 32768, .inl (bA t))), (qs, .inr (1, [.ref rs, .int ns])), (rs, .inl (g.2.1, 32768, .inl (bA ts))), (ol, .inl (g.2.2.2, 1, .inr (.inl lo)))] [.ref x, .ref ol] (fun rv u => (rv = .inl (nI 0) ∧ unP (bl t n) 0 = some (bl u.2.1 u.1) ∧ u.1 ≤ 32768 ∧ u.2.2.1 = qs ∧ u.2.2.2.1 = qo ∧ u.2.2.2.2 0 = (nI u.1).toInt64) ∨ (rv = .inl (nI 1) ∧ unP (bl t n) 0 = none ∧ u.2.2.1 = qo ∧ u.2.2.2.1 = qs ∧ u.2.2.2.2 = lo)) (fun u => [(x, .inr (0, [.ref qt, .ref kp, .ref u.2.2.1, .ref u.2.2.2.1, .ref qc, .ref qn, .ref qi])), (qt, .inr (1, [.ref r, .int (nI 0)])), (r, .inl (g.2.1, 32768, .inl (bA t))), (qs, .inr (1, [.ref rs, .int (nI u.1)])), (rs, .inl (g.2.1, 32768, .inl (bA u.2.1))), (ol, .inl (g.2.2.2, 1, .inr (.inl u.2.2.2.2)))]) := by
  refine pc_X.of (cc := method_6_code) (nL := 3) (rt := (some .int)) (hh := [(0, 8, 11, 19)]) (by decide) tx_wd.with (by exact Nat.le_of_ble_eq_true rfl) htr ?_
  intro p e s m below meth c A Q hx hb hml hown hE hA htab hR hT hO hP hD ls hl
  have hS : va_S A s.heap s.heap [] := va_S.rf
  have hl : lv_has ls 3 [(0, .ref x), (1, .ref ol)] := hl
  refine lv_aload_n hx hb d_Law_unpack_0 rfl (lv_at hl 1 rfl) ?_
  refine lv_iconst (v := nI 0) hx hb d_Law_unpack_1 (by decide) ?_
  refine lv_aload_n hx hb d_Law_unpack_2 rfl (lv_at hl 0 rfl) ?_
  refine pc_x (rt := (some .int)) (wc := [(x, .inr (0, [.ref qt, .ref kp, .ref qo, .ref qs, .ref qc, .ref qn, .ref qi])), (qt, .inr (1, [.ref r, .int (nI n)])), (r, .inl (g.2.1, 32768, .inl (bA t))), (qs, .inr (1, [.ref rs, .int ns])), (rs, .inl (g.2.1, 32768, .inl (bA ts)))]) (wr := [(ol, .inl (g.2.2.2, 1, .inr (.inl lo)))]) (cells' := 2) (slots' := 8) hP hD hS hA [0, 1, 2, 3, 4] [5] rfl rfl (by decide) (by decide) rfl rfl (tx_runV (n := 0) (As := []) (rest := [.int (nI 0), .ref ol]) (C := R_Pk) hE hx hb hml hown (c_Pk_unpack l htr g x qt kp qo qs qc qn qi r n t rs ns ts hn _) (fun U9 hW9 => tx_wd.plain.cd (hE.1.at hW9 m_285 #[])) m_285 m_1 m_282 m_283 m_284 (by decide +kernel) (pc_preV (ci := 0) (q0 := 0) hP hD hE hS hA [0, 1, 2, 3, 4] (by decide) rfl [] rfl rfl) ⟨by exact Nat.le_of_ble_eq_true rfl, by exact Nat.le_of_ble_eq_true rfl⟩ rfl rfl hl.1 rfl (lv_room (by exact Nat.le_of_ble_eq_true rfl)) d_Law_unpack_3 ⟨by exact Nat.le_of_ble_eq_true rfl, by exact Nat.le_of_ble_eq_true rfl⟩) (fun r_2 u_1 H locs hw hP hD hS => ?_)
  obtain ⟨n3_3, t3_4, qo2_5, qs2_6⟩ := u_1
  have hP : va_P g.1 pc_cl [(ol, .inl (g.2.2.2, 1, .inr (.inl lo))), (x, .inr (0, [.ref qt, .ref kp, .ref qo2_5, .ref qs2_6, .ref qc, .ref qn, .ref qi])), (qt, .inr (1, [.ref r, .int (nI 0)])), (r, .inl (g.2.1, 32768, .inl (bA t))), (qs, .inr (1, [.ref rs, .int (nI n3_3)])), (rs, .inl (g.2.1, 32768, .inl (bA t3_4)))] H := hP
  have hD : va_D A [(ol, .inl (g.2.2.2, 1, .inr (.inl lo))), (x, .inr (0, [.ref qt, .ref kp, .ref qo2_5, .ref qs2_6, .ref qc, .ref qn, .ref qi])), (qt, .inr (1, [.ref r, .int (nI 0)])), (r, .inl (g.2.1, 32768, .inl (bA t))), (qs, .inr (1, [.ref rs, .int (nI n3_3)])), (rs, .inl (g.2.1, 32768, .inl (bA t3_4)))] := hD
  rcases hw with ⟨rfl, hw_7, hw_8, hw_9, hw_10⟩ | ⟨rfl, hw_11, hw_12, hw_13⟩
  · skip
    have hw_7 : unP (bl t n) 0 = some (bl t3_4 n3_3) := hw_7
    have hw_8 : n3_3 ≤ 32768 := hw_8
    have hw_9 : qo2_5 = qs := hw_9
    have hw_10 : qs2_6 = qo := hw_10
    refine tx_onI ?_
    refine lv_i2l (v := (nI n3_3).toInt64) hx hb d_Law_unpack_6 rfl ?_
    refine pc_lsto hx hb hE.2.1 hP hD hS 0 2 rfl rfl (by omega) (by omega) d_Law_unpack_7 (fun H locs hP hD hS => ?_)
    have hP : va_P g.1 pc_cl [(ol, .inl (g.2.2.2, 1, .inr (.inl (vp_updL lo 0 ((nI n3_3).toInt64))))), (x, .inr (0, [.ref qt, .ref kp, .ref qo2_5, .ref qs2_6, .ref qc, .ref qn, .ref qi])), (qt, .inr (1, [.ref r, .int (nI 0)])), (r, .inl (g.2.1, 32768, .inl (bA t))), (qs, .inr (1, [.ref rs, .int (nI n3_3)])), (rs, .inl (g.2.1, 32768, .inl (bA t3_4)))] H := hP
    have hD : va_D A [(ol, .inl (g.2.2.2, 1, .inr (.inl (vp_updL lo 0 ((nI n3_3).toInt64))))), (x, .inr (0, [.ref qt, .ref kp, .ref qo2_5, .ref qs2_6, .ref qc, .ref qn, .ref qi])), (qt, .inr (1, [.ref r, .int (nI 0)])), (r, .inl (g.2.1, 32768, .inl (bA t))), (qs, .inr (1, [.ref rs, .int (nI n3_3)])), (rs, .inl (g.2.1, 32768, .inl (bA t3_4)))] := hD
    refine lv_goto (tgt := 14) hx hb d_Law_unpack_8 (by decide) ?_
    refine lv_iconst (v := nI 0) hx hb d_Law_unpack_14 (by decide) ?_
    exact hR _ _ 15 _ (nI 0) (n3_3, t3_4, qo2_5, qs2_6, vp_updL lo 0 ((nI n3_3).toInt64)) d_Law_unpack_15 rfl (Or.inl (⟨rfl, hw_7, hw_8, hw_9, hw_10, updL_0 lo _⟩)) (hP.sub [1, 2, 3, 4, 5, 0] rfl) (hD.sub [1, 2, 3, 4, 5, 0] (by decide) rfl) hS
  · skip
    have hw_11 : unP (bl t n) 0 = none := hw_11
    have hw_12 : qo2_5 = qo := hw_12
    have hw_13 : qs2_6 = qs := hw_13
    refine tx_onX (fun q_14 ce hq1 hq2 hq3 => ?_)
    refine tx_catch (name := "java/lang/IllegalArgumentException") (E := "java/lang/IllegalArgumentException") hE hown [] ⟨0, 8, 11, 19⟩ [] htab (fun z hz => nomatch hz) (by decide) (by decide) m_192 m_199 hq1 hq2 hq3 ?_
    refine W.eq (g2 := F0 m 11 ls [.ref q_14]) rfl ?_
    refine lv_astore_n (lv' := [(2, .ref q_14), (0, .ref x), (1, .ref ol)]) hx hb d_Law_unpack_11 rfl hl (by decide) rfl (fun ls hl => ?_)
    refine lv_iconst (v := nI 1) hx hb d_Law_unpack_12 (by decide) ?_
    exact hR _ _ 13 _ (nI 1) (n3_3, t3_4, qo2_5, qs2_6, lo) d_Law_unpack_13 rfl (Or.inr (⟨rfl, hw_11, hw_12, hw_13, rfl⟩)) (hP.sub [1, 2, 3, 4, 5, 0] rfl) (hD.sub [1, 2, 3, 4, 5, 0] (by decide) rfl) hS
abbrev rm_Law_text : Room := { frames := 7, cells := 2, slots := 8, locals := 112 }
set_option maxHeartbeats 1000000 in
set_option maxRecDepth 100000 in
/-- the law asks text -/
theorem c_Law_text (l : Launch) (htr : l.stackTraces = false) (g : pc_G) (x : Nat) (qt : Nat) (kp : Nat) (qo : Nat) (qs : Nat) (qc : Nat) (qn : Nat) (qi : Nat) (r : Nat) (n : Nat) (t : Nat → UInt8) (ri : Nat) (ni : Int32) (fi : Nat → Int32) (ol : Nat) (lo : Nat → Int64) (hn : n ≤ 32768) : pc_X (S := Nat × (Nat → Int32) × Nat × Nat × (Nat → Int64)) l y_Law_text (.codeWith y_Law_text method_7_code 3 (some .int) [(0, 8, 11, 19)]) (some .int) rm_Law_text g [(x, .inr (0, [.ref qt, .ref kp, .ref qo, .ref qs, .ref qc, .ref qn, .ref qi])), (qt, .inr (1, [.ref r, .int (nI n)])), (r, .inl (g.2.1, 32768, .inl (bA t))), (qi, .inr (2, [.ref ri, .int ni])), (ri, .inl (g.2.2.1, 32768, .inl fi)), (ol, .inl (g.2.2.2, 1, .inr (.inl lo)))] [.ref x, .ref ol] (fun rv u => (rv = .inl (nI 0) ∧ (∃ ns : List Nat, chsA (bl t n) (n + 1) 0 [] = some ns ∧ u.1 = ns.length ∧ u.1 ≤ 32768 ∧ ∀ j, j < u.1 → u.2.1 j = nI (ns.getD j 0)) ∧ u.2.2.1 = qi ∧ u.2.2.2.1 = qc ∧ u.2.2.2.2 0 = (nI u.1).toInt64) ∨ (rv = .inl (nI 1) ∧ chsA (bl t n) (n + 1) 0 [] = none ∧ u.2.2.1 = qc ∧ u.2.2.2.1 = qi ∧ u.2.2.2.2 = lo)) (fun u => [(x, .inr (0, [.ref qt, .ref kp, .ref qo, .ref qs, .ref u.2.2.1, .ref qn, .ref u.2.2.2.1])), (qt, .inr (1, [.ref r, .int (nI 0)])), (r, .inl (g.2.1, 32768, .inl (bA t))), (qi, .inr (2, [.ref ri, .int (nI u.1)])), (ri, .inl (g.2.2.1, 32768, .inl u.2.1)), (ol, .inl (g.2.2.2, 1, .inr (.inl u.2.2.2.2)))]) := by
  refine pc_X.of (cc := method_7_code) (nL := 3) (rt := (some .int)) (hh := [(0, 8, 11, 19)]) (by decide) tx_wd.with (by exact Nat.le_of_ble_eq_true rfl) htr ?_
  intro p e s m below meth c A Q hx hb hml hown hE hA htab hR hT hO hP hD ls hl
  have hS : va_S A s.heap s.heap [] := va_S.rf
  have hl : lv_has ls 3 [(0, .ref x), (1, .ref ol)] := hl
  refine lv_aload_n hx hb d_Law_text_0 rfl (lv_at hl 1 rfl) ?_
  refine lv_iconst (v := nI 0) hx hb d_Law_text_1 (by decide) ?_
  refine lv_aload_n hx hb d_Law_text_2 rfl (lv_at hl 0 rfl) ?_
  refine pc_x (rt := (some .int)) (wc := [(x, .inr (0, [.ref qt, .ref kp, .ref qo, .ref qs, .ref qc, .ref qn, .ref qi])), (qt, .inr (1, [.ref r, .int (nI n)])), (r, .inl (g.2.1, 32768, .inl (bA t))), (qi, .inr (2, [.ref ri, .int ni])), (ri, .inl (g.2.2.1, 32768, .inl fi))]) (wr := [(ol, .inl (g.2.2.2, 1, .inr (.inl lo)))]) (cells' := 2) (slots' := 8) hP hD hS hA [0, 1, 2, 3, 4] [5] rfl rfl (by decide) (by decide) rfl rfl (tx_runV (n := 0) (As := []) (rest := [.int (nI 0), .ref ol]) (C := R_Pk) hE hx hb hml hown (c_Pk_text l htr g x qt kp qo qs qc qn qi r n t ri ni fi hn _) (fun U9 hW9 => tx_wd.plain.cd (hE.1.at hW9 m_342 #[])) m_342 m_1 m_339 m_340 m_341 (by decide +kernel) (pc_preV (ci := 0) (q0 := 0) hP hD hE hS hA [0, 1, 2, 3, 4] (by decide) rfl [] rfl rfl) ⟨by exact Nat.le_of_ble_eq_true rfl, by exact Nat.le_of_ble_eq_true rfl⟩ rfl rfl hl.1 rfl (lv_room (by exact Nat.le_of_ble_eq_true rfl)) d_Law_text_3 ⟨by exact Nat.le_of_ble_eq_true rfl, by exact Nat.le_of_ble_eq_true rfl⟩) (fun r_2 u_1 H locs hw hP hD hS => ?_)
  obtain ⟨n3_3, f3_4, qc2_5, qi2_6⟩ := u_1
  have hP : va_P g.1 pc_cl [(ol, .inl (g.2.2.2, 1, .inr (.inl lo))), (x, .inr (0, [.ref qt, .ref kp, .ref qo, .ref qs, .ref qc2_5, .ref qn, .ref qi2_6])), (qt, .inr (1, [.ref r, .int (nI 0)])), (r, .inl (g.2.1, 32768, .inl (bA t))), (qi, .inr (2, [.ref ri, .int (nI n3_3)])), (ri, .inl (g.2.2.1, 32768, .inl f3_4))] H := hP
  have hD : va_D A [(ol, .inl (g.2.2.2, 1, .inr (.inl lo))), (x, .inr (0, [.ref qt, .ref kp, .ref qo, .ref qs, .ref qc2_5, .ref qn, .ref qi2_6])), (qt, .inr (1, [.ref r, .int (nI 0)])), (r, .inl (g.2.1, 32768, .inl (bA t))), (qi, .inr (2, [.ref ri, .int (nI n3_3)])), (ri, .inl (g.2.2.1, 32768, .inl f3_4))] := hD
  rcases hw with ⟨rfl, hw_7, hw_8, hw_9⟩ | ⟨rfl, hw_10, hw_11, hw_12⟩
  · skip
    have hw_7 : ∃ ns : List Nat, chsA (bl t n) (n + 1) 0 [] = some ns ∧ n3_3 = ns.length ∧ n3_3 ≤ 32768 ∧ ∀ j, j < n3_3 → f3_4 j = nI (ns.getD j 0) := hw_7
    have hw_8 : qc2_5 = qi := hw_8
    have hw_9 : qi2_6 = qc := hw_9
    refine tx_onI ?_
    refine lv_i2l (v := (nI n3_3).toInt64) hx hb d_Law_text_6 rfl ?_
    refine pc_lsto hx hb hE.2.1 hP hD hS 0 2 rfl rfl (by omega) (by omega) d_Law_text_7 (fun H locs hP hD hS => ?_)
    have hP : va_P g.1 pc_cl [(ol, .inl (g.2.2.2, 1, .inr (.inl (vp_updL lo 0 ((nI n3_3).toInt64))))), (x, .inr (0, [.ref qt, .ref kp, .ref qo, .ref qs, .ref qc2_5, .ref qn, .ref qi2_6])), (qt, .inr (1, [.ref r, .int (nI 0)])), (r, .inl (g.2.1, 32768, .inl (bA t))), (qi, .inr (2, [.ref ri, .int (nI n3_3)])), (ri, .inl (g.2.2.1, 32768, .inl f3_4))] H := hP
    have hD : va_D A [(ol, .inl (g.2.2.2, 1, .inr (.inl (vp_updL lo 0 ((nI n3_3).toInt64))))), (x, .inr (0, [.ref qt, .ref kp, .ref qo, .ref qs, .ref qc2_5, .ref qn, .ref qi2_6])), (qt, .inr (1, [.ref r, .int (nI 0)])), (r, .inl (g.2.1, 32768, .inl (bA t))), (qi, .inr (2, [.ref ri, .int (nI n3_3)])), (ri, .inl (g.2.2.1, 32768, .inl f3_4))] := hD
    refine lv_goto (tgt := 14) hx hb d_Law_text_8 (by decide) ?_
    refine lv_iconst (v := nI 0) hx hb d_Law_text_14 (by decide) ?_
    exact hR _ _ 15 _ (nI 0) (n3_3, f3_4, qc2_5, qi2_6, vp_updL lo 0 ((nI n3_3).toInt64)) d_Law_text_15 rfl (Or.inl (⟨rfl, hw_7, hw_8, hw_9, updL_0 lo _⟩)) (hP.sub [1, 2, 3, 4, 5, 0] rfl) (hD.sub [1, 2, 3, 4, 5, 0] (by decide) rfl) hS
  · skip
    have hw_10 : chsA (bl t n) (n + 1) 0 [] = none := hw_10
    have hw_11 : qc2_5 = qc := hw_11
    have hw_12 : qi2_6 = qi := hw_12
    refine tx_onX (fun q_13 ce hq1 hq2 hq3 => ?_)
    refine tx_catch (name := "java/lang/IllegalArgumentException") (E := "java/lang/IllegalArgumentException") hE hown [] ⟨0, 8, 11, 19⟩ [] htab (fun z hz => nomatch hz) (by decide) (by decide) m_192 m_199 hq1 hq2 hq3 ?_
    refine W.eq (g2 := F0 m 11 ls [.ref q_13]) rfl ?_
    refine lv_astore_n (lv' := [(2, .ref q_13), (0, .ref x), (1, .ref ol)]) hx hb d_Law_text_11 rfl hl (by decide) rfl (fun ls hl => ?_)
    refine lv_iconst (v := nI 1) hx hb d_Law_text_12 (by decide) ?_
    exact hR _ _ 13 _ (nI 1) (n3_3, f3_4, qc2_5, qi2_6, lo) d_Law_text_13 rfl (Or.inr (⟨rfl, hw_10, hw_11, hw_12, rfl⟩)) (hP.sub [1, 2, 3, 4, 5, 0] rfl) (hD.sub [1, 2, 3, 4, 5, 0] (by decide) rfl) hS
abbrev rm_Law_code : Room := { frames := 7, cells := 1, slots := 6, locals := 102 }
set_option maxHeartbeats 1000000 in
set_option maxRecDepth 100000 in
/-- the law asks code -/
theorem c_Law_code (l : Launch) (htr : l.stackTraces = false) (g : pc_G) (x : Nat) (qt : Nat) (kp : Nat) (qo : Nat) (qs : Nat) (qc : Nat) (qn : Nat) (qi : Nat) (rc : Nat) (n : Nat) (f : Nat → Int32) (k : Int32) (ol : Nat) (lo : Nat → Int64) (hn : n ≤ 32768) : pc_X (S := (Nat → Int64)) l y_Law_code (.codeWith y_Law_code method_8_code 4 (some .int) [(0, 9, 12, 34)]) (some .int) rm_Law_code g [(x, .inr (0, [.ref qt, .ref kp, .ref qo, .ref qs, .ref qc, .ref qn, .ref qi])), (qc, .inr (2, [.ref rc, .int (nI n)])), (rc, .inl (g.2.2.1, 32768, .inl f)), (ol, .inl (g.2.2.2, 1, .inr (.inl lo)))] [.ref x, .int k, .ref ol] (fun rv u => (rv = .inl (nI 0) ∧ ¬ k < 0 ∧ iN k < n ∧ u 0 = (f (iN k)).toInt64) ∨ (rv = .inl (nI 1) ∧ (k < 0 ∨ n ≤ iN k) ∧ u = lo)) (fun u => [(x, .inr (0, [.ref qt, .ref kp, .ref qo, .ref qs, .ref qc, .ref qn, .ref qi])), (qc, .inr (2, [.ref rc, .int (nI n)])), (rc, .inl (g.2.2.1, 32768, .inl f)), (ol, .inl (g.2.2.2, 1, .inr (.inl u)))]) := by
  refine pc_X.of (cc := method_8_code) (nL := 4) (rt := (some .int)) (hh := [(0, 9, 12, 34)]) (by decide) tx_wd.with (by exact Nat.le_of_ble_eq_true rfl) htr ?_
  intro p e s m below meth c A Q hx hb hml hown hE hA htab hR hT hO hP hD ls hl
  have hS : va_S A s.heap s.heap [] := va_S.rf
  have hl : lv_has ls 4 [(0, .ref x), (1, .int k), (2, .ref ol)] := hl
  refine lv_aload_n hx hb d_Law_code_0 rfl (lv_at hl 2 rfl) ?_
  refine lv_iconst (v := nI 0) hx hb d_Law_code_1 (by decide) ?_
  refine lv_aload_n hx hb d_Law_code_2 rfl (lv_at hl 0 rfl) ?_
  refine lv_iload_n hx hb d_Law_code_3 rfl (lv_at hl 1 rfl) ?_
  refine pc_x (rt := (some .int)) (wc := [(x, .inr (0, [.ref qt, .ref kp, .ref qo, .ref qs, .ref qc, .ref qn, .ref qi])), (qc, .inr (2, [.ref rc, .int (nI n)])), (rc, .inl (g.2.2.1, 32768, .inl f))]) (wr := [(ol, .inl (g.2.2.2, 1, .inr (.inl lo)))]) (cells' := 1) (slots' := 6) hP hD hS hA [0, 1, 2] [3] rfl rfl (by decide) (by decide) rfl rfl (tx_runV (n := 1) (As := [.int k]) (rest := [.int (nI 0), .ref ol]) (C := R_Pk) hE hx hb hml hown (c_Pk_code l htr g x qt kp qo qs qc qn qi rc n f k hn _) (fun U9 hW9 => tx_wd.plain.cd (hE.1.at hW9 m_379 #[])) m_379 m_1 m_376 m_377 m_378 (by decide +kernel) (pc_preV (ci := 0) (q0 := 0) hP hD hE hS hA [0, 1, 2] (by decide) rfl [.int k] rfl rfl) ⟨by exact Nat.le_of_ble_eq_true rfl, by exact Nat.le_of_ble_eq_true rfl⟩ rfl rfl hl.1 rfl (lv_room (by exact Nat.le_of_ble_eq_true rfl)) d_Law_code_4 ⟨by exact Nat.le_of_ble_eq_true rfl, by exact Nat.le_of_ble_eq_true rfl⟩) (fun r_2 u_1 H locs hw hP hD hS => ?_)
  have hP : va_P g.1 pc_cl [(ol, .inl (g.2.2.2, 1, .inr (.inl lo))), (x, .inr (0, [.ref qt, .ref kp, .ref qo, .ref qs, .ref qc, .ref qn, .ref qi])), (qc, .inr (2, [.ref rc, .int (nI n)])), (rc, .inl (g.2.2.1, 32768, .inl f))] H := hP
  have hD : va_D A [(ol, .inl (g.2.2.2, 1, .inr (.inl lo))), (x, .inr (0, [.ref qt, .ref kp, .ref qo, .ref qs, .ref qc, .ref qn, .ref qi])), (qc, .inr (2, [.ref rc, .int (nI n)])), (rc, .inl (g.2.2.1, 32768, .inl f))] := hD
  rcases hw with ⟨rfl, hw_3, hw_4⟩ | ⟨rfl, hw_5⟩
  · skip
    have hw_3 : ¬ k < 0 := hw_3
    have hw_4 : iN k < n := hw_4
    refine tx_onI ?_
    refine lv_i2l (v := (f (iN k)).toInt64) hx hb d_Law_code_7 rfl ?_
    refine pc_lsto hx hb hE.2.1 hP hD hS 0 2 rfl rfl (by omega) (by omega) d_Law_code_8 (fun H locs hP hD hS => ?_)
    have hP : va_P g.1 pc_cl [(ol, .inl (g.2.2.2, 1, .inr (.inl (vp_updL lo 0 ((f (iN k)).toInt64))))), (x, .inr (0, [.ref qt, .ref kp, .ref qo, .ref qs, .ref qc, .ref qn, .ref qi])), (qc, .inr (2, [.ref rc, .int (nI n)])), (rc, .inl (g.2.2.1, 32768, .inl f))] H := hP
    have hD : va_D A [(ol, .inl (g.2.2.2, 1, .inr (.inl (vp_updL lo 0 ((f (iN k)).toInt64))))), (x, .inr (0, [.ref qt, .ref kp, .ref qo, .ref qs, .ref qc, .ref qn, .ref qi])), (qc, .inr (2, [.ref rc, .int (nI n)])), (rc, .inl (g.2.2.1, 32768, .inl f))] := hD
    refine lv_goto (tgt := 15) hx hb d_Law_code_9 (by decide) ?_
    refine lv_iconst (v := nI 0) hx hb d_Law_code_15 (by decide) ?_
    exact hR _ _ 16 _ (nI 0) (vp_updL lo 0 ((f (iN k)).toInt64)) d_Law_code_16 rfl (Or.inl (⟨rfl, hw_3, hw_4, updL_0 lo _⟩)) (hP.sub [1, 2, 3, 0] rfl) (hD.sub [1, 2, 3, 0] (by decide) rfl) hS
  · skip
    have hw_5 : k < 0 ∨ n ≤ iN k := hw_5
    refine tx_onX (fun q_6 ce hq1 hq2 hq3 => ?_)
    refine tx_catch (name := "java/util/NoSuchElementException") (E := "java/util/NoSuchElementException") hE hown [] ⟨0, 9, 12, 34⟩ [] htab (fun z hz => nomatch hz) (by decide) (by decide) m_375 m_382 hq1 hq2 hq3 ?_
    refine W.eq (g2 := F0 m 12 ls [.ref q_6]) rfl ?_
    refine lv_astore_n (lv' := [(3, .ref q_6), (0, .ref x), (1, .int k), (2, .ref ol)]) hx hb d_Law_code_12 rfl hl (by decide) rfl (fun ls hl => ?_)
    refine lv_iconst (v := nI 1) hx hb d_Law_code_13 (by decide) ?_
    exact hR _ _ 14 _ (nI 1) lo d_Law_code_14 rfl (Or.inr (⟨rfl, hw_5, rfl⟩)) (hP.sub [1, 2, 3, 0] rfl) (hD.sub [1, 2, 3, 0] (by decide) rfl) hS
abbrev rm_Law_letter : Room := { frames := 7, cells := 1, slots := 6, locals := 103 }
set_option maxHeartbeats 1000000 in
set_option maxRecDepth 100000 in
/-- the law asks letter -/
theorem c_Law_letter (l : Launch) (htr : l.stackTraces = false) (g : pc_G) (x : Nat) (qt : Nat) (kp : Nat) (qo : Nat) (qs : Nat) (qc : Nat) (qn : Nat) (qi : Nat) (r : Nat) (n : Nat) (t : Nat → UInt8) (k : Int32) (ol : Nat) (lo : Nat → Int64) (hn : n ≤ 32768) : pc_X (S := Nat × (Nat → UInt8) × (Nat → Int64)) l y_Law_letter (.codeWith y_Law_letter method_9_code 4 (some .int) [(0, 9, 12, 19), (0, 9, 15, 13)]) (some .int) rm_Law_letter g [(x, .inr (0, [.ref qt, .ref kp, .ref qo, .ref qs, .ref qc, .ref qn, .ref qi])), (qo, .inr (1, [.ref r, .int (nI n)])), (r, .inl (g.2.1, 32768, .inl (bA t))), (ol, .inl (g.2.2.2, 1, .inr (.inl lo)))] [.ref x, .int k, .ref ol] (fun rv u => (rv = .inl (nI 0) ∧ chI k ∧ n + chW (iN k) ≤ 32768 ∧ u.1 = n + chW (iN k) ∧ bl u.2.1 u.1 = bl t n ++ chL (iN k) ∧ u.2.2 0 = (nI (chW (iN k))).toInt64) ∨ (rv = .inl (nI 1) ∧ ¬ chI k ∧ u.1 = n ∧ u.2.1 = t ∧ u.2.2 = lo) ∨ (rv = .inl (nI 2) ∧ chI k ∧ 32768 < n + chW (iN k) ∧ u.1 = n ∧ u.2.1 = t ∧ u.2.2 = lo)) (fun u => [(x, .inr (0, [.ref qt, .ref kp, .ref qo, .ref qs, .ref qc, .ref qn, .ref qi])), (qo, .inr (1, [.ref r, .int (nI u.1)])), (r, .inl (g.2.1, 32768, .inl (bA u.2.1))), (ol, .inl (g.2.2.2, 1, .inr (.inl u.2.2)))]) := by
  refine pc_X.of (cc := method_9_code) (nL := 4) (rt := (some .int)) (hh := [(0, 9, 12, 19), (0, 9, 15, 13)]) (by decide) tx_wd.with (by exact Nat.le_of_ble_eq_true rfl) htr ?_
  intro p e s m below meth c A Q hx hb hml hown hE hA htab hR hT hO hP hD ls hl
  have hS : va_S A s.heap s.heap [] := va_S.rf
  have hl : lv_has ls 4 [(0, .ref x), (1, .int k), (2, .ref ol)] := hl
  refine lv_aload_n hx hb d_Law_letter_0 rfl (lv_at hl 2 rfl) ?_
  refine lv_iconst (v := nI 0) hx hb d_Law_letter_1 (by decide) ?_
  refine lv_aload_n hx hb d_Law_letter_2 rfl (lv_at hl 0 rfl) ?_
  refine lv_iload_n hx hb d_Law_letter_3 rfl (lv_at hl 1 rfl) ?_
  refine pc_x (rt := (some .int)) (wc := [(x, .inr (0, [.ref qt, .ref kp, .ref qo, .ref qs, .ref qc, .ref qn, .ref qi])), (qo, .inr (1, [.ref r, .int (nI n)])), (r, .inl (g.2.1, 32768, .inl (bA t)))]) (wr := [(ol, .inl (g.2.2.2, 1, .inr (.inl lo)))]) (cells' := 1) (slots' := 6) hP hD hS hA [0, 1, 2] [3] rfl rfl (by decide) (by decide) rfl rfl (tx_runV (n := 1) (As := [.int k]) (rest := [.int (nI 0), .ref ol]) (C := R_Pk) hE hx hb hml hown (c_Pk_letter l htr g x qt kp qo qs qc qn qi r n t k hn _) (fun U9 hW9 => tx_wd.plain.cd (hE.1.at hW9 m_401 #[])) m_401 m_1 m_398 m_399 m_400 (by decide +kernel) (pc_preV (ci := 0) (q0 := 0) hP hD hE hS hA [0, 1, 2] (by decide) rfl [.int k] rfl rfl) ⟨by exact Nat.le_of_ble_eq_true rfl, by exact Nat.le_of_ble_eq_true rfl⟩ rfl rfl hl.1 rfl (lv_room (by exact Nat.le_of_ble_eq_true rfl)) d_Law_letter_4 ⟨by exact Nat.le_of_ble_eq_true rfl, by exact Nat.le_of_ble_eq_true rfl⟩) (fun r_2 u_1 H locs hw hP hD hS => ?_)
  obtain ⟨n2_3, t2_4⟩ := u_1
  have hP : va_P g.1 pc_cl [(ol, .inl (g.2.2.2, 1, .inr (.inl lo))), (x, .inr (0, [.ref qt, .ref kp, .ref qo, .ref qs, .ref qc, .ref qn, .ref qi])), (qo, .inr (1, [.ref r, .int (nI n2_3)])), (r, .inl (g.2.1, 32768, .inl (bA t2_4)))] H := hP
  have hD : va_D A [(ol, .inl (g.2.2.2, 1, .inr (.inl lo))), (x, .inr (0, [.ref qt, .ref kp, .ref qo, .ref qs, .ref qc, .ref qn, .ref qi])), (qo, .inr (1, [.ref r, .int (nI n2_3)])), (r, .inl (g.2.1, 32768, .inl (bA t2_4)))] := hD
  rcases hw with ⟨rfl, hw_5, hw_6, hw_7, hw_8⟩ | ⟨rfl, hw_9, hw_10, hw_11⟩ | ⟨rfl, hw_12, hw_13, hw_14, hw_15⟩
  · skip
    have hw_5 : chI k := hw_5
    have hw_6 : n + chW (iN k) ≤ 32768 := hw_6
    have hw_7 : n2_3 = n + chW (iN k) := hw_7
    have hw_8 : bl t2_4 n2_3 = bl t n ++ chL (iN k) := hw_8
    refine tx_onI ?_
    refine lv_i2l (v := (nI (chW (iN k))).toInt64) hx hb d_Law_letter_7 rfl ?_
    refine pc_lsto hx hb hE.2.1 hP hD hS 0 2 rfl rfl (by omega) (by omega) d_Law_letter_8 (fun H locs hP hD hS => ?_)
    have hP : va_P g.1 pc_cl [(ol, .inl (g.2.2.2, 1, .inr (.inl (vp_updL lo 0 ((nI (chW (iN k))).toInt64))))), (x, .inr (0, [.ref qt, .ref kp, .ref qo, .ref qs, .ref qc, .ref qn, .ref qi])), (qo, .inr (1, [.ref r, .int (nI n2_3)])), (r, .inl (g.2.1, 32768, .inl (bA t2_4)))] H := hP
    have hD : va_D A [(ol, .inl (g.2.2.2, 1, .inr (.inl (vp_updL lo 0 ((nI (chW (iN k))).toInt64))))), (x, .inr (0, [.ref qt, .ref kp, .ref qo, .ref qs, .ref qc, .ref qn, .ref qi])), (qo, .inr (1, [.ref r, .int (nI n2_3)])), (r, .inl (g.2.1, 32768, .inl (bA t2_4)))] := hD
    refine lv_goto (tgt := 18) hx hb d_Law_letter_9 (by decide) ?_
    refine lv_iconst (v := nI 0) hx hb d_Law_letter_18 (by decide) ?_
    exact hR _ _ 19 _ (nI 0) (n2_3, t2_4, vp_updL lo 0 ((nI (chW (iN k))).toInt64)) d_Law_letter_19 rfl (Or.inl (⟨rfl, hw_5, hw_6, hw_7, hw_8, updL_0 lo _⟩)) (hP.sub [1, 2, 3, 0] rfl) (hD.sub [1, 2, 3, 0] (by decide) rfl) hS
  · skip
    have hw_9 : ¬ chI k := hw_9
    have hw_10 : n2_3 = n := hw_10
    have hw_11 : t2_4 = t := hw_11
    refine tx_onX (fun q_16 ce hq1 hq2 hq3 => ?_)
    refine tx_catch (name := "java/lang/IllegalArgumentException") (E := "java/lang/IllegalArgumentException") hE hown [] ⟨0, 9, 12, 19⟩ [⟨0, 9, 15, 13⟩] htab (fun z hz => nomatch hz) (by decide) (by decide) m_192 m_199 hq1 hq2 hq3 ?_
    refine W.eq (g2 := F0 m 12 ls [.ref q_16]) rfl ?_
    refine lv_astore_n (lv' := [(3, .ref q_16), (0, .ref x), (1, .int k), (2, .ref ol)]) hx hb d_Law_letter_12 rfl hl (by decide) rfl (fun ls hl => ?_)
    refine lv_iconst (v := nI 1) hx hb d_Law_letter_13 (by decide) ?_
    exact hR _ _ 14 _ (nI 1) (n2_3, t2_4, lo) d_Law_letter_14 rfl (Or.inr (Or.inl (⟨rfl, hw_9, hw_10, hw_11, rfl⟩))) (hP.sub [1, 2, 3, 0] rfl) (hD.sub [1, 2, 3, 0] (by decide) rfl) hS
  · skip
    have hw_12 : chI k := hw_12
    have hw_13 : 32768 < n + chW (iN k) := hw_13
    have hw_14 : n2_3 = n := hw_14
    have hw_15 : t2_4 = t := hw_15
    refine tx_onX (fun q_17 ce hq1 hq2 hq3 => ?_)
    refine tx_catch (name := "java/lang/IllegalStateException") (E := "java/lang/IllegalStateException") hE hown [⟨0, 9, 12, 19⟩] ⟨0, 9, 15, 13⟩ [] htab (fun z hz => by cases List.mem_singleton.mp hz; exact ⟨by decide, by decide, _, m_192, hE.1.2.2⟩) (by decide) (by decide) m_109 m_120 hq1 hq2 hq3 ?_
    refine W.eq (g2 := F0 m 15 ls [.ref q_17]) rfl ?_
    refine lv_astore_n (lv' := [(3, .ref q_17), (0, .ref x), (1, .int k), (2, .ref ol)]) hx hb d_Law_letter_15 rfl hl (by decide) rfl (fun ls hl => ?_)
    refine lv_iconst (v := nI 2) hx hb d_Law_letter_16 (by decide) ?_
    exact hR _ _ 17 _ (nI 2) (n2_3, t2_4, lo) d_Law_letter_17 rfl (Or.inr (Or.inr (⟨rfl, hw_12, hw_13, hw_14, hw_15, rfl⟩))) (hP.sub [1, 2, 3, 0] rfl) (hD.sub [1, 2, 3, 0] (by decide) rfl) hS
abbrev rm_Law_varint : Room := { frames := 7, cells := 1, slots := 6, locals := 103 }
set_option maxHeartbeats 1000000 in
set_option maxRecDepth 100000 in
/-- the law asks varint -/
theorem c_Law_varint (l : Launch) (htr : l.stackTraces = false) (g : pc_G) (x : Nat) (qt : Nat) (kp : Nat) (qo : Nat) (qs : Nat) (qc : Nat) (qn : Nat) (qi : Nat) (r : Nat) (n : Nat) (t : Nat → UInt8) (k : Int32) (ol : Nat) (lo : Nat → Int64) (hn : n ≤ 32768) : pc_X (S := Nat × (Nat → UInt8) × (Nat → Int64)) l y_Law_varint (.codeWith y_Law_varint method_10_code 4 (some .int) [(0, 9, 12, 19), (0, 9, 15, 13)]) (some .int) rm_Law_varint g [(x, .inr (0, [.ref qt, .ref kp, .ref qo, .ref qs, .ref qc, .ref qn, .ref qi])), (qo, .inr (1, [.ref r, .int (nI n)])), (r, .inl (g.2.1, 32768, .inl (bA t))), (ol, .inl (g.2.2.2, 1, .inr (.inl lo)))] [.ref x, .int k, .ref ol] (fun rv u => (rv = .inl (nI 0) ∧ ¬ k < 0 ∧ n + vsz (iN k) ≤ 32768 ∧ u.1 = n + vsz (iN k) ∧ bl u.2.1 u.1 = bl t n ++ vL (iN k) ∧ u.2.2 0 = (nI (vsz (iN k))).toInt64) ∨ (rv = .inl (nI 1) ∧ k < 0 ∧ u.1 = n ∧ u.2.1 = t ∧ u.2.2 = lo) ∨ (rv = .inl (nI 2) ∧ ¬ k < 0 ∧ 32768 < n + vsz (iN k) ∧ u.1 = n ∧ u.2.1 = t ∧ u.2.2 = lo)) (fun u => [(x, .inr (0, [.ref qt, .ref kp, .ref qo, .ref qs, .ref qc, .ref qn, .ref qi])), (qo, .inr (1, [.ref r, .int (nI u.1)])), (r, .inl (g.2.1, 32768, .inl (bA u.2.1))), (ol, .inl (g.2.2.2, 1, .inr (.inl u.2.2)))]) := by
  refine pc_X.of (cc := method_10_code) (nL := 4) (rt := (some .int)) (hh := [(0, 9, 12, 19), (0, 9, 15, 13)]) (by decide) tx_wd.with (by exact Nat.le_of_ble_eq_true rfl) htr ?_
  intro p e s m below meth c A Q hx hb hml hown hE hA htab hR hT hO hP hD ls hl
  have hS : va_S A s.heap s.heap [] := va_S.rf
  have hl : lv_has ls 4 [(0, .ref x), (1, .int k), (2, .ref ol)] := hl
  refine lv_aload_n hx hb d_Law_varint_0 rfl (lv_at hl 2 rfl) ?_
  refine lv_iconst (v := nI 0) hx hb d_Law_varint_1 (by decide) ?_
  refine lv_aload_n hx hb d_Law_varint_2 rfl (lv_at hl 0 rfl) ?_
  refine lv_iload_n hx hb d_Law_varint_3 rfl (lv_at hl 1 rfl) ?_
  refine pc_x (rt := (some .int)) (wc := [(x, .inr (0, [.ref qt, .ref kp, .ref qo, .ref qs, .ref qc, .ref qn, .ref qi])), (qo, .inr (1, [.ref r, .int (nI n)])), (r, .inl (g.2.1, 32768, .inl (bA t)))]) (wr := [(ol, .inl (g.2.2.2, 1, .inr (.inl lo)))]) (cells' := 1) (slots' := 6) hP hD hS hA [0, 1, 2] [3] rfl rfl (by decide) (by decide) rfl rfl (tx_runV (n := 1) (As := [.int k]) (rest := [.int (nI 0), .ref ol]) (C := R_Pk) hE hx hb hml hown (c_Pk_varint l htr g x qt kp qo qs qc qn qi r n t k hn _) (fun U9 hW9 => tx_wd.plain.cd (hE.1.at hW9 m_416 #[])) m_416 m_1 m_413 m_414 m_415 (by decide +kernel) (pc_preV (ci := 0) (q0 := 0) hP hD hE hS hA [0, 1, 2] (by decide) rfl [.int k] rfl rfl) ⟨by exact Nat.le_of_ble_eq_true rfl, by exact Nat.le_of_ble_eq_true rfl⟩ rfl rfl hl.1 rfl (lv_room (by exact Nat.le_of_ble_eq_true rfl)) d_Law_varint_4 ⟨by exact Nat.le_of_ble_eq_true rfl, by exact Nat.le_of_ble_eq_true rfl⟩) (fun r_2 u_1 H locs hw hP hD hS => ?_)
  obtain ⟨n2_3, t2_4⟩ := u_1
  have hP : va_P g.1 pc_cl [(ol, .inl (g.2.2.2, 1, .inr (.inl lo))), (x, .inr (0, [.ref qt, .ref kp, .ref qo, .ref qs, .ref qc, .ref qn, .ref qi])), (qo, .inr (1, [.ref r, .int (nI n2_3)])), (r, .inl (g.2.1, 32768, .inl (bA t2_4)))] H := hP
  have hD : va_D A [(ol, .inl (g.2.2.2, 1, .inr (.inl lo))), (x, .inr (0, [.ref qt, .ref kp, .ref qo, .ref qs, .ref qc, .ref qn, .ref qi])), (qo, .inr (1, [.ref r, .int (nI n2_3)])), (r, .inl (g.2.1, 32768, .inl (bA t2_4)))] := hD
  rcases hw with ⟨rfl, hw_5, hw_6, hw_7, hw_8⟩ | ⟨rfl, hw_9, hw_10, hw_11⟩ | ⟨rfl, hw_12, hw_13, hw_14, hw_15⟩
  · skip
    have hw_5 : ¬ k < 0 := hw_5
    have hw_6 : n + vsz (iN k) ≤ 32768 := hw_6
    have hw_7 : n2_3 = n + vsz (iN k) := hw_7
    have hw_8 : bl t2_4 n2_3 = bl t n ++ vL (iN k) := hw_8
    refine tx_onI ?_
    refine lv_i2l (v := (nI (vsz (iN k))).toInt64) hx hb d_Law_varint_7 rfl ?_
    refine pc_lsto hx hb hE.2.1 hP hD hS 0 2 rfl rfl (by omega) (by omega) d_Law_varint_8 (fun H locs hP hD hS => ?_)
    have hP : va_P g.1 pc_cl [(ol, .inl (g.2.2.2, 1, .inr (.inl (vp_updL lo 0 ((nI (vsz (iN k))).toInt64))))), (x, .inr (0, [.ref qt, .ref kp, .ref qo, .ref qs, .ref qc, .ref qn, .ref qi])), (qo, .inr (1, [.ref r, .int (nI n2_3)])), (r, .inl (g.2.1, 32768, .inl (bA t2_4)))] H := hP
    have hD : va_D A [(ol, .inl (g.2.2.2, 1, .inr (.inl (vp_updL lo 0 ((nI (vsz (iN k))).toInt64))))), (x, .inr (0, [.ref qt, .ref kp, .ref qo, .ref qs, .ref qc, .ref qn, .ref qi])), (qo, .inr (1, [.ref r, .int (nI n2_3)])), (r, .inl (g.2.1, 32768, .inl (bA t2_4)))] := hD
    refine lv_goto (tgt := 18) hx hb d_Law_varint_9 (by decide) ?_
    refine lv_iconst (v := nI 0) hx hb d_Law_varint_18 (by decide) ?_
    exact hR _ _ 19 _ (nI 0) (n2_3, t2_4, vp_updL lo 0 ((nI (vsz (iN k))).toInt64)) d_Law_varint_19 rfl (Or.inl (⟨rfl, hw_5, hw_6, hw_7, hw_8, updL_0 lo _⟩)) (hP.sub [1, 2, 3, 0] rfl) (hD.sub [1, 2, 3, 0] (by decide) rfl) hS
  · skip
    have hw_9 : k < 0 := hw_9
    have hw_10 : n2_3 = n := hw_10
    have hw_11 : t2_4 = t := hw_11
    refine tx_onX (fun q_16 ce hq1 hq2 hq3 => ?_)
    refine tx_catch (name := "java/lang/IllegalArgumentException") (E := "java/lang/IllegalArgumentException") hE hown [] ⟨0, 9, 12, 19⟩ [⟨0, 9, 15, 13⟩] htab (fun z hz => nomatch hz) (by decide) (by decide) m_192 m_199 hq1 hq2 hq3 ?_
    refine W.eq (g2 := F0 m 12 ls [.ref q_16]) rfl ?_
    refine lv_astore_n (lv' := [(3, .ref q_16), (0, .ref x), (1, .int k), (2, .ref ol)]) hx hb d_Law_varint_12 rfl hl (by decide) rfl (fun ls hl => ?_)
    refine lv_iconst (v := nI 1) hx hb d_Law_varint_13 (by decide) ?_
    exact hR _ _ 14 _ (nI 1) (n2_3, t2_4, lo) d_Law_varint_14 rfl (Or.inr (Or.inl (⟨rfl, hw_9, hw_10, hw_11, rfl⟩))) (hP.sub [1, 2, 3, 0] rfl) (hD.sub [1, 2, 3, 0] (by decide) rfl) hS
  · skip
    have hw_12 : ¬ k < 0 := hw_12
    have hw_13 : 32768 < n + vsz (iN k) := hw_13
    have hw_14 : n2_3 = n := hw_14
    have hw_15 : t2_4 = t := hw_15
    refine tx_onX (fun q_17 ce hq1 hq2 hq3 => ?_)
    refine tx_catch (name := "java/lang/IllegalStateException") (E := "java/lang/IllegalStateException") hE hown [⟨0, 9, 12, 19⟩] ⟨0, 9, 15, 13⟩ [] htab (fun z hz => by cases List.mem_singleton.mp hz; exact ⟨by decide, by decide, _, m_192, hE.1.2.2⟩) (by decide) (by decide) m_109 m_120 hq1 hq2 hq3 ?_
    refine W.eq (g2 := F0 m 15 ls [.ref q_17]) rfl ?_
    refine lv_astore_n (lv' := [(3, .ref q_17), (0, .ref x), (1, .int k), (2, .ref ol)]) hx hb d_Law_varint_15 rfl hl (by decide) rfl (fun ls hl => ?_)
    refine lv_iconst (v := nI 2) hx hb d_Law_varint_16 (by decide) ?_
    exact hR _ _ 17 _ (nI 2) (n2_3, t2_4, lo) d_Law_varint_17 rfl (Or.inr (Or.inr (⟨rfl, hw_12, hw_13, hw_14, hw_15, rfl⟩))) (hP.sub [1, 2, 3, 0] rfl) (hD.sub [1, 2, 3, 0] (by decide) rfl) hS
abbrev rm_Law_zigzag : Room := { frames := 7, cells := 1, slots := 6, locals := 102 }
set_option maxHeartbeats 1000000 in
set_option maxRecDepth 100000 in
/-- the law asks zigzag -/
theorem c_Law_zigzag (l : Launch) (htr : l.stackTraces = false) (g : pc_G) (x : Nat) (qt : Nat) (kp : Nat) (qo : Nat) (qs : Nat) (qc : Nat) (qn : Nat) (qi : Nat) (k : Int32) (ol : Nat) (lo : Nat → Int64) : pc_X (S := (Nat → Int64)) l y_Law_zigzag (.codeWith y_Law_zigzag method_11_code 4 (some .int) [(0, 9, 12, 19)]) (some .int) rm_Law_zigzag g [(x, .inr (0, [.ref qt, .ref kp, .ref qo, .ref qs, .ref qc, .ref qn, .ref qi])), (ol, .inl (g.2.2.2, 1, .inr (.inl lo)))] [.ref x, .int k, .ref ol] (fun rv u => (rv = .inl (nI 0) ∧ ¬ k < (-1073741823) ∧ k ≤ nI 1073741823 ∧ ¬ k < 0 ∧ u 0 = (nI 2 * k).toInt64) ∨ (rv = .inl (nI 0) ∧ ¬ k < (-1073741823) ∧ k ≤ nI 1073741823 ∧ k < 0 ∧ u 0 = (((-2) * k) - nI 1).toInt64) ∨ (rv = .inl (nI 1) ∧ (k < (-1073741823) ∨ ¬ k ≤ nI 1073741823) ∧ u = lo)) (fun u => [(x, .inr (0, [.ref qt, .ref kp, .ref qo, .ref qs, .ref qc, .ref qn, .ref qi])), (ol, .inl (g.2.2.2, 1, .inr (.inl u)))]) := by
  refine pc_X.of (cc := method_11_code) (nL := 4) (rt := (some .int)) (hh := [(0, 9, 12, 19)]) (by decide) tx_wd.with (by exact Nat.le_of_ble_eq_true rfl) htr ?_
  intro p e s m below meth c A Q hx hb hml hown hE hA htab hR hT hO hP hD ls hl
  have hS : va_S A s.heap s.heap [] := va_S.rf
  have hl : lv_has ls 4 [(0, .ref x), (1, .int k), (2, .ref ol)] := hl
  refine lv_aload_n hx hb d_Law_zigzag_0 rfl (lv_at hl 2 rfl) ?_
  refine lv_iconst (v := nI 0) hx hb d_Law_zigzag_1 (by decide) ?_
  refine lv_aload_n hx hb d_Law_zigzag_2 rfl (lv_at hl 0 rfl) ?_
  refine lv_iload_n hx hb d_Law_zigzag_3 rfl (lv_at hl 1 rfl) ?_
  refine pc_x (rt := (some .int)) (wc := []) (wr := [(x, .inr (0, [.ref qt, .ref kp, .ref qo, .ref qs, .ref qc, .ref qn, .ref qi])), (ol, .inl (g.2.2.2, 1, .inr (.inl lo)))]) (cells' := 1) (slots' := 6) hP hD hS hA [] [0, 1] rfl rfl (by decide) (by decide) rfl rfl (tx_runV (n := 1) (As := [.int k]) (rest := [.int (nI 0), .ref ol]) (C := R_Pk) hE hx hb hml hown (c_Pk_zigzag l htr g x k _) (fun U9 hW9 => tx_wd.plain.cd (hE.1.at hW9 m_425 #[])) m_425 m_1 m_422 m_423 m_424 (by decide +kernel) (pc_preV (ci := 0) (q0 := 0) hP hD hE hS hA [] (by decide) rfl [.int k] rfl rfl) ⟨by exact Nat.le_of_ble_eq_true rfl, by exact Nat.le_of_ble_eq_true rfl⟩ rfl rfl hl.1 rfl (lv_room (by exact Nat.le_of_ble_eq_true rfl)) d_Law_zigzag_4 ⟨by exact Nat.le_of_ble_eq_true rfl, by exact Nat.le_of_ble_eq_true rfl⟩) (fun r_2 u_1 H locs hw hP hD hS => ?_)
  have hP : va_P g.1 pc_cl [(x, .inr (0, [.ref qt, .ref kp, .ref qo, .ref qs, .ref qc, .ref qn, .ref qi])), (ol, .inl (g.2.2.2, 1, .inr (.inl lo)))] H := hP
  have hD : va_D A [(x, .inr (0, [.ref qt, .ref kp, .ref qo, .ref qs, .ref qc, .ref qn, .ref qi])), (ol, .inl (g.2.2.2, 1, .inr (.inl lo)))] := hD
  rcases hw with ⟨rfl, hw_3, hw_4, hw_5⟩ | ⟨rfl, hw_6, hw_7, hw_8⟩ | ⟨rfl, hw_9⟩
  · skip
    have hw_3 : ¬ k < (-1073741823) := hw_3
    have hw_4 : k ≤ nI 1073741823 := hw_4
    have hw_5 : ¬ k < 0 := hw_5
    refine tx_onI ?_
    refine lv_i2l (v := (nI 2 * k).toInt64) hx hb d_Law_zigzag_7 rfl ?_
    refine pc_lsto hx hb hE.2.1 hP hD hS 1 2 rfl rfl (by omega) (by omega) d_Law_zigzag_8 (fun H locs hP hD hS => ?_)
    have hP : va_P g.1 pc_cl [(x, .inr (0, [.ref qt, .ref kp, .ref qo, .ref qs, .ref qc, .ref qn, .ref qi])), (ol, .inl (g.2.2.2, 1, .inr (.inl (vp_updL lo 0 ((nI 2 * k).toInt64)))))] H := hP
    have hD : va_D A [(x, .inr (0, [.ref qt, .ref kp, .ref qo, .ref qs, .ref qc, .ref qn, .ref qi])), (ol, .inl (g.2.2.2, 1, .inr (.inl (vp_updL lo 0 ((nI 2 * k).toInt64)))))] := hD
    refine lv_goto (tgt := 15) hx hb d_Law_zigzag_9 (by decide) ?_
    refine lv_iconst (v := nI 0) hx hb d_Law_zigzag_15 (by decide) ?_
    exact hR _ _ 16 _ (nI 0) (vp_updL lo 0 ((nI 2 * k).toInt64)) d_Law_zigzag_16 rfl (Or.inl (⟨rfl, hw_3, hw_4, hw_5, updL_0 lo _⟩)) (hP.sub [0, 1] rfl) (hD.sub [0, 1] (by decide) rfl) hS
  · skip
    have hw_6 : ¬ k < (-1073741823) := hw_6
    have hw_7 : k ≤ nI 1073741823 := hw_7
    have hw_8 : k < 0 := hw_8
    refine tx_onI ?_
    refine lv_i2l (v := (((-2) * k) - nI 1).toInt64) hx hb d_Law_zigzag_7 rfl ?_
    refine pc_lsto hx hb hE.2.1 hP hD hS 1 2 rfl rfl (by omega) (by omega) d_Law_zigzag_8 (fun H locs hP hD hS => ?_)
    have hP : va_P g.1 pc_cl [(x, .inr (0, [.ref qt, .ref kp, .ref qo, .ref qs, .ref qc, .ref qn, .ref qi])), (ol, .inl (g.2.2.2, 1, .inr (.inl (vp_updL lo 0 ((((-2) * k) - nI 1).toInt64)))))] H := hP
    have hD : va_D A [(x, .inr (0, [.ref qt, .ref kp, .ref qo, .ref qs, .ref qc, .ref qn, .ref qi])), (ol, .inl (g.2.2.2, 1, .inr (.inl (vp_updL lo 0 ((((-2) * k) - nI 1).toInt64)))))] := hD
    refine lv_goto (tgt := 15) hx hb d_Law_zigzag_9 (by decide) ?_
    refine lv_iconst (v := nI 0) hx hb d_Law_zigzag_15 (by decide) ?_
    exact hR _ _ 16 _ (nI 0) (vp_updL lo 0 ((((-2) * k) - nI 1).toInt64)) d_Law_zigzag_16 rfl (Or.inr (Or.inl (⟨rfl, hw_6, hw_7, hw_8, updL_0 lo _⟩))) (hP.sub [0, 1] rfl) (hD.sub [0, 1] (by decide) rfl) hS
  · skip
    have hw_9 : k < (-1073741823) ∨ ¬ k ≤ nI 1073741823 := hw_9
    refine tx_onX (fun q_10 ce hq1 hq2 hq3 => ?_)
    refine tx_catch (name := "java/lang/IllegalArgumentException") (E := "java/lang/IllegalArgumentException") hE hown [] ⟨0, 9, 12, 19⟩ [] htab (fun z hz => nomatch hz) (by decide) (by decide) m_192 m_199 hq1 hq2 hq3 ?_
    refine W.eq (g2 := F0 m 12 ls [.ref q_10]) rfl ?_
    refine lv_astore_n (lv' := [(3, .ref q_10), (0, .ref x), (1, .int k), (2, .ref ol)]) hx hb d_Law_zigzag_12 rfl hl (by decide) rfl (fun ls hl => ?_)
    refine lv_iconst (v := nI 1) hx hb d_Law_zigzag_13 (by decide) ?_
    exact hR _ _ 14 _ (nI 1) lo d_Law_zigzag_14 rfl (Or.inr (Or.inr (⟨rfl, hw_9, rfl⟩))) (hP.sub [0, 1] rfl) (hD.sub [0, 1] (by decide) rfl) hS
abbrev rm_Law_unzigzag : Room := { frames := 7, cells := 1, slots := 6, locals := 102 }
set_option maxHeartbeats 1000000 in
set_option maxRecDepth 100000 in
/-- the law asks unzigzag -/
theorem c_Law_unzigzag (l : Launch) (htr : l.stackTraces = false) (g : pc_G) (x : Nat) (qt : Nat) (kp : Nat) (qo : Nat) (qs : Nat) (qc : Nat) (qn : Nat) (qi : Nat) (k : Int32) (ol : Nat) (lo : Nat → Int64) : pc_X (S := (Nat → Int64)) l y_Law_unzigzag (.codeWith y_Law_unzigzag method_12_code 4 (some .int) [(0, 9, 12, 19)]) (some .int) rm_Law_unzigzag g [(x, .inr (0, [.ref qt, .ref kp, .ref qo, .ref qs, .ref qc, .ref qn, .ref qi])), (ol, .inl (g.2.2.2, 1, .inr (.inl lo)))] [.ref x, .int k, .ref ol] (fun rv u => (rv = .inl (nI 0) ∧ ¬ k < 0 ∧ iN k % 2 = 0 ∧ u 0 = (nI (iN k / 2)).toInt64) ∨ (rv = .inl (nI 0) ∧ ¬ k < 0 ∧ iN k % 2 ≠ 0 ∧ u 0 = ((-(nI (iN k / 2))) - nI 1).toInt64) ∨ (rv = .inl (nI 1) ∧ k < 0 ∧ u = lo)) (fun u => [(x, .inr (0, [.ref qt, .ref kp, .ref qo, .ref qs, .ref qc, .ref qn, .ref qi])), (ol, .inl (g.2.2.2, 1, .inr (.inl u)))]) := by
  refine pc_X.of (cc := method_12_code) (nL := 4) (rt := (some .int)) (hh := [(0, 9, 12, 19)]) (by decide) tx_wd.with (by exact Nat.le_of_ble_eq_true rfl) htr ?_
  intro p e s m below meth c A Q hx hb hml hown hE hA htab hR hT hO hP hD ls hl
  have hS : va_S A s.heap s.heap [] := va_S.rf
  have hl : lv_has ls 4 [(0, .ref x), (1, .int k), (2, .ref ol)] := hl
  refine lv_aload_n hx hb d_Law_unzigzag_0 rfl (lv_at hl 2 rfl) ?_
  refine lv_iconst (v := nI 0) hx hb d_Law_unzigzag_1 (by decide) ?_
  refine lv_aload_n hx hb d_Law_unzigzag_2 rfl (lv_at hl 0 rfl) ?_
  refine lv_iload_n hx hb d_Law_unzigzag_3 rfl (lv_at hl 1 rfl) ?_
  refine pc_x (rt := (some .int)) (wc := []) (wr := [(x, .inr (0, [.ref qt, .ref kp, .ref qo, .ref qs, .ref qc, .ref qn, .ref qi])), (ol, .inl (g.2.2.2, 1, .inr (.inl lo)))]) (cells' := 1) (slots' := 6) hP hD hS hA [] [0, 1] rfl rfl (by decide) (by decide) rfl rfl (tx_runV (n := 1) (As := [.int k]) (rest := [.int (nI 0), .ref ol]) (C := R_Pk) hE hx hb hml hown (c_Pk_unzigzag l htr g x k _) (fun U9 hW9 => tx_wd.plain.cd (hE.1.at hW9 m_434 #[])) m_434 m_1 m_431 m_432 m_433 (by decide +kernel) (pc_preV (ci := 0) (q0 := 0) hP hD hE hS hA [] (by decide) rfl [.int k] rfl rfl) ⟨by exact Nat.le_of_ble_eq_true rfl, by exact Nat.le_of_ble_eq_true rfl⟩ rfl rfl hl.1 rfl (lv_room (by exact Nat.le_of_ble_eq_true rfl)) d_Law_unzigzag_4 ⟨by exact Nat.le_of_ble_eq_true rfl, by exact Nat.le_of_ble_eq_true rfl⟩) (fun r_2 u_1 H locs hw hP hD hS => ?_)
  have hP : va_P g.1 pc_cl [(x, .inr (0, [.ref qt, .ref kp, .ref qo, .ref qs, .ref qc, .ref qn, .ref qi])), (ol, .inl (g.2.2.2, 1, .inr (.inl lo)))] H := hP
  have hD : va_D A [(x, .inr (0, [.ref qt, .ref kp, .ref qo, .ref qs, .ref qc, .ref qn, .ref qi])), (ol, .inl (g.2.2.2, 1, .inr (.inl lo)))] := hD
  rcases hw with ⟨rfl, hw_3, hw_4⟩ | ⟨rfl, hw_5, hw_6⟩ | ⟨rfl, hw_7⟩
  · skip
    have hw_3 : ¬ k < 0 := hw_3
    have hw_4 : iN k % 2 = 0 := hw_4
    refine tx_onI ?_
    refine lv_i2l (v := (nI (iN k / 2)).toInt64) hx hb d_Law_unzigzag_7 rfl ?_
    refine pc_lsto hx hb hE.2.1 hP hD hS 1 2 rfl rfl (by omega) (by omega) d_Law_unzigzag_8 (fun H locs hP hD hS => ?_)
    have hP : va_P g.1 pc_cl [(x, .inr (0, [.ref qt, .ref kp, .ref qo, .ref qs, .ref qc, .ref qn, .ref qi])), (ol, .inl (g.2.2.2, 1, .inr (.inl (vp_updL lo 0 ((nI (iN k / 2)).toInt64)))))] H := hP
    have hD : va_D A [(x, .inr (0, [.ref qt, .ref kp, .ref qo, .ref qs, .ref qc, .ref qn, .ref qi])), (ol, .inl (g.2.2.2, 1, .inr (.inl (vp_updL lo 0 ((nI (iN k / 2)).toInt64)))))] := hD
    refine lv_goto (tgt := 15) hx hb d_Law_unzigzag_9 (by decide) ?_
    refine lv_iconst (v := nI 0) hx hb d_Law_unzigzag_15 (by decide) ?_
    exact hR _ _ 16 _ (nI 0) (vp_updL lo 0 ((nI (iN k / 2)).toInt64)) d_Law_unzigzag_16 rfl (Or.inl (⟨rfl, hw_3, hw_4, updL_0 lo _⟩)) (hP.sub [0, 1] rfl) (hD.sub [0, 1] (by decide) rfl) hS
  · skip
    have hw_5 : ¬ k < 0 := hw_5
    have hw_6 : iN k % 2 ≠ 0 := hw_6
    refine tx_onI ?_
    refine lv_i2l (v := ((-(nI (iN k / 2))) - nI 1).toInt64) hx hb d_Law_unzigzag_7 rfl ?_
    refine pc_lsto hx hb hE.2.1 hP hD hS 1 2 rfl rfl (by omega) (by omega) d_Law_unzigzag_8 (fun H locs hP hD hS => ?_)
    have hP : va_P g.1 pc_cl [(x, .inr (0, [.ref qt, .ref kp, .ref qo, .ref qs, .ref qc, .ref qn, .ref qi])), (ol, .inl (g.2.2.2, 1, .inr (.inl (vp_updL lo 0 (((-(nI (iN k / 2))) - nI 1).toInt64)))))] H := hP
    have hD : va_D A [(x, .inr (0, [.ref qt, .ref kp, .ref qo, .ref qs, .ref qc, .ref qn, .ref qi])), (ol, .inl (g.2.2.2, 1, .inr (.inl (vp_updL lo 0 (((-(nI (iN k / 2))) - nI 1).toInt64)))))] := hD
    refine lv_goto (tgt := 15) hx hb d_Law_unzigzag_9 (by decide) ?_
    refine lv_iconst (v := nI 0) hx hb d_Law_unzigzag_15 (by decide) ?_
    exact hR _ _ 16 _ (nI 0) (vp_updL lo 0 (((-(nI (iN k / 2))) - nI 1).toInt64)) d_Law_unzigzag_16 rfl (Or.inr (Or.inl (⟨rfl, hw_5, hw_6, updL_0 lo _⟩))) (hP.sub [0, 1] rfl) (hD.sub [0, 1] (by decide) rfl) hS
  · skip
    have hw_7 : k < 0 := hw_7
    refine tx_onX (fun q_8 ce hq1 hq2 hq3 => ?_)
    refine tx_catch (name := "java/lang/IllegalArgumentException") (E := "java/lang/IllegalArgumentException") hE hown [] ⟨0, 9, 12, 19⟩ [] htab (fun z hz => nomatch hz) (by decide) (by decide) m_192 m_199 hq1 hq2 hq3 ?_
    refine W.eq (g2 := F0 m 12 ls [.ref q_8]) rfl ?_
    refine lv_astore_n (lv' := [(3, .ref q_8), (0, .ref x), (1, .int k), (2, .ref ol)]) hx hb d_Law_unzigzag_12 rfl hl (by decide) rfl (fun ls hl => ?_)
    refine lv_iconst (v := nI 1) hx hb d_Law_unzigzag_13 (by decide) ?_
    exact hR _ _ 14 _ (nI 1) lo d_Law_unzigzag_14 rfl (Or.inr (Or.inr (⟨rfl, hw_7, rfl⟩))) (hP.sub [0, 1] rfl) (hD.sub [0, 1] (by decide) rfl) hS
abbrev rm_Law_numbers : Room := { frames := 7, cells := 2, slots := 8, locals := 110 }
set_option maxHeartbeats 1000000 in
set_option maxRecDepth 100000 in
/-- the law asks numbers -/
theorem c_Law_numbers (l : Launch) (htr : l.stackTraces = false) (g : pc_G) (x : Nat) (qt : Nat) (kp : Nat) (qo : Nat) (qs : Nat) (qc : Nat) (qn : Nat) (qi : Nat) (r : Nat) (n : Nat) (t : Nat → UInt8) (ri : Nat) (ni : Int32) (fi : Nat → Int32) (ol : Nat) (lo : Nat → Int64) (hn : n ≤ 32768) : pc_X (S := Nat × (Nat → Int32) × Nat × Nat × (Nat → Int64)) l y_Law_numbers (.codeWith y_Law_numbers method_13_code 3 (some .int) [(0, 8, 11, 19)]) (some .int) rm_Law_numbers g [(x, .inr (0, [.ref qt, .ref kp, .ref qo, .ref qs, .ref qc, .ref qn, .ref qi])), (qt, .inr (1, [.ref r, .int (nI n)])), (r, .inl (g.2.1, 32768, .inl (bA t))), (qi, .inr (2, [.ref ri, .int ni])), (ri, .inl (g.2.2.1, 32768, .inl fi)), (ol, .inl (g.2.2.2, 1, .inr (.inl lo)))] [.ref x, .ref ol] (fun rv u => (rv = .inl (nI 0) ∧ (∃ ns : List Nat, numsA (bl t n) (n + 1) 0 [] = some ns ∧ u.1 = ns.length ∧ u.1 ≤ 32768 ∧ ∀ j, j < u.1 → u.2.1 j = nI (ns.getD j 0)) ∧ u.2.2.1 = qi ∧ u.2.2.2.1 = qn ∧ u.2.2.2.2 0 = (nI u.1).toInt64) ∨ (rv = .inl (nI 1) ∧ numsA (bl t n) (n + 1) 0 [] = none ∧ u.2.2.1 = qn ∧ u.2.2.2.1 = qi ∧ u.2.2.2.2 = lo)) (fun u => [(x, .inr (0, [.ref qt, .ref kp, .ref qo, .ref qs, .ref qc, .ref u.2.2.1, .ref u.2.2.2.1])), (qt, .inr (1, [.ref r, .int (nI 0)])), (r, .inl (g.2.1, 32768, .inl (bA t))), (qi, .inr (2, [.ref ri, .int (nI u.1)])), (ri, .inl (g.2.2.1, 32768, .inl u.2.1)), (ol, .inl (g.2.2.2, 1, .inr (.inl u.2.2.2.2)))]) := by
  refine pc_X.of (cc := method_13_code) (nL := 3) (rt := (some .int)) (hh := [(0, 8, 11, 19)]) (by decide) tx_wd.with (by exact Nat.le_of_ble_eq_true rfl) htr ?_
  intro p e s m below meth c A Q hx hb hml hown hE hA htab hR hT hO hP hD ls hl
  have hS : va_S A s.heap s.heap [] := va_S.rf
  have hl : lv_has ls 3 [(0, .ref x), (1, .ref ol)] := hl
  refine lv_aload_n hx hb d_Law_numbers_0 rfl (lv_at hl 1 rfl) ?_
  refine lv_iconst (v := nI 0) hx hb d_Law_numbers_1 (by decide) ?_
  refine lv_aload_n hx hb d_Law_numbers_2 rfl (lv_at hl 0 rfl) ?_
  refine pc_x (rt := (some .int)) (wc := [(x, .inr (0, [.ref qt, .ref kp, .ref qo, .ref qs, .ref qc, .ref qn, .ref qi])), (qt, .inr (1, [.ref r, .int (nI n)])), (r, .inl (g.2.1, 32768, .inl (bA t))), (qi, .inr (2, [.ref ri, .int ni])), (ri, .inl (g.2.2.1, 32768, .inl fi))]) (wr := [(ol, .inl (g.2.2.2, 1, .inr (.inl lo)))]) (cells' := 2) (slots' := 8) hP hD hS hA [0, 1, 2, 3, 4] [5] rfl rfl (by decide) (by decide) rfl rfl (tx_runV (n := 0) (As := []) (rest := [.int (nI 0), .ref ol]) (C := R_Pk) hE hx hb hml hown (c_Pk_numbers l htr g x qt kp qo qs qc qn qi r n t ri ni fi hn _) (fun U9 hW9 => tx_wd.plain.cd (hE.1.at hW9 m_441 #[])) m_441 m_1 m_438 m_439 m_440 (by decide +kernel) (pc_preV (ci := 0) (q0 := 0) hP hD hE hS hA [0, 1, 2, 3, 4] (by decide) rfl [] rfl rfl) ⟨by exact Nat.le_of_ble_eq_true rfl, by exact Nat.le_of_ble_eq_true rfl⟩ rfl rfl hl.1 rfl (lv_room (by exact Nat.le_of_ble_eq_true rfl)) d_Law_numbers_3 ⟨by exact Nat.le_of_ble_eq_true rfl, by exact Nat.le_of_ble_eq_true rfl⟩) (fun r_2 u_1 H locs hw hP hD hS => ?_)
  obtain ⟨n3_3, f3_4, qc2_5, qi2_6⟩ := u_1
  have hP : va_P g.1 pc_cl [(ol, .inl (g.2.2.2, 1, .inr (.inl lo))), (x, .inr (0, [.ref qt, .ref kp, .ref qo, .ref qs, .ref qc, .ref qc2_5, .ref qi2_6])), (qt, .inr (1, [.ref r, .int (nI 0)])), (r, .inl (g.2.1, 32768, .inl (bA t))), (qi, .inr (2, [.ref ri, .int (nI n3_3)])), (ri, .inl (g.2.2.1, 32768, .inl f3_4))] H := hP
  have hD : va_D A [(ol, .inl (g.2.2.2, 1, .inr (.inl lo))), (x, .inr (0, [.ref qt, .ref kp, .ref qo, .ref qs, .ref qc, .ref qc2_5, .ref qi2_6])), (qt, .inr (1, [.ref r, .int (nI 0)])), (r, .inl (g.2.1, 32768, .inl (bA t))), (qi, .inr (2, [.ref ri, .int (nI n3_3)])), (ri, .inl (g.2.2.1, 32768, .inl f3_4))] := hD
  rcases hw with ⟨rfl, hw_7, hw_8, hw_9⟩ | ⟨rfl, hw_10, hw_11, hw_12⟩
  · skip
    have hw_7 : ∃ ns : List Nat, numsA (bl t n) (n + 1) 0 [] = some ns ∧ n3_3 = ns.length ∧ n3_3 ≤ 32768 ∧ ∀ j, j < n3_3 → f3_4 j = nI (ns.getD j 0) := hw_7
    have hw_8 : qc2_5 = qi := hw_8
    have hw_9 : qi2_6 = qn := hw_9
    refine tx_onI ?_
    refine lv_i2l (v := (nI n3_3).toInt64) hx hb d_Law_numbers_6 rfl ?_
    refine pc_lsto hx hb hE.2.1 hP hD hS 0 2 rfl rfl (by omega) (by omega) d_Law_numbers_7 (fun H locs hP hD hS => ?_)
    have hP : va_P g.1 pc_cl [(ol, .inl (g.2.2.2, 1, .inr (.inl (vp_updL lo 0 ((nI n3_3).toInt64))))), (x, .inr (0, [.ref qt, .ref kp, .ref qo, .ref qs, .ref qc, .ref qc2_5, .ref qi2_6])), (qt, .inr (1, [.ref r, .int (nI 0)])), (r, .inl (g.2.1, 32768, .inl (bA t))), (qi, .inr (2, [.ref ri, .int (nI n3_3)])), (ri, .inl (g.2.2.1, 32768, .inl f3_4))] H := hP
    have hD : va_D A [(ol, .inl (g.2.2.2, 1, .inr (.inl (vp_updL lo 0 ((nI n3_3).toInt64))))), (x, .inr (0, [.ref qt, .ref kp, .ref qo, .ref qs, .ref qc, .ref qc2_5, .ref qi2_6])), (qt, .inr (1, [.ref r, .int (nI 0)])), (r, .inl (g.2.1, 32768, .inl (bA t))), (qi, .inr (2, [.ref ri, .int (nI n3_3)])), (ri, .inl (g.2.2.1, 32768, .inl f3_4))] := hD
    refine lv_goto (tgt := 14) hx hb d_Law_numbers_8 (by decide) ?_
    refine lv_iconst (v := nI 0) hx hb d_Law_numbers_14 (by decide) ?_
    exact hR _ _ 15 _ (nI 0) (n3_3, f3_4, qc2_5, qi2_6, vp_updL lo 0 ((nI n3_3).toInt64)) d_Law_numbers_15 rfl (Or.inl (⟨rfl, hw_7, hw_8, hw_9, updL_0 lo _⟩)) (hP.sub [1, 2, 3, 4, 5, 0] rfl) (hD.sub [1, 2, 3, 4, 5, 0] (by decide) rfl) hS
  · skip
    have hw_10 : numsA (bl t n) (n + 1) 0 [] = none := hw_10
    have hw_11 : qc2_5 = qn := hw_11
    have hw_12 : qi2_6 = qi := hw_12
    refine tx_onX (fun q_13 ce hq1 hq2 hq3 => ?_)
    refine tx_catch (name := "java/lang/IllegalArgumentException") (E := "java/lang/IllegalArgumentException") hE hown [] ⟨0, 8, 11, 19⟩ [] htab (fun z hz => nomatch hz) (by decide) (by decide) m_192 m_199 hq1 hq2 hq3 ?_
    refine W.eq (g2 := F0 m 11 ls [.ref q_13]) rfl ?_
    refine lv_astore_n (lv' := [(2, .ref q_13), (0, .ref x), (1, .ref ol)]) hx hb d_Law_numbers_11 rfl hl (by decide) rfl (fun ls hl => ?_)
    refine lv_iconst (v := nI 1) hx hb d_Law_numbers_12 (by decide) ?_
    exact hR _ _ 13 _ (nI 1) (n3_3, f3_4, qc2_5, qi2_6, lo) d_Law_numbers_13 rfl (Or.inr (⟨rfl, hw_10, hw_11, hw_12, rfl⟩)) (hP.sub [1, 2, 3, 4, 5, 0] rfl) (hD.sub [1, 2, 3, 4, 5, 0] (by decide) rfl) hS
abbrev rm_Law_number : Room := { frames := 7, cells := 1, slots := 6, locals := 102 }
set_option maxHeartbeats 1000000 in
set_option maxRecDepth 100000 in
/-- the law asks number -/
theorem c_Law_number (l : Launch) (htr : l.stackTraces = false) (g : pc_G) (x : Nat) (qt : Nat) (kp : Nat) (qo : Nat) (qs : Nat) (qc : Nat) (qn : Nat) (qi : Nat) (rc : Nat) (n : Nat) (f : Nat → Int32) (k : Int32) (ol : Nat) (lo : Nat → Int64) (hn : n ≤ 32768) : pc_X (S := (Nat → Int64)) l y_Law_number (.codeWith y_Law_number method_14_code 4 (some .int) [(0, 9, 12, 34)]) (some .int) rm_Law_number g [(x, .inr (0, [.ref qt, .ref kp, .ref qo, .ref qs, .ref qc, .ref qn, .ref qi])), (qn, .inr (2, [.ref rc, .int (nI n)])), (rc, .inl (g.2.2.1, 32768, .inl f)), (ol, .inl (g.2.2.2, 1, .inr (.inl lo)))] [.ref x, .int k, .ref ol] (fun rv u => (rv = .inl (nI 0) ∧ ¬ k < 0 ∧ iN k < n ∧ u 0 = (f (iN k)).toInt64) ∨ (rv = .inl (nI 1) ∧ (k < 0 ∨ n ≤ iN k) ∧ u = lo)) (fun u => [(x, .inr (0, [.ref qt, .ref kp, .ref qo, .ref qs, .ref qc, .ref qn, .ref qi])), (qn, .inr (2, [.ref rc, .int (nI n)])), (rc, .inl (g.2.2.1, 32768, .inl f)), (ol, .inl (g.2.2.2, 1, .inr (.inl u)))]) := by
  refine pc_X.of (cc := method_14_code) (nL := 4) (rt := (some .int)) (hh := [(0, 9, 12, 34)]) (by decide) tx_wd.with (by exact Nat.le_of_ble_eq_true rfl) htr ?_
  intro p e s m below meth c A Q hx hb hml hown hE hA htab hR hT hO hP hD ls hl
  have hS : va_S A s.heap s.heap [] := va_S.rf
  have hl : lv_has ls 4 [(0, .ref x), (1, .int k), (2, .ref ol)] := hl
  refine lv_aload_n hx hb d_Law_number_0 rfl (lv_at hl 2 rfl) ?_
  refine lv_iconst (v := nI 0) hx hb d_Law_number_1 (by decide) ?_
  refine lv_aload_n hx hb d_Law_number_2 rfl (lv_at hl 0 rfl) ?_
  refine lv_iload_n hx hb d_Law_number_3 rfl (lv_at hl 1 rfl) ?_
  refine pc_x (rt := (some .int)) (wc := [(x, .inr (0, [.ref qt, .ref kp, .ref qo, .ref qs, .ref qc, .ref qn, .ref qi])), (qn, .inr (2, [.ref rc, .int (nI n)])), (rc, .inl (g.2.2.1, 32768, .inl f))]) (wr := [(ol, .inl (g.2.2.2, 1, .inr (.inl lo)))]) (cells' := 1) (slots' := 6) hP hD hS hA [0, 1, 2] [3] rfl rfl (by decide) (by decide) rfl rfl (tx_runV (n := 1) (As := [.int k]) (rest := [.int (nI 0), .ref ol]) (C := R_Pk) hE hx hb hml hown (c_Pk_number l htr g x qt kp qo qs qc qn qi rc n f k hn _) (fun U9 hW9 => tx_wd.plain.cd (hE.1.at hW9 m_453 #[])) m_453 m_1 m_450 m_451 m_452 (by decide +kernel) (pc_preV (ci := 0) (q0 := 0) hP hD hE hS hA [0, 1, 2] (by decide) rfl [.int k] rfl rfl) ⟨by exact Nat.le_of_ble_eq_true rfl, by exact Nat.le_of_ble_eq_true rfl⟩ rfl rfl hl.1 rfl (lv_room (by exact Nat.le_of_ble_eq_true rfl)) d_Law_number_4 ⟨by exact Nat.le_of_ble_eq_true rfl, by exact Nat.le_of_ble_eq_true rfl⟩) (fun r_2 u_1 H locs hw hP hD hS => ?_)
  have hP : va_P g.1 pc_cl [(ol, .inl (g.2.2.2, 1, .inr (.inl lo))), (x, .inr (0, [.ref qt, .ref kp, .ref qo, .ref qs, .ref qc, .ref qn, .ref qi])), (qn, .inr (2, [.ref rc, .int (nI n)])), (rc, .inl (g.2.2.1, 32768, .inl f))] H := hP
  have hD : va_D A [(ol, .inl (g.2.2.2, 1, .inr (.inl lo))), (x, .inr (0, [.ref qt, .ref kp, .ref qo, .ref qs, .ref qc, .ref qn, .ref qi])), (qn, .inr (2, [.ref rc, .int (nI n)])), (rc, .inl (g.2.2.1, 32768, .inl f))] := hD
  rcases hw with ⟨rfl, hw_3, hw_4⟩ | ⟨rfl, hw_5⟩
  · skip
    have hw_3 : ¬ k < 0 := hw_3
    have hw_4 : iN k < n := hw_4
    refine tx_onI ?_
    refine lv_i2l (v := (f (iN k)).toInt64) hx hb d_Law_number_7 rfl ?_
    refine pc_lsto hx hb hE.2.1 hP hD hS 0 2 rfl rfl (by omega) (by omega) d_Law_number_8 (fun H locs hP hD hS => ?_)
    have hP : va_P g.1 pc_cl [(ol, .inl (g.2.2.2, 1, .inr (.inl (vp_updL lo 0 ((f (iN k)).toInt64))))), (x, .inr (0, [.ref qt, .ref kp, .ref qo, .ref qs, .ref qc, .ref qn, .ref qi])), (qn, .inr (2, [.ref rc, .int (nI n)])), (rc, .inl (g.2.2.1, 32768, .inl f))] H := hP
    have hD : va_D A [(ol, .inl (g.2.2.2, 1, .inr (.inl (vp_updL lo 0 ((f (iN k)).toInt64))))), (x, .inr (0, [.ref qt, .ref kp, .ref qo, .ref qs, .ref qc, .ref qn, .ref qi])), (qn, .inr (2, [.ref rc, .int (nI n)])), (rc, .inl (g.2.2.1, 32768, .inl f))] := hD
    refine lv_goto (tgt := 15) hx hb d_Law_number_9 (by decide) ?_
    refine lv_iconst (v := nI 0) hx hb d_Law_number_15 (by decide) ?_
    exact hR _ _ 16 _ (nI 0) (vp_updL lo 0 ((f (iN k)).toInt64)) d_Law_number_16 rfl (Or.inl (⟨rfl, hw_3, hw_4, updL_0 lo _⟩)) (hP.sub [1, 2, 3, 0] rfl) (hD.sub [1, 2, 3, 0] (by decide) rfl) hS
  · skip
    have hw_5 : k < 0 ∨ n ≤ iN k := hw_5
    refine tx_onX (fun q_6 ce hq1 hq2 hq3 => ?_)
    refine tx_catch (name := "java/util/NoSuchElementException") (E := "java/util/NoSuchElementException") hE hown [] ⟨0, 9, 12, 34⟩ [] htab (fun z hz => nomatch hz) (by decide) (by decide) m_375 m_382 hq1 hq2 hq3 ?_
    refine W.eq (g2 := F0 m 12 ls [.ref q_6]) rfl ?_
    refine lv_astore_n (lv' := [(3, .ref q_6), (0, .ref x), (1, .int k), (2, .ref ol)]) hx hb d_Law_number_12 rfl hl (by decide) rfl (fun ls hl => ?_)
    refine lv_iconst (v := nI 1) hx hb d_Law_number_13 (by decide) ?_
    exact hR _ _ 14 _ (nI 1) lo d_Law_number_14 rfl (Or.inr (⟨rfl, hw_5, rfl⟩)) (hP.sub [1, 2, 3, 0] rfl) (hD.sub [1, 2, 3, 0] (by decide) rfl) hS
abbrev rm_Law_checksum : Room := { frames := 7, cells := 1, slots := 6, locals := 102 }
set_option maxHeartbeats 1000000 in
set_option maxRecDepth 100000 in
/-- the law asks checksum -/
theorem c_Law_checksum (l : Launch) (htr : l.stackTraces = false) (g : pc_G) (x : Nat) (qt : Nat) (kp : Nat) (qo : Nat) (qs : Nat) (qc : Nat) (qn : Nat) (qi : Nat) (r : Nat) (n : Nat) (t : Nat → UInt8) (k : Int32) (ol : Nat) (lo : Nat → Int64) (hn : n ≤ 32768) : pc_X (S := (Nat → Int64)) l y_Law_checksum (.codeWith y_Law_checksum method_15_code 4 (some .int) [(0, 9, 12, 19)]) (some .int) rm_Law_checksum g [(x, .inr (0, [.ref qt, .ref kp, .ref qo, .ref qs, .ref qc, .ref qn, .ref qi])), (qo, .inr (1, [.ref r, .int (nI n)])), (r, .inl (g.2.1, 32768, .inl (bA t))), (ol, .inl (g.2.2.2, 1, .inr (.inl lo)))] [.ref x, .int k, .ref ol] (fun rv u => (rv = .inl (nI 0) ∧ ¬ k < 0 ∧ iN k ≤ n ∧ u 0 = (cF t (iN k) ^^^ (-1)).toInt64) ∨ (rv = .inl (nI 1) ∧ (k < 0 ∨ n < iN k) ∧ u = lo)) (fun u => [(x, .inr (0, [.ref qt, .ref kp, .ref qo, .ref qs, .ref qc, .ref qn, .ref qi])), (qo, .inr (1, [.ref r, .int (nI n)])), (r, .inl (g.2.1, 32768, .inl (bA t))), (ol, .inl (g.2.2.2, 1, .inr (.inl u)))]) := by
  refine pc_X.of (cc := method_15_code) (nL := 4) (rt := (some .int)) (hh := [(0, 9, 12, 19)]) (by decide) tx_wd.with (by exact Nat.le_of_ble_eq_true rfl) htr ?_
  intro p e s m below meth c A Q hx hb hml hown hE hA htab hR hT hO hP hD ls hl
  have hS : va_S A s.heap s.heap [] := va_S.rf
  have hl : lv_has ls 4 [(0, .ref x), (1, .int k), (2, .ref ol)] := hl
  refine lv_aload_n hx hb d_Law_checksum_0 rfl (lv_at hl 2 rfl) ?_
  refine lv_iconst (v := nI 0) hx hb d_Law_checksum_1 (by decide) ?_
  refine lv_aload_n hx hb d_Law_checksum_2 rfl (lv_at hl 0 rfl) ?_
  refine lv_iload_n hx hb d_Law_checksum_3 rfl (lv_at hl 1 rfl) ?_
  refine pc_x (rt := (some .int)) (wc := [(x, .inr (0, [.ref qt, .ref kp, .ref qo, .ref qs, .ref qc, .ref qn, .ref qi])), (qo, .inr (1, [.ref r, .int (nI n)])), (r, .inl (g.2.1, 32768, .inl (bA t)))]) (wr := [(ol, .inl (g.2.2.2, 1, .inr (.inl lo)))]) (cells' := 1) (slots' := 6) hP hD hS hA [0, 1, 2] [3] rfl rfl (by decide) (by decide) rfl rfl (tx_runV (n := 1) (As := [.int k]) (rest := [.int (nI 0), .ref ol]) (C := R_Pk) hE hx hb hml hown (c_Pk_checksum l htr g x qt kp qo qs qc qn qi r n t k hn _) (fun U9 hW9 => tx_wd.plain.cd (hE.1.at hW9 m_460 #[])) m_460 m_1 m_457 m_458 m_459 (by decide +kernel) (pc_preV (ci := 0) (q0 := 0) hP hD hE hS hA [0, 1, 2] (by decide) rfl [.int k] rfl rfl) ⟨by exact Nat.le_of_ble_eq_true rfl, by exact Nat.le_of_ble_eq_true rfl⟩ rfl rfl hl.1 rfl (lv_room (by exact Nat.le_of_ble_eq_true rfl)) d_Law_checksum_4 ⟨by exact Nat.le_of_ble_eq_true rfl, by exact Nat.le_of_ble_eq_true rfl⟩) (fun r_2 u_1 H locs hw hP hD hS => ?_)
  have hP : va_P g.1 pc_cl [(ol, .inl (g.2.2.2, 1, .inr (.inl lo))), (x, .inr (0, [.ref qt, .ref kp, .ref qo, .ref qs, .ref qc, .ref qn, .ref qi])), (qo, .inr (1, [.ref r, .int (nI n)])), (r, .inl (g.2.1, 32768, .inl (bA t)))] H := hP
  have hD : va_D A [(ol, .inl (g.2.2.2, 1, .inr (.inl lo))), (x, .inr (0, [.ref qt, .ref kp, .ref qo, .ref qs, .ref qc, .ref qn, .ref qi])), (qo, .inr (1, [.ref r, .int (nI n)])), (r, .inl (g.2.1, 32768, .inl (bA t)))] := hD
  rcases hw with ⟨rfl, hw_3, hw_4⟩ | ⟨rfl, hw_5⟩
  · skip
    have hw_3 : ¬ k < 0 := hw_3
    have hw_4 : iN k ≤ n := hw_4
    refine tx_onI ?_
    refine lv_i2l (v := (cF t (iN k) ^^^ (-1)).toInt64) hx hb d_Law_checksum_7 rfl ?_
    refine pc_lsto hx hb hE.2.1 hP hD hS 0 2 rfl rfl (by omega) (by omega) d_Law_checksum_8 (fun H locs hP hD hS => ?_)
    have hP : va_P g.1 pc_cl [(ol, .inl (g.2.2.2, 1, .inr (.inl (vp_updL lo 0 ((cF t (iN k) ^^^ (-1)).toInt64))))), (x, .inr (0, [.ref qt, .ref kp, .ref qo, .ref qs, .ref qc, .ref qn, .ref qi])), (qo, .inr (1, [.ref r, .int (nI n)])), (r, .inl (g.2.1, 32768, .inl (bA t)))] H := hP
    have hD : va_D A [(ol, .inl (g.2.2.2, 1, .inr (.inl (vp_updL lo 0 ((cF t (iN k) ^^^ (-1)).toInt64))))), (x, .inr (0, [.ref qt, .ref kp, .ref qo, .ref qs, .ref qc, .ref qn, .ref qi])), (qo, .inr (1, [.ref r, .int (nI n)])), (r, .inl (g.2.1, 32768, .inl (bA t)))] := hD
    refine lv_goto (tgt := 15) hx hb d_Law_checksum_9 (by decide) ?_
    refine lv_iconst (v := nI 0) hx hb d_Law_checksum_15 (by decide) ?_
    exact hR _ _ 16 _ (nI 0) (vp_updL lo 0 ((cF t (iN k) ^^^ (-1)).toInt64)) d_Law_checksum_16 rfl (Or.inl (⟨rfl, hw_3, hw_4, updL_0 lo _⟩)) (hP.sub [1, 2, 3, 0] rfl) (hD.sub [1, 2, 3, 0] (by decide) rfl) hS
  · skip
    have hw_5 : k < 0 ∨ n < iN k := hw_5
    refine tx_onX (fun q_6 ce hq1 hq2 hq3 => ?_)
    refine tx_catch (name := "java/lang/IllegalArgumentException") (E := "java/lang/IllegalArgumentException") hE hown [] ⟨0, 9, 12, 19⟩ [] htab (fun z hz => nomatch hz) (by decide) (by decide) m_192 m_199 hq1 hq2 hq3 ?_
    refine W.eq (g2 := F0 m 12 ls [.ref q_6]) rfl ?_
    refine lv_astore_n (lv' := [(3, .ref q_6), (0, .ref x), (1, .int k), (2, .ref ol)]) hx hb d_Law_checksum_12 rfl hl (by decide) rfl (fun ls hl => ?_)
    refine lv_iconst (v := nI 1) hx hb d_Law_checksum_13 (by decide) ?_
    exact hR _ _ 14 _ (nI 1) lo d_Law_checksum_14 rfl (Or.inr (⟨rfl, hw_5, rfl⟩)) (hP.sub [1, 2, 3, 0] rfl) (hD.sub [1, 2, 3, 0] (by decide) rfl) hS
abbrev rm_Law_octet : Room := { frames := 7, cells := 1, slots := 6, locals := 102 }
set_option maxHeartbeats 1000000 in
set_option maxRecDepth 100000 in
/-- the law asks octet -/
theorem c_Law_octet (l : Launch) (htr : l.stackTraces = false) (g : pc_G) (x : Nat) (qt : Nat) (kp : Nat) (qo : Nat) (qs : Nat) (qc : Nat) (qn : Nat) (qi : Nat) (r : Nat) (n : Nat) (t : Nat → UInt8) (k : Int32) (ol : Nat) (lo : Nat → Int64) (hn : n ≤ 32768) : pc_X (S := (Nat → Int64)) l y_Law_octet (.codeWith y_Law_octet method_16_code 4 (some .int) [(0, 9, 12, 34)]) (some .int) rm_Law_octet g [(x, .inr (0, [.ref qt, .ref kp, .ref qo, .ref qs, .ref qc, .ref qn, .ref qi])), (qo, .inr (1, [.ref r, .int (nI n)])), (r, .inl (g.2.1, 32768, .inl (bA t))), (ol, .inl (g.2.2.2, 1, .inr (.inl lo)))] [.ref x, .int k, .ref ol] (fun rv u => (rv = .inl (nI 0) ∧ k = -1 ∧ u 0 = (nI n).toInt64) ∨ (rv = .inl (nI 0) ∧ ¬ k < 0 ∧ iN k < n ∧ u 0 = (nI (bN t (iN k))).toInt64) ∨ (rv = .inl (nI 1) ∧ (k < (-1) ∨ (¬ k < 0 ∧ n ≤ iN k)) ∧ u = lo)) (fun u => [(x, .inr (0, [.ref qt, .ref kp, .ref qo, .ref qs, .ref qc, .ref qn, .ref qi])), (qo, .inr (1, [.ref r, .int (nI n)])), (r, .inl (g.2.1, 32768, .inl (bA t))), (ol, .inl (g.2.2.2, 1, .inr (.inl u)))]) := by
  refine pc_X.of (cc := method_16_code) (nL := 4) (rt := (some .int)) (hh := [(0, 9, 12, 34)]) (by decide) tx_wd.with (by exact Nat.le_of_ble_eq_true rfl) htr ?_
  intro p e s m below meth c A Q hx hb hml hown hE hA htab hR hT hO hP hD ls hl
  have hS : va_S A s.heap s.heap [] := va_S.rf
  have hl : lv_has ls 4 [(0, .ref x), (1, .int k), (2, .ref ol)] := hl
  refine lv_aload_n hx hb d_Law_octet_0 rfl (lv_at hl 2 rfl) ?_
  refine lv_iconst (v := nI 0) hx hb d_Law_octet_1 (by decide) ?_
  refine lv_aload_n hx hb d_Law_octet_2 rfl (lv_at hl 0 rfl) ?_
  refine lv_iload_n hx hb d_Law_octet_3 rfl (lv_at hl 1 rfl) ?_
  refine pc_x (rt := (some .int)) (wc := [(x, .inr (0, [.ref qt, .ref kp, .ref qo, .ref qs, .ref qc, .ref qn, .ref qi])), (qo, .inr (1, [.ref r, .int (nI n)])), (r, .inl (g.2.1, 32768, .inl (bA t)))]) (wr := [(ol, .inl (g.2.2.2, 1, .inr (.inl lo)))]) (cells' := 1) (slots' := 6) hP hD hS hA [0, 1, 2] [3] rfl rfl (by decide) (by decide) rfl rfl (tx_runV (n := 1) (As := [.int k]) (rest := [.int (nI 0), .ref ol]) (C := R_Pk) hE hx hb hml hown (c_Pk_octet l htr g x qt kp qo qs qc qn qi r n t k hn _) (fun U9 hW9 => tx_wd.plain.cd (hE.1.at hW9 m_473 #[])) m_473 m_1 m_470 m_471 m_472 (by decide +kernel) (pc_preV (ci := 0) (q0 := 0) hP hD hE hS hA [0, 1, 2] (by decide) rfl [.int k] rfl rfl) ⟨by exact Nat.le_of_ble_eq_true rfl, by exact Nat.le_of_ble_eq_true rfl⟩ rfl rfl hl.1 rfl (lv_room (by exact Nat.le_of_ble_eq_true rfl)) d_Law_octet_4 ⟨by exact Nat.le_of_ble_eq_true rfl, by exact Nat.le_of_ble_eq_true rfl⟩) (fun r_2 u_1 H locs hw hP hD hS => ?_)
  have hP : va_P g.1 pc_cl [(ol, .inl (g.2.2.2, 1, .inr (.inl lo))), (x, .inr (0, [.ref qt, .ref kp, .ref qo, .ref qs, .ref qc, .ref qn, .ref qi])), (qo, .inr (1, [.ref r, .int (nI n)])), (r, .inl (g.2.1, 32768, .inl (bA t)))] H := hP
  have hD : va_D A [(ol, .inl (g.2.2.2, 1, .inr (.inl lo))), (x, .inr (0, [.ref qt, .ref kp, .ref qo, .ref qs, .ref qc, .ref qn, .ref qi])), (qo, .inr (1, [.ref r, .int (nI n)])), (r, .inl (g.2.1, 32768, .inl (bA t)))] := hD
  rcases hw with ⟨rfl, hw_3⟩ | ⟨rfl, hw_4, hw_5⟩ | ⟨rfl, hw_6⟩
  · skip
    have hw_3 : k = -1 := hw_3
    refine tx_onI ?_
    refine lv_i2l (v := (nI n).toInt64) hx hb d_Law_octet_7 rfl ?_
    refine pc_lsto hx hb hE.2.1 hP hD hS 0 2 rfl rfl (by omega) (by omega) d_Law_octet_8 (fun H locs hP hD hS => ?_)
    have hP : va_P g.1 pc_cl [(ol, .inl (g.2.2.2, 1, .inr (.inl (vp_updL lo 0 ((nI n).toInt64))))), (x, .inr (0, [.ref qt, .ref kp, .ref qo, .ref qs, .ref qc, .ref qn, .ref qi])), (qo, .inr (1, [.ref r, .int (nI n)])), (r, .inl (g.2.1, 32768, .inl (bA t)))] H := hP
    have hD : va_D A [(ol, .inl (g.2.2.2, 1, .inr (.inl (vp_updL lo 0 ((nI n).toInt64))))), (x, .inr (0, [.ref qt, .ref kp, .ref qo, .ref qs, .ref qc, .ref qn, .ref qi])), (qo, .inr (1, [.ref r, .int (nI n)])), (r, .inl (g.2.1, 32768, .inl (bA t)))] := hD
    refine lv_goto (tgt := 15) hx hb d_Law_octet_9 (by decide) ?_
    refine lv_iconst (v := nI 0) hx hb d_Law_octet_15 (by decide) ?_
    exact hR _ _ 16 _ (nI 0) (vp_updL lo 0 ((nI n).toInt64)) d_Law_octet_16 rfl (Or.inl (⟨rfl, hw_3, updL_0 lo _⟩)) (hP.sub [1, 2, 3, 0] rfl) (hD.sub [1, 2, 3, 0] (by decide) rfl) hS
  · skip
    have hw_4 : ¬ k < 0 := hw_4
    have hw_5 : iN k < n := hw_5
    refine tx_onI ?_
    refine lv_i2l (v := (nI (bN t (iN k))).toInt64) hx hb d_Law_octet_7 rfl ?_
    refine pc_lsto hx hb hE.2.1 hP hD hS 0 2 rfl rfl (by omega) (by omega) d_Law_octet_8 (fun H locs hP hD hS => ?_)
    have hP : va_P g.1 pc_cl [(ol, .inl (g.2.2.2, 1, .inr (.inl (vp_updL lo 0 ((nI (bN t (iN k))).toInt64))))), (x, .inr (0, [.ref qt, .ref kp, .ref qo, .ref qs, .ref qc, .ref qn, .ref qi])), (qo, .inr (1, [.ref r, .int (nI n)])), (r, .inl (g.2.1, 32768, .inl (bA t)))] H := hP
    have hD : va_D A [(ol, .inl (g.2.2.2, 1, .inr (.inl (vp_updL lo 0 ((nI (bN t (iN k))).toInt64))))), (x, .inr (0, [.ref qt, .ref kp, .ref qo, .ref qs, .ref qc, .ref qn, .ref qi])), (qo, .inr (1, [.ref r, .int (nI n)])), (r, .inl (g.2.1, 32768, .inl (bA t)))] := hD
    refine lv_goto (tgt := 15) hx hb d_Law_octet_9 (by decide) ?_
    refine lv_iconst (v := nI 0) hx hb d_Law_octet_15 (by decide) ?_
    exact hR _ _ 16 _ (nI 0) (vp_updL lo 0 ((nI (bN t (iN k))).toInt64)) d_Law_octet_16 rfl (Or.inr (Or.inl (⟨rfl, hw_4, hw_5, updL_0 lo _⟩))) (hP.sub [1, 2, 3, 0] rfl) (hD.sub [1, 2, 3, 0] (by decide) rfl) hS
  · skip
    have hw_6 : k < (-1) ∨ (¬ k < 0 ∧ n ≤ iN k) := hw_6
    refine tx_onX (fun q_7 ce hq1 hq2 hq3 => ?_)
    refine tx_catch (name := "java/util/NoSuchElementException") (E := "java/util/NoSuchElementException") hE hown [] ⟨0, 9, 12, 34⟩ [] htab (fun z hz => nomatch hz) (by decide) (by decide) m_375 m_382 hq1 hq2 hq3 ?_
    refine W.eq (g2 := F0 m 12 ls [.ref q_7]) rfl ?_
    refine lv_astore_n (lv' := [(3, .ref q_7), (0, .ref x), (1, .int k), (2, .ref ol)]) hx hb d_Law_octet_12 rfl hl (by decide) rfl (fun ls hl => ?_)
    refine lv_iconst (v := nI 1) hx hb d_Law_octet_13 (by decide) ?_
    exact hR _ _ 14 _ (nI 1) lo d_Law_octet_14 rfl (Or.inr (Or.inr (⟨rfl, hw_6, rfl⟩))) (hP.sub [1, 2, 3, 0] rfl) (hD.sub [1, 2, 3, 0] (by decide) rfl) hS
abbrev rm_Law_back : Room := { frames := 7, cells := 1, slots := 6, locals := 101 }
set_option maxHeartbeats 1000000 in
set_option maxRecDepth 100000 in
/-- the law asks back -/
theorem c_Law_back (l : Launch) (htr : l.stackTraces = false) (g : pc_G) (x : Nat) (qt : Nat) (kp : Nat) (qo : Nat) (qs : Nat) (qc : Nat) (qn : Nat) (qi : Nat) (r : Nat) (n : Nat) (t : Nat → UInt8) (ro : Nat) (no : Nat) (to : Nat → UInt8) (ol : Nat) (lo : Nat → Int64) (hn : n ≤ 32768) (hno : no ≤ 32768) : pc_X (S := Nat × (Nat → UInt8) × Nat × (Nat → Int64)) l y_Law_back (.codeWith y_Law_back method_17_code 3 (some .int) [(0, 8, 11, 13)]) (some .int) rm_Law_back g [(x, .inr (0, [.ref qt, .ref kp, .ref qo, .ref qs, .ref qc, .ref qn, .ref qi])), (qt, .inr (1, [.ref r, .int (nI n)])), (r, .inl (g.2.1, 32768, .inl (bA t))), (qo, .inr (1, [.ref ro, .int (nI no)])), (ro, .inl (g.2.1, 32768, .inl (bA to))), (ol, .inl (g.2.2.2, 1, .inr (.inl lo)))] [.ref x, .ref ol] (fun rv u => (rv = .inl (nI 0) ∧ n + no ≤ 32768 ∧ u.1 = n + no ∧ bl u.2.1 u.1 = bl t n ++ bl to no ∧ u.2.2.1 = 0 ∧ u.2.2.2 0 = (nI u.1).toInt64) ∨ (rv = .inl (nI 1) ∧ 32768 < n + no ∧ u.1 = n ∧ u.2.1 = t ∧ u.2.2.1 = no ∧ u.2.2.2 = lo)) (fun u => [(x, .inr (0, [.ref qt, .ref kp, .ref qo, .ref qs, .ref qc, .ref qn, .ref qi])), (qt, .inr (1, [.ref r, .int (nI u.1)])), (r, .inl (g.2.1, 32768, .inl (bA u.2.1))), (qo, .inr (1, [.ref ro, .int (nI u.2.2.1)])), (ro, .inl (g.2.1, 32768, .inl (bA to))), (ol, .inl (g.2.2.2, 1, .inr (.inl u.2.2.2)))]) := by
  refine pc_X.of (cc := method_17_code) (nL := 3) (rt := (some .int)) (hh := [(0, 8, 11, 13)]) (by decide) tx_wd.with (by exact Nat.le_of_ble_eq_true rfl) htr ?_
  intro p e s m below meth c A Q hx hb hml hown hE hA htab hR hT hO hP hD ls hl
  have hS : va_S A s.heap s.heap [] := va_S.rf
  have hl : lv_has ls 3 [(0, .ref x), (1, .ref ol)] := hl
  refine lv_aload_n hx hb d_Law_back_0 rfl (lv_at hl 1 rfl) ?_
  refine lv_iconst (v := nI 0) hx hb d_Law_back_1 (by decide) ?_
  refine lv_aload_n hx hb d_Law_back_2 rfl (lv_at hl 0 rfl) ?_
  refine pc_x (rt := (some .int)) (wc := [(x, .inr (0, [.ref qt, .ref kp, .ref qo, .ref qs, .ref qc, .ref qn, .ref qi])), (qt, .inr (1, [.ref r, .int (nI n)])), (r, .inl (g.2.1, 32768, .inl (bA t))), (qo, .inr (1, [.ref ro, .int (nI no)])), (ro, .inl (g.2.1, 32768, .inl (bA to)))]) (wr := [(ol, .inl (g.2.2.2, 1, .inr (.inl lo)))]) (cells' := 1) (slots' := 6) hP hD hS hA [0, 1, 2, 3, 4] [5] rfl rfl (by decide) (by decide) rfl rfl (tx_runV (n := 0) (As := []) (rest := [.int (nI 0), .ref ol]) (C := R_Pk) hE hx hb hml hown (c_Pk_back l htr g x qt kp qo qs qc qn qi r n t ro no to hn hno _) (fun U9 hW9 => tx_wd.plain.cd (hE.1.at hW9 m_481 #[])) m_481 m_1 m_478 m_479 m_480 (by decide +kernel) (pc_preV (ci := 0) (q0 := 0) hP hD hE hS hA [0, 1, 2, 3, 4] (by decide) rfl [] rfl rfl) ⟨by exact Nat.le_of_ble_eq_true rfl, by exact Nat.le_of_ble_eq_true rfl⟩ rfl rfl hl.1 rfl (lv_room (by exact Nat.le_of_ble_eq_true rfl)) d_Law_back_3 ⟨by exact Nat.le_of_ble_eq_true rfl, by exact Nat.le_of_ble_eq_true rfl⟩) (fun r_2 u_1 H locs hw hP hD hS => ?_)
  obtain ⟨n2_3, t2_4, no2_5⟩ := u_1
  have hP : va_P g.1 pc_cl [(ol, .inl (g.2.2.2, 1, .inr (.inl lo))), (x, .inr (0, [.ref qt, .ref kp, .ref qo, .ref qs, .ref qc, .ref qn, .ref qi])), (qt, .inr (1, [.ref r, .int (nI n2_3)])), (r, .inl (g.2.1, 32768, .inl (bA t2_4))), (qo, .inr (1, [.ref ro, .int (nI no2_5)])), (ro, .inl (g.2.1, 32768, .inl (bA to)))] H := hP
  have hD : va_D A [(ol, .inl (g.2.2.2, 1, .inr (.inl lo))), (x, .inr (0, [.ref qt, .ref kp, .ref qo, .ref qs, .ref qc, .ref qn, .ref qi])), (qt, .inr (1, [.ref r, .int (nI n2_3)])), (r, .inl (g.2.1, 32768, .inl (bA t2_4))), (qo, .inr (1, [.ref ro, .int (nI no2_5)])), (ro, .inl (g.2.1, 32768, .inl (bA to)))] := hD
  rcases hw with ⟨rfl, hw_6, hw_7, hw_8, hw_9⟩ | ⟨rfl, hw_10, hw_11, hw_12, hw_13⟩
  · skip
    have hw_6 : n + no ≤ 32768 := hw_6
    have hw_7 : n2_3 = n + no := hw_7
    have hw_8 : bl t2_4 n2_3 = bl t n ++ bl to no := hw_8
    have hw_9 : no2_5 = 0 := hw_9
    refine tx_onI ?_
    refine lv_i2l (v := (nI n2_3).toInt64) hx hb d_Law_back_6 rfl ?_
    refine pc_lsto hx hb hE.2.1 hP hD hS 0 2 rfl rfl (by omega) (by omega) d_Law_back_7 (fun H locs hP hD hS => ?_)
    have hP : va_P g.1 pc_cl [(ol, .inl (g.2.2.2, 1, .inr (.inl (vp_updL lo 0 ((nI n2_3).toInt64))))), (x, .inr (0, [.ref qt, .ref kp, .ref qo, .ref qs, .ref qc, .ref qn, .ref qi])), (qt, .inr (1, [.ref r, .int (nI n2_3)])), (r, .inl (g.2.1, 32768, .inl (bA t2_4))), (qo, .inr (1, [.ref ro, .int (nI no2_5)])), (ro, .inl (g.2.1, 32768, .inl (bA to)))] H := hP
    have hD : va_D A [(ol, .inl (g.2.2.2, 1, .inr (.inl (vp_updL lo 0 ((nI n2_3).toInt64))))), (x, .inr (0, [.ref qt, .ref kp, .ref qo, .ref qs, .ref qc, .ref qn, .ref qi])), (qt, .inr (1, [.ref r, .int (nI n2_3)])), (r, .inl (g.2.1, 32768, .inl (bA t2_4))), (qo, .inr (1, [.ref ro, .int (nI no2_5)])), (ro, .inl (g.2.1, 32768, .inl (bA to)))] := hD
    refine lv_goto (tgt := 14) hx hb d_Law_back_8 (by decide) ?_
    refine lv_iconst (v := nI 0) hx hb d_Law_back_14 (by decide) ?_
    exact hR _ _ 15 _ (nI 0) (n2_3, t2_4, no2_5, vp_updL lo 0 ((nI n2_3).toInt64)) d_Law_back_15 rfl (Or.inl (⟨rfl, hw_6, hw_7, hw_8, hw_9, updL_0 lo _⟩)) (hP.sub [1, 2, 3, 4, 5, 0] rfl) (hD.sub [1, 2, 3, 4, 5, 0] (by decide) rfl) hS
  · skip
    have hw_10 : 32768 < n + no := hw_10
    have hw_11 : n2_3 = n := hw_11
    have hw_12 : t2_4 = t := hw_12
    have hw_13 : no2_5 = no := hw_13
    refine tx_onX (fun q_14 ce hq1 hq2 hq3 => ?_)
    refine tx_catch (name := "java/lang/IllegalStateException") (E := "java/lang/IllegalStateException") hE hown [] ⟨0, 8, 11, 13⟩ [] htab (fun z hz => nomatch hz) (by decide) (by decide) m_109 m_120 hq1 hq2 hq3 ?_
    refine W.eq (g2 := F0 m 11 ls [.ref q_14]) rfl ?_
    refine lv_astore_n (lv' := [(2, .ref q_14), (0, .ref x), (1, .ref ol)]) hx hb d_Law_back_11 rfl hl (by decide) rfl (fun ls hl => ?_)
    refine lv_iconst (v := nI 1) hx hb d_Law_back_12 (by decide) ?_
    exact hR _ _ 13 _ (nI 1) (n2_3, t2_4, no2_5, lo) d_Law_back_13 rfl (Or.inr (⟨rfl, hw_10, hw_11, hw_12, hw_13, rfl⟩)) (hP.sub [1, 2, 3, 4, 5, 0] rfl) (hD.sub [1, 2, 3, 4, 5, 0] (by decide) rfl) hS
