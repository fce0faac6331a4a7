abbrev rm_Utf8_isCharacter : Room := { frames := 0, cells := 0, slots := 0, locals := 0 }
set_option maxHeartbeats 1000000 in
set_option maxRecDepth 100000 in
/-- is it a character -/
theorem c_Utf8_isCharacter (l : Launch) (g : pc_G) (x : Int32) : pc_Ci (S := Unit) l y_Utf8_isCharacter prog_8_method_2_code 1 .boolean rm_Utf8_isCharacter g [] [.int x] (fun rv _ => rv = bI (chI x)) (fun _ => []) := by
  refine pc_Ci.of (by decide) (by exact Nat.le_of_ble_eq_true rfl) ?_
  intro p e s m below meth c A Q hx hb hml hown hE hA hQ hP hD ls hl
  have hS : va_S A s.heap s.heap [] := va_S.rf
  have hl : lv_has ls 1 [(0, .int x)] := hl
  refine lv_iload_n hx hb d_Utf8_isCharacter_0 rfl (lv_at hl 0 rfl) ?_
  refine lv_if_lt (tgt := 26) hx hb d_Utf8_isCharacter_1 (by decide) (fun h_1 => ?_) (fun h_1 => ?_)
  · skip
    refine lv_iconst (v := nI 0) hx hb d_Utf8_isCharacter_26 (by decide) ?_
    exact hQ _ _ 27 _ (nI 0) () d_Utf8_isCharacter_27 rfl (by first | exact (bI_t ⟨by assumption, by assumption, Or.inl (by assumption)⟩).symm | exact (bI_t ⟨by assumption, by assumption, Or.inr (Int32.not_le.mp (by assumption))⟩).symm | exact (bI_f (fun z => z.1 (by assumption))).symm | exact (bI_f (fun z => z.2.1 (by assumption))).symm | exact (bI_f (fun z => z.2.2.elim (fun q => absurd q (by assumption)) (fun q => absurd q (Int32.not_lt.mpr (by assumption))))).symm) (hP.sub [] rfl) (hD.sub [] (by decide) rfl) hS
  · skip
    refine lv_iload_n hx hb d_Utf8_isCharacter_4 rfl (lv_at hl 0 rfl) ?_
    refine lv_ldc hx hb hown (hE.w m_361) d_Utf8_isCharacter_5 ?_
    refine pc_ti (y := nI 1114111) (by decide) ?_
    refine lv_icmp_gt (tgt := 26) hx hb d_Utf8_isCharacter_7 (by decide) (fun h_2 => ?_) (fun h_2 => ?_)
    · skip
      refine lv_iconst (v := nI 0) hx hb d_Utf8_isCharacter_26 (by decide) ?_
      exact hQ _ _ 27 _ (nI 0) () d_Utf8_isCharacter_27 rfl (by first | exact (bI_t ⟨by assumption, by assumption, Or.inl (by assumption)⟩).symm | exact (bI_t ⟨by assumption, by assumption, Or.inr (Int32.not_le.mp (by assumption))⟩).symm | exact (bI_f (fun z => z.1 (by assumption))).symm | exact (bI_f (fun z => z.2.1 (by assumption))).symm | exact (bI_f (fun z => z.2.2.elim (fun q => absurd q (by assumption)) (fun q => absurd q (Int32.not_lt.mpr (by assumption))))).symm) (hP.sub [] rfl) (hD.sub [] (by decide) rfl) hS
    · skip
      refine lv_iload_n hx hb d_Utf8_isCharacter_10 rfl (lv_at hl 0 rfl) ?_
      refine lv_ldc hx hb hown (hE.w m_362) d_Utf8_isCharacter_11 ?_
      refine pc_ti (y := nI 55296) (by decide) ?_
      refine lv_icmp_lt (tgt := 22) hx hb d_Utf8_isCharacter_13 (by decide) (fun h_3 => ?_) (fun h_3 => ?_)
      · skip
        refine lv_iconst (v := nI 1) hx hb d_Utf8_isCharacter_22 (by decide) ?_
        refine lv_goto (tgt := 27) hx hb d_Utf8_isCharacter_23 (by decide) ?_
        exact hQ _ _ 27 _ (nI 1) () d_Utf8_isCharacter_27 rfl (by first | exact (bI_t ⟨by assumption, by assumption, Or.inl (by assumption)⟩).symm | exact (bI_t ⟨by assumption, by assumption, Or.inr (Int32.not_le.mp (by assumption))⟩).symm | exact (bI_f (fun z => z.1 (by assumption))).symm | exact (bI_f (fun z => z.2.1 (by assumption))).symm | exact (bI_f (fun z => z.2.2.elim (fun q => absurd q (by assumption)) (fun q => absurd q (Int32.not_lt.mpr (by assumption))))).symm) (hP.sub [] rfl) (hD.sub [] (by decide) rfl) hS
      · skip
        refine lv_iload_n hx hb d_Utf8_isCharacter_16 rfl (lv_at hl 0 rfl) ?_
        refine lv_ldc hx hb hown (hE.w m_363) d_Utf8_isCharacter_17 ?_
        refine pc_ti (y := nI 57343) (by decide) ?_
        refine lv_icmp_le (tgt := 26) hx hb d_Utf8_isCharacter_19 (by decide) (fun h_4 => ?_) (fun h_4 => ?_)
        · skip
          refine lv_iconst (v := nI 0) hx hb d_Utf8_isCharacter_26 (by decide) ?_
          exact hQ _ _ 27 _ (nI 0) () d_Utf8_isCharacter_27 rfl (by first | exact (bI_t ⟨by assumption, by assumption, Or.inl (by assumption)⟩).symm | exact (bI_t ⟨by assumption, by assumption, Or.inr (Int32.not_le.mp (by assumption))⟩).symm | exact (bI_f (fun z => z.1 (by assumption))).symm | exact (bI_f (fun z => z.2.1 (by assumption))).symm | exact (bI_f (fun z => z.2.2.elim (fun q => absurd q (by assumption)) (fun q => absurd q (Int32.not_lt.mpr (by assumption))))).symm) (hP.sub [] rfl) (hD.sub [] (by decide) rfl) hS
        · skip
          refine lv_iconst (v := nI 1) hx hb d_Utf8_isCharacter_22 (by decide) ?_
          refine lv_goto (tgt := 27) hx hb d_Utf8_isCharacter_23 (by decide) ?_
          exact hQ _ _ 27 _ (nI 1) () d_Utf8_isCharacter_27 rfl (by first | exact (bI_t ⟨by assumption, by assumption, Or.inl (by assumption)⟩).symm | exact (bI_t ⟨by assumption, by assumption, Or.inr (Int32.not_le.mp (by assumption))⟩).symm | exact (bI_f (fun z => z.1 (by assumption))).symm | exact (bI_f (fun z => z.2.1 (by assumption))).symm | exact (bI_f (fun z => z.2.2.elim (fun q => absurd q (by assumption)) (fun q => absurd q (Int32.not_lt.mpr (by assumption))))).symm) (hP.sub [] rfl) (hD.sub [] (by decide) rfl) hS
abbrev rm_Utf8_size : Room := { frames := 0, cells := 0, slots := 0, locals := 0 }
set_option maxHeartbeats 1000000 in
set_option maxRecDepth 100000 in
/-- how many bytes a character has -/
theorem c_Utf8_size (l : Launch) (g : pc_G) (v : Nat) (hv : v < 2 ^ 31) : pc_Ci (S := Unit) l y_Utf8_size prog_8_method_3_code 1 .int rm_Utf8_size g [] [.int (nI v)] (fun rv _ => rv = nI (chW v)) (fun _ => []) := by
  refine pc_Ci.of (by decide) (by exact Nat.le_of_ble_eq_true rfl) ?_
  intro p e s m below meth c A Q hx hb hml hown hE hA hQ hP hD ls hl
  have hS : va_S A s.heap s.heap [] := va_S.rf
  have hl : lv_has ls 1 [(0, .int (nI v))] := hl
  refine lv_iload_n hx hb d_Utf8_size_0 rfl (lv_at hl 0 rfl) ?_
  refine lv_sipush (v := nI 128) hx hb d_Utf8_size_1 (by decide) ?_
  refine pc_jge (tgt := 9) hx hb d_Utf8_size_4 (by decide) (by omega) (by omega) (fun h_1 => ?_) (fun h_1 => ?_)
  · skip
    refine lv_iload_n hx hb d_Utf8_size_9 rfl (lv_at hl 0 rfl) ?_
    refine lv_sipush (v := nI 2048) hx hb d_Utf8_size_10 (by decide) ?_
    refine pc_jge (tgt := 18) hx hb d_Utf8_size_13 (by decide) (by omega) (by omega) (fun h_2 => ?_) (fun h_2 => ?_)
    · skip
      refine lv_iload_n hx hb d_Utf8_size_18 rfl (lv_at hl 0 rfl) ?_
      refine lv_ldc hx hb hown (hE.w m_367) d_Utf8_size_19 ?_
      refine pc_ti (y := nI 65536) (by decide) ?_
      refine pc_jge (tgt := 28) hx hb d_Utf8_size_21 (by decide) (by omega) (by omega) (fun h_3 => ?_) (fun h_3 => ?_)
      · skip
        refine lv_iconst (v := nI 4) hx hb d_Utf8_size_28 (by decide) ?_
        exact hQ _ _ 29 _ (nI 4) () d_Utf8_size_29 rfl (congrArg nI (by unfold chW; (repeat' split) <;> omega)) (hP.sub [] rfl) (hD.sub [] (by decide) rfl) hS
      · skip
        refine lv_iconst (v := nI 3) hx hb d_Utf8_size_24 (by decide) ?_
        refine lv_goto (tgt := 29) hx hb d_Utf8_size_25 (by decide) ?_
        exact hQ _ _ 29 _ (nI 3) () d_Utf8_size_29 rfl (congrArg nI (by unfold chW; (repeat' split) <;> omega)) (hP.sub [] rfl) (hD.sub [] (by decide) rfl) hS
    · skip
      refine lv_iconst (v := nI 2) hx hb d_Utf8_size_16 (by decide) ?_
      exact hQ _ _ 17 _ (nI 2) () d_Utf8_size_17 rfl (congrArg nI (by unfold chW; (repeat' split) <;> omega)) (hP.sub [] rfl) (hD.sub [] (by decide) rfl) hS
  · skip
    refine lv_iconst (v := nI 1) hx hb d_Utf8_size_7 (by decide) ?_
    exact hQ _ _ 8 _ (nI 1) () d_Utf8_size_8 rfl (congrArg nI (by unfold chW; (repeat' split) <;> omega)) (hP.sub [] rfl) (hD.sub [] (by decide) rfl) hS
abbrev rm_Utf8_sizeByFirst0 : Room := { frames := 0, cells := 0, slots := 0, locals := 0 }
set_option maxHeartbeats 1000000 in
set_option maxRecDepth 100000 in
/-- no first byte -/
theorem c_Utf8_sizeByFirst0 (l : Launch) (g : pc_G) : pc_Ci (S := Unit) l y_Utf8_sizeByFirst prog_8_method_4_code 1 .int rm_Utf8_sizeByFirst0 g [] [.int (-1)] (fun rv _ => rv = (-1)) (fun _ => []) := by
  refine pc_Ci.of (by decide) (by exact Nat.le_of_ble_eq_true rfl) ?_
  intro p e s m below meth c A Q hx hb hml hown hE hA hQ hP hD ls hl
  have hS : va_S A s.heap s.heap [] := va_S.rf
  have hl : lv_has ls 1 [(0, .int (-1))] := hl
  refine lv_iload_n hx hb d_Utf8_sizeByFirst_0 rfl (lv_at hl 0 rfl) ?_
  refine lv_if_lt (tgt := 25) hx hb d_Utf8_sizeByFirst_1 (by decide) (fun h_d => ?_) (fun h_d => absurd h_d (fun k9 => k9 (by decide)))
  refine lv_iconst (v := (-1)) hx hb d_Utf8_sizeByFirst_25 (by decide) ?_
  exact hQ _ _ 26 _ (-1) () d_Utf8_sizeByFirst_26 rfl rfl (hP.sub [] rfl) (hD.sub [] (by decide) rfl) hS
abbrev rm_Utf8_sizeByFirst : Room := { frames := 0, cells := 0, slots := 0, locals := 0 }
set_option maxHeartbeats 1000000 in
set_option maxRecDepth 100000 in
/-- how many bytes a first byte asks for -/
theorem c_Utf8_sizeByFirst (l : Launch) (g : pc_G) (b : Nat) (hb8 : b < 256) : pc_Ci (S := Unit) l y_Utf8_sizeByFirst prog_8_method_4_code 1 .int rm_Utf8_sizeByFirst g [] [.int (nI b)] (fun rv _ => ((chS b = 0 ∧ rv = -1) ∨ (chS b ≠ 0 ∧ rv = nI (chS b)))) (fun _ => []) := by
  refine pc_Ci.of (by decide) (by exact Nat.le_of_ble_eq_true rfl) ?_
  intro p e s m below meth c A Q hx hb hml hown hE hA hQ hP hD ls hl
  have hS : va_S A s.heap s.heap [] := va_S.rf
  have hl : lv_has ls 1 [(0, .int (nI b))] := hl
  refine lv_iload_n hx hb d_Utf8_sizeByFirst_0 rfl (lv_at hl 0 rfl) ?_
  refine pc_zlt (tgt := 25) hx hb d_Utf8_sizeByFirst_1 (by decide) (by omega) (fun h_d => h_d.elim) (fun _ => ?_)
  refine lv_iload_n hx hb d_Utf8_sizeByFirst_4 rfl (lv_at hl 0 rfl) ?_
  refine lv_sipush (v := nI 128) hx hb d_Utf8_sizeByFirst_5 (by decide) ?_
  refine pc_jlt (tgt := 18) hx hb d_Utf8_sizeByFirst_8 (by decide) (by omega) (by omega) (fun h_1 => ?_) (fun h_1 => ?_)
  · skip
    refine lv_iload_n hx hb d_Utf8_sizeByFirst_18 rfl (lv_at hl 0 rfl) ?_
    refine lv_sipush (v := nI 248) hx hb d_Utf8_sizeByFirst_19 (by decide) ?_
    refine pc_jlt (tgt := 27) hx hb d_Utf8_sizeByFirst_22 (by decide) (by omega) (by omega) (fun h_2 => ?_) (fun h_2 => ?_)
    · skip
      refine lv_iload_n hx hb d_Utf8_sizeByFirst_27 rfl (lv_at hl 0 rfl) ?_
      refine lv_sipush (v := nI 128) hx hb d_Utf8_sizeByFirst_28 (by decide) ?_
      refine pc_jge (tgt := 36) hx hb d_Utf8_sizeByFirst_31 (by decide) (by omega) (by omega) (fun h_3 => ?_) (fun h_3 => ?_)
      · skip
        refine lv_iload_n hx hb d_Utf8_sizeByFirst_36 rfl (lv_at hl 0 rfl) ?_
        refine lv_sipush (v := nI 224) hx hb d_Utf8_sizeByFirst_37 (by decide) ?_
        refine pc_jge (tgt := 45) hx hb d_Utf8_sizeByFirst_40 (by decide) (by omega) (by omega) (fun h_4 => ?_) (fun h_4 => ?_)
        · skip
          refine lv_iload_n hx hb d_Utf8_sizeByFirst_45 rfl (lv_at hl 0 rfl) ?_
          refine lv_sipush (v := nI 240) hx hb d_Utf8_sizeByFirst_46 (by decide) ?_
          refine pc_jge (tgt := 56) hx hb d_Utf8_sizeByFirst_49 (by decide) (by omega) (by omega) (fun h_5 => ?_) (fun h_5 => ?_)
          · skip
            refine lv_iconst (v := nI 4) hx hb d_Utf8_sizeByFirst_56 (by decide) ?_
            exact hQ _ _ 57 _ (nI 4) () d_Utf8_sizeByFirst_57 rfl (Or.inr ⟨by unfold chS; (repeat' split) <;> omega, congrArg nI (by unfold chS; (repeat' split) <;> omega)⟩) (hP.sub [] rfl) (hD.sub [] (by decide) rfl) hS
          · skip
            refine lv_iconst (v := nI 3) hx hb d_Utf8_sizeByFirst_52 (by decide) ?_
            refine lv_goto (tgt := 57) hx hb d_Utf8_sizeByFirst_53 (by decide) ?_
            exact hQ _ _ 57 _ (nI 3) () d_Utf8_sizeByFirst_57 rfl (Or.inr ⟨by unfold chS; (repeat' split) <;> omega, congrArg nI (by unfold chS; (repeat' split) <;> omega)⟩) (hP.sub [] rfl) (hD.sub [] (by decide) rfl) hS
        · skip
          refine lv_iconst (v := nI 2) hx hb d_Utf8_sizeByFirst_43 (by decide) ?_
          exact hQ _ _ 44 _ (nI 2) () d_Utf8_sizeByFirst_44 rfl (Or.inr ⟨by unfold chS; (repeat' split) <;> omega, congrArg nI (by unfold chS; (repeat' split) <;> omega)⟩) (hP.sub [] rfl) (hD.sub [] (by decide) rfl) hS
      · skip
        refine lv_iconst (v := nI 1) hx hb d_Utf8_sizeByFirst_34 (by decide) ?_
        exact hQ _ _ 35 _ (nI 1) () d_Utf8_sizeByFirst_35 rfl (Or.inr ⟨by unfold chS; (repeat' split) <;> omega, congrArg nI (by unfold chS; (repeat' split) <;> omega)⟩) (hP.sub [] rfl) (hD.sub [] (by decide) rfl) hS
    · skip
      refine lv_iconst (v := (-1)) hx hb d_Utf8_sizeByFirst_25 (by decide) ?_
      exact hQ _ _ 26 _ (-1) () d_Utf8_sizeByFirst_26 rfl (Or.inl ⟨by unfold chS; (repeat' split) <;> omega, rfl⟩) (hP.sub [] rfl) (hD.sub [] (by decide) rfl) hS
  · skip
    refine lv_iload_n hx hb d_Utf8_sizeByFirst_11 rfl (lv_at hl 0 rfl) ?_
    refine lv_sipush (v := nI 192) hx hb d_Utf8_sizeByFirst_12 (by decide) ?_
    refine pc_jlt (tgt := 25) hx hb d_Utf8_sizeByFirst_15 (by decide) (by omega) (by omega) (fun h_6 => ?_) (fun h_6 => ?_)
    · skip
      refine lv_iconst (v := (-1)) hx hb d_Utf8_sizeByFirst_25 (by decide) ?_
      exact hQ _ _ 26 _ (-1) () d_Utf8_sizeByFirst_26 rfl (Or.inl ⟨by unfold chS; (repeat' split) <;> omega, rfl⟩) (hP.sub [] rfl) (hD.sub [] (by decide) rfl) hS
    · skip
      refine lv_iload_n hx hb d_Utf8_sizeByFirst_18 rfl (lv_at hl 0 rfl) ?_
      refine lv_sipush (v := nI 248) hx hb d_Utf8_sizeByFirst_19 (by decide) ?_
      refine pc_jlt (tgt := 27) hx hb d_Utf8_sizeByFirst_22 (by decide) (by omega) (by omega) (fun h_7 => ?_) (fun h_7 => ?_)
      · skip
        refine lv_iload_n hx hb d_Utf8_sizeByFirst_27 rfl (lv_at hl 0 rfl) ?_
        refine lv_sipush (v := nI 128) hx hb d_Utf8_sizeByFirst_28 (by decide) ?_
        refine pc_jge (tgt := 36) hx hb d_Utf8_sizeByFirst_31 (by decide) (by omega) (by omega) (fun h_8 => ?_) (fun h_8 => ?_)
        · skip
          refine lv_iload_n hx hb d_Utf8_sizeByFirst_36 rfl (lv_at hl 0 rfl) ?_
          refine lv_sipush (v := nI 224) hx hb d_Utf8_sizeByFirst_37 (by decide) ?_
          refine pc_jge (tgt := 45) hx hb d_Utf8_sizeByFirst_40 (by decide) (by omega) (by omega) (fun h_9 => ?_) (fun h_9 => ?_)
          · skip
            refine lv_iload_n hx hb d_Utf8_sizeByFirst_45 rfl (lv_at hl 0 rfl) ?_
            refine lv_sipush (v := nI 240) hx hb d_Utf8_sizeByFirst_46 (by decide) ?_
            refine pc_jge (tgt := 56) hx hb d_Utf8_sizeByFirst_49 (by decide) (by omega) (by omega) (fun h_10 => ?_) (fun h_10 => ?_)
            · skip
              refine lv_iconst (v := nI 4) hx hb d_Utf8_sizeByFirst_56 (by decide) ?_
              exact hQ _ _ 57 _ (nI 4) () d_Utf8_sizeByFirst_57 rfl (Or.inr ⟨by unfold chS; (repeat' split) <;> omega, congrArg nI (by unfold chS; (repeat' split) <;> omega)⟩) (hP.sub [] rfl) (hD.sub [] (by decide) rfl) hS
            · skip
              refine lv_iconst (v := nI 3) hx hb d_Utf8_sizeByFirst_52 (by decide) ?_
              refine lv_goto (tgt := 57) hx hb d_Utf8_sizeByFirst_53 (by decide) ?_
              exact hQ _ _ 57 _ (nI 3) () d_Utf8_sizeByFirst_57 rfl (Or.inr ⟨by unfold chS; (repeat' split) <;> omega, congrArg nI (by unfold chS; (repeat' split) <;> omega)⟩) (hP.sub [] rfl) (hD.sub [] (by decide) rfl) hS
          · skip
            refine lv_iconst (v := nI 2) hx hb d_Utf8_sizeByFirst_43 (by decide) ?_
            exact hQ _ _ 44 _ (nI 2) () d_Utf8_sizeByFirst_44 rfl (Or.inr ⟨by unfold chS; (repeat' split) <;> omega, congrArg nI (by unfold chS; (repeat' split) <;> omega)⟩) (hP.sub [] rfl) (hD.sub [] (by decide) rfl) hS
        · skip
          refine lv_iconst (v := nI 1) hx hb d_Utf8_sizeByFirst_34 (by decide) ?_
          exact hQ _ _ 35 _ (nI 1) () d_Utf8_sizeByFirst_35 rfl (Or.inr ⟨by unfold chS; (repeat' split) <;> omega, congrArg nI (by unfold chS; (repeat' split) <;> omega)⟩) (hP.sub [] rfl) (hD.sub [] (by decide) rfl) hS
      · skip
        refine lv_iconst (v := (-1)) hx hb d_Utf8_sizeByFirst_25 (by decide) ?_
        exact hQ _ _ 26 _ (-1) () d_Utf8_sizeByFirst_26 rfl (Or.inl ⟨by unfold chS; (repeat' split) <;> omega, rfl⟩) (hP.sub [] rfl) (hD.sub [] (by decide) rfl) hS
abbrev rm_Utf8_markOfFirst : Room := { frames := 0, cells := 0, slots := 0, locals := 0 }
set_option maxHeartbeats 1000000 in
set_option maxRecDepth 100000 in
/-- the mark of a first byte -/
theorem c_Utf8_markOfFirst (l : Launch) (g : pc_G) (k : Nat) (hk : k ≤ 4) : pc_Ci (S := Unit) l y_Utf8_markOfFirst prog_8_method_5_code 1 .int rm_Utf8_markOfFirst g [] [.int (nI k)] (fun rv _ => rv = nI (chM k)) (fun _ => []) := by
  refine pc_Ci.of (by decide) (by exact Nat.le_of_ble_eq_true rfl) ?_
  intro p e s m below meth c A Q hx hb hml hown hE hA hQ hP hD ls hl
  have hS : va_S A s.heap s.heap [] := va_S.rf
  have hl : lv_has ls 1 [(0, .int (nI k))] := hl
  refine lv_iload_n hx hb d_Utf8_markOfFirst_0 rfl (lv_at hl 0 rfl) ?_
  rcases (show k = 2 ∨ k = 3 ∨ k = 4 ∨ k < 2 ∨ 4 < k by omega) with h_1 | h_1 | h_1 | h_1
  · skip
    refine lv_tableIn (off := 27) (tgt := 28) hx hb d_Utf8_markOfFirst_1 (by rw [h_1]; decide) (by rw [h_1]; decide) (by rw [h_1]; rfl) (by decide) ?_
    refine lv_sipush (v := nI 192) hx hb d_Utf8_markOfFirst_28 (by decide) ?_
    exact hQ _ _ 31 _ (nI 192) () d_Utf8_markOfFirst_31 rfl (congrArg nI (by unfold chM; (repeat' split) <;> omega)) (hP.sub [] rfl) (hD.sub [] (by decide) rfl) hS
  · skip
    refine lv_tableIn (off := 31) (tgt := 32) hx hb d_Utf8_markOfFirst_1 (by rw [h_1]; decide) (by rw [h_1]; decide) (by rw [h_1]; rfl) (by decide) ?_
    refine lv_sipush (v := nI 224) hx hb d_Utf8_markOfFirst_32 (by decide) ?_
    exact hQ _ _ 35 _ (nI 224) () d_Utf8_markOfFirst_35 rfl (congrArg nI (by unfold chM; (repeat' split) <;> omega)) (hP.sub [] rfl) (hD.sub [] (by decide) rfl) hS
  · skip
    refine lv_tableIn (off := 35) (tgt := 36) hx hb d_Utf8_markOfFirst_1 (by rw [h_1]; decide) (by rw [h_1]; decide) (by rw [h_1]; rfl) (by decide) ?_
    refine lv_sipush (v := nI 240) hx hb d_Utf8_markOfFirst_36 (by decide) ?_
    exact hQ _ _ 39 _ (nI 240) () d_Utf8_markOfFirst_39 rfl (congrArg nI (by unfold chM; (repeat' split) <;> omega)) (hP.sub [] rfl) (hD.sub [] (by decide) rfl) hS
  · skip
    refine lv_tableOut (tgt := 40) hx hb d_Utf8_markOfFirst_1 (by rw [nI_toInt (by omega)]; omega) (by decide) ?_
    refine lv_iconst (v := nI 0) hx hb d_Utf8_markOfFirst_40 (by decide) ?_
    exact hQ _ _ 41 _ (nI 0) () d_Utf8_markOfFirst_41 rfl (congrArg nI (by unfold chM; (repeat' split) <;> omega)) (hP.sub [] rfl) (hD.sub [] (by decide) rfl) hS
abbrev rm_Utf8_write : Room := { frames := 1, cells := 0, slots := 0, locals := 21 }
set_option maxHeartbeats 1000000 in
set_option maxRecDepth 100000 in
/-- a character more -/
theorem c_Utf8_write (l : Launch) (g : pc_G) (v : Nat) (q : Nat) (r : Nat) (n : Nat) (t : Nat → UInt8) (hv : v ≤ 1114111) (hn : n + chW v ≤ 32768) : pc_Cv (S := Nat × (Nat → UInt8)) l y_Utf8_write prog_8_method_6_code 4 rm_Utf8_write g [(q, .inr (1, [.ref r, .int (nI n)])), (r, .inl (g.2.1, 32768, .inl (bA t)))] [.int (nI v), .ref q] (fun u => u.1 = n + chW v ∧ bl u.2 u.1 = bl t n ++ chL v) (fun u => [(q, .inr (1, [.ref r, .int (nI u.1)])), (r, .inl (g.2.1, 32768, .inl (bA u.2)))]) := by
  refine pc_Cv.of (by decide) (by exact Nat.le_of_ble_eq_true rfl) ?_
  intro p e s m below meth c A Q hx hb hml hown hE hA hnm hQ hP hD ls hl
  have hS : va_S A s.heap s.heap [] := va_S.rf
  have hl : lv_has ls 4 [(0, .int (nI v)), (1, .ref q)] := hl
  have hz := chW_in v
  refine lv_iload_n hx hb d_Utf8_write_0 rfl (lv_at hl 0 rfl) ?_
  refine pc_i (wc := []) (wr := [(q, .inr (1, [.ref r, .int (nI n)])), (r, .inl (g.2.1, 32768, .inl (bA t)))]) (cells' := 0) (slots' := 0) hP hD hS hA [] [0, 1] rfl rfl (by decide) (by decide) rfl rfl (va_runS (n := 1) (As := [.int (nI v)]) (rest := []) ⟨hx, hb, hml, hown, hE.hts⟩ (c_Utf8_size l g v (by omega) _) ⟨pc_cb hE m_366 m_17 m_407 (by decide +kernel) ⟨by exact Nat.le_of_ble_eq_true rfl, by exact Nat.le_of_ble_eq_true rfl⟩, hE.w m_365⟩ (pc_pre hP hD hE hS hA [] (by decide) rfl [.int (nI v)]) rfl rfl hl.1 rfl (lv_room (by exact Nat.le_of_ble_eq_true rfl)) d_Utf8_write_1 ⟨by exact Nat.le_of_ble_eq_true rfl, by exact Nat.le_of_ble_eq_true rfl⟩) (fun r_2 u_1 H locs hw hP hD hS => ?_)
  obtain rfl := hw
  have hP : va_P g.1 pc_cl [(q, .inr (1, [.ref r, .int (nI n)])), (r, .inl (g.2.1, 32768, .inl (bA t)))] H := hP
  have hD : va_D A [(q, .inr (1, [.ref r, .int (nI n)])), (r, .inl (g.2.1, 32768, .inl (bA t)))] := hD
  refine lv_istore_n (lv' := [(2, .int (nI (chW v))), (0, .int (nI v)), (1, .ref q)]) hx hb d_Utf8_write_4 rfl hl (by decide) rfl (fun ls hl => ?_)
  refine lv_aload_n hx hb d_Utf8_write_5 rfl (lv_at hl 2 rfl) ?_
  refine lv_iload_n hx hb d_Utf8_write_6 rfl (lv_at hl 0 rfl) ?_
  refine pc_i (wc := []) (wr := [(q, .inr (1, [.ref r, .int (nI n)])), (r, .inl (g.2.1, 32768, .inl (bA t)))]) (cells' := 0) (slots' := 0) hP hD hS hA [] [0, 1] rfl rfl (by decide) (by decide) rfl rfl (va_runS (n := 1) (As := [.int (nI (chW v))]) (rest := [.ref q]) ⟨hx, hb, hml, hown, hE.hts⟩ (c_Utf8_markOfFirst l g (chW v) (by omega) _) ⟨pc_cb hE m_357 m_17 m_408 (by decide +kernel) ⟨by exact Nat.le_of_ble_eq_true rfl, by exact Nat.le_of_ble_eq_true rfl⟩, hE.w m_356⟩ (pc_pre hP hD hE hS hA [] (by decide) rfl [.int (nI (chW v))]) rfl rfl hl.1 rfl (lv_room (by exact Nat.le_of_ble_eq_true rfl)) d_Utf8_write_7 ⟨by exact Nat.le_of_ble_eq_true rfl, by exact Nat.le_of_ble_eq_true rfl⟩) (fun r_4 u_3 H locs hw hP hD hS => ?_)
  obtain rfl := hw
  have hP : va_P g.1 pc_cl [(q, .inr (1, [.ref r, .int (nI n)])), (r, .inl (g.2.1, 32768, .inl (bA t)))] H := hP
  have hD : va_D A [(q, .inr (1, [.ref r, .int (nI n)])), (r, .inl (g.2.1, 32768, .inl (bA t)))] := hD
  refine lv_iload_n hx hb d_Utf8_write_10 rfl (lv_at hl 1 rfl) ?_
  refine lv_bipush (v := nI 6) hx hb d_Utf8_write_11 (by decide) ?_
  refine lv_iload_n hx hb d_Utf8_write_13 rfl (lv_at hl 0 rfl) ?_
  refine lv_iconst (v := nI 1) hx hb d_Utf8_write_14 (by decide) ?_
  refine lv_isub hx hb d_Utf8_write_15 ?_
  refine pc_ti (y := nI ((chW v) - 1)) (pk_sub (by omega)) ?_
  refine lv_imul hx hb d_Utf8_write_16 ?_
  refine pc_ti (y := nI (6 * ((chW v) - 1))) (pk_mul _ _) ?_
  refine lv_iushr (v := nI (v / 2 ^ (6 * ((chW v) - 1)))) hx hb d_Utf8_write_17 (pc_ushr (by omega) (by omega)) ?_
  refine lv_iadd hx hb d_Utf8_write_18 ?_
  refine pc_ti (y := nI (chM (chW v) + (v / 2 ^ (6 * ((chW v) - 1))))) (nI_add _ _) ?_
  refine pc_v (wc := [(q, .inr (1, [.ref r, .int (nI n)])), (r, .inl (g.2.1, 32768, .inl (bA t)))]) (wr := []) (cells' := 0) (slots' := 0) hP hD hS hA [0, 1] [] rfl rfl (by decide) (by decide) rfl rfl (va_runVN (n := 1) (As := [.int (nI (chM (chW v) + (v / 2 ^ (6 * ((chW v) - 1)))))]) (rest := []) (C := R_Bytes) ⟨hx, hb, hml, hown, hE.hts⟩ (c_Bytes_add l g q r n t (chM (chW v) + (v / 2 ^ (6 * ((chW v) - 1)))) (by omega) _) ⟨pc_cn hE m_188 m_2 m_409 (by decide +kernel) ⟨by exact Nat.le_of_ble_eq_true rfl, by exact Nat.le_of_ble_eq_true rfl⟩, hE.w m_187, hE.w ms_3⟩ (pc_preV (ci := 1) (q0 := 0) hP hD hE hS hA [0, 1] (by decide) rfl [.int (nI (chM (chW v) + (v / 2 ^ (6 * ((chW v) - 1)))))] rfl rfl) rfl rfl hl.1 rfl (lv_room (by exact Nat.le_of_ble_eq_true rfl)) d_Utf8_write_19 ⟨by exact Nat.le_of_ble_eq_true rfl, by exact Nat.le_of_ble_eq_true rfl⟩) (fun u_5 H locs hw hP hD hS => ?_)
  have hP : va_P g.1 pc_cl [(q, .inr (1, [.ref r, .int (nI (n + 1))])), (r, .inl (g.2.1, 32768, .inl (bA (upB t n (chM (chW v) + (v / 2 ^ (6 * ((chW v) - 1))))))))] H := hP
  have hD : va_D A [(q, .inr (1, [.ref r, .int (nI (n + 1))])), (r, .inl (g.2.1, 32768, .inl (bA (upB t n (chM (chW v) + (v / 2 ^ (6 * ((chW v) - 1))))))))] := hD
  refine lv_iload_n hx hb d_Utf8_write_22 rfl (lv_at hl 0 rfl) ?_
  refine lv_iconst (v := nI 2) hx hb d_Utf8_write_23 (by decide) ?_
  refine lv_isub hx hb d_Utf8_write_24 ?_
  refine pc_ti (y := kD (chW v - 1)) (kD_2 hz.1) ?_
  refine lv_istore_n (lv' := [(3, .int (kD (chW v - 1))), (2, .int (nI (chW v))), (0, .int (nI v)), (1, .ref q)]) hx hb d_Utf8_write_25 rfl hl (by decide) rfl (fun ls hl => ?_)
  have lp_26 : ∀ (n9 : Nat) (j : Nat) (w : Nat) (f : Nat → UInt8) (hj : j ≤ chW v - 1) (hw2 : w = n + (chW v - j)) (hc : bl f w = bl t n ++ (chL v).take (chW v - j)) (hmu : j < n9) (H : Heap) (locs : List Loc) (hP : va_P g.1 pc_cl [(q, .inr (1, [.ref r, .int (nI w)])), (r, .inl (g.2.1, 32768, .inl (bA f)))] H) (hD : va_D A [(q, .inr (1, [.ref r, .int (nI w)])), (r, .inl (g.2.1, 32768, .inl (bA f)))]) (hS : va_S A s.heap H locs) (ls : Array Slot) (hl : lv_has ls 4 [(0, .int (nI v)), (1, .ref q), (2, .int (nI (chW v))), (3, .int (kD j))]), W p l e rm_Utf8_write s m ([.int (nI v), .ref q] : List Value).toArray below meth c H locs 0 0 Q (F0 m 26 ls []) := by
    intro n9
    induction n9 with
    | zero => intros; omega
    | succ n9 ih_26 =>
      intro j w f hj hw2 hc hmu H locs hP hD hS ls hl
      refine lv_iload_n hx hb d_Utf8_write_26 rfl (lv_at hl 3 rfl) ?_
      refine lv_if_lt (tgt := 53) hx hb d_Utf8_write_27 (by decide) (fun h_7 => ?_) (fun h_7 => ?_)
      · skip
        have hj0 : j = 0 := by rcases Nat.eq_zero_or_pos j with z | z; exact z; exact absurd h_7 (by rw [show j = (j - 1) + 1 by omega]; exact kD_pos (by omega))
        subst hj0
        exact hQ _ _ 53 _ (w, f) d_Utf8_write_53 (⟨by omega, by rw [hc, Nat.sub_zero, chL_all]⟩) (hP.sub [0, 1] rfl) (hD.sub [0, 1] (by decide) rfl) hS
      · skip
        obtain ⟨i, rfl⟩ : ∃ i, j = i + 1 := ⟨j - 1, by have : j ≠ 0 := fun z => h_7 (by rw [z, kD_0]; decide); omega⟩
        have hl : lv_has ls 4 [(0, .int (nI v)), (1, .ref q), (2, .int (nI (chW v))), (3, .int (nI i))] := by rw [← show kD (i + 1) = nI i from kD_s i]; exact hl
        refine lv_aload_n hx hb d_Utf8_write_30 rfl (lv_at hl 1 rfl) ?_
        refine lv_sipush (v := nI 128) hx hb d_Utf8_write_31 (by decide) ?_
        refine lv_iload_n hx hb d_Utf8_write_34 rfl (lv_at hl 0 rfl) ?_
        refine lv_bipush (v := nI 6) hx hb d_Utf8_write_35 (by decide) ?_
        refine lv_iload_n hx hb d_Utf8_write_37 rfl (lv_at hl 3 rfl) ?_
        refine lv_imul hx hb d_Utf8_write_38 ?_
        refine pc_ti (y := nI (6 * i)) (pk_mul _ _) ?_
        refine lv_iushr (v := nI (v / 2 ^ (6 * i))) hx hb d_Utf8_write_39 (pc_ushr (by omega) (by omega)) ?_
        refine lv_bipush (v := nI 63) hx hb d_Utf8_write_40 (by decide) ?_
        refine lv_iand hx hb d_Utf8_write_42 ?_
        refine pc_ti (y := nI ((v / 2 ^ (6 * i)) % 64)) (pk_andN (divlt (by omega)) 6 (by decide)) ?_
        refine lv_iadd hx hb d_Utf8_write_43 ?_
        refine pc_ti (y := nI (128 + ((v / 2 ^ (6 * i)) % 64))) (nI_add _ _) ?_
        refine pc_v (wc := [(q, .inr (1, [.ref r, .int (nI w)])), (r, .inl (g.2.1, 32768, .inl (bA f)))]) (wr := []) (cells' := 0) (slots' := 0) hP hD hS hA [0, 1] [] rfl rfl (by decide) (by decide) rfl rfl (va_runVN (n := 1) (As := [.int (nI (128 + ((v / 2 ^ (6 * i)) % 64)))]) (rest := []) (C := R_Bytes) ⟨hx, hb, hml, hown, hE.hts⟩ (c_Bytes_add l g q r w f (128 + ((v / 2 ^ (6 * i)) % 64)) (by omega) _) ⟨pc_cn hE m_188 m_2 m_409 (by decide +kernel) ⟨by exact Nat.le_of_ble_eq_true rfl, by exact Nat.le_of_ble_eq_true rfl⟩, hE.w m_187, hE.w ms_3⟩ (pc_preV (ci := 1) (q0 := 0) hP hD hE hS hA [0, 1] (by decide) rfl [.int (nI (128 + ((v / 2 ^ (6 * i)) % 64)))] rfl rfl) rfl rfl hl.1 rfl (lv_room (by exact Nat.le_of_ble_eq_true rfl)) d_Utf8_write_44 ⟨by exact Nat.le_of_ble_eq_true rfl, by exact Nat.le_of_ble_eq_true rfl⟩) (fun u_8 H locs hw hP hD hS => ?_)
        have hP : va_P g.1 pc_cl [(q, .inr (1, [.ref r, .int (nI (w + 1))])), (r, .inl (g.2.1, 32768, .inl (bA (upB f w (128 + ((v / 2 ^ (6 * i)) % 64))))))] H := hP
        have hD : va_D A [(q, .inr (1, [.ref r, .int (nI (w + 1))])), (r, .inl (g.2.1, 32768, .inl (bA (upB f w (128 + ((v / 2 ^ (6 * i)) % 64))))))] := hD
        refine lv_iinc (v := kD i) (lv' := [(3, .int (kD i)), (0, .int (nI v)), (1, .ref q), (2, .int (nI (chW v)))]) hx hb d_Utf8_write_47 hl (k := 3) rfl (kD_dec i) (by decide) rfl (fun ls hl => ?_)
        refine lv_goto (tgt := 26) hx hb d_Utf8_write_50 (by decide) ?_
        exact ih_26 i (w + 1) (upB f w (128 + ((v / 2 ^ (6 * i)) % 64))) (by omega) (by omega) (bl_chs (by omega) hc) (by omega) _ _ (hP.sub [0, 1] rfl) (hD.sub [0, 1] (by decide) rfl) hS _ (lv_sub hl [1, 2, 3, 0] rfl)
  exact lp_26 ((chW v - 1) + 1) (chW v - 1) (n + 1) (upB t n (chM (chW v) + (v / 2 ^ (6 * ((chW v) - 1))))) (by omega) (by omega) (bl_ch0 hv) (Nat.lt_succ_self _) _ _ (hP.sub [0, 1] rfl) (hD.sub [0, 1] (by decide) rfl) hS _ (lv_sub hl [2, 3, 1, 0] rfl)
