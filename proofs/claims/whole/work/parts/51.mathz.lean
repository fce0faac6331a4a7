/-! The reference's packing: does it fit, and what is there -/
def pkS (ft : Int32) (u : Nat → UInt8) (w : Nat) (D : List Nat) : Prop := (ft = 1 ∧ bl u w = D ∧ w ≤ 32768) ∨ (ft = 0 ∧ 32768 < D.length)
theorem pkS_0 {u1 : Nat → UInt8} {w1 n : Nat} {mt : Nat → UInt8} (hc : bl u1 w1 = (bl mt 0 ++ vL n).take 32768) : pkS (bI (0 + vsz n ≤ 32768)) u1 w1 (vL n) := by
  have h := vsz_in n
  have hl := wr_len hc
  rw [vL_len] at hl
  refine Or.inl ⟨bI_t (by omega), ?_, by omega⟩
  rw [hc, bl_0, List.nil_append, List.take_of_length_le (by rw [vL_len]; omega)]
theorem pkS_yes {ft : Int32} {u u3 : Nat → UInt8} {w w3 : Nat} {D E : List Nat} (h : pkS ft u w D) (h1 : bl u3 w3 = bl u w ++ E) (h2 : w3 ≤ 32768) : pkS (ft &&& nI 1) u3 w3 (D ++ E) := by
  rcases h with ⟨rfl, h4, h5⟩ | ⟨rfl, h4⟩
  · exact Or.inl ⟨by decide, by rw [h1, h4], h2⟩
  · exact Or.inr ⟨by decide, by rw [List.length_append]; omega⟩
theorem pkS_no {ft : Int32} {u u3 : Nat → UInt8} {w w3 : Nat} {D E : List Nat} (h : pkS ft u w D) (h1 : 32768 < w + E.length) : pkS (ft &&& nI 0) u3 w3 (D ++ E) := by
  rcases h with ⟨rfl, h4, h5⟩ | ⟨rfl, h4⟩
  · refine Or.inr ⟨by decide, ?_⟩
    have := congrArg List.length h4
    rw [bl_len] at this
    rw [List.length_append]
    omega
  · exact Or.inr ⟨by decide, by rw [List.length_append]; omega⟩
theorem pk_fits {u u1 : Nat → UInt8} {w w1 : Nat} {E : List Nat} (hc : bl u1 w1 = (bl u w ++ E).take 32768) (h : w + E.length ≤ 32768) : bl u1 w1 = bl u w ++ E := by
  rw [hc, List.take_of_length_le (by rw [List.length_append, bl_len]; exact h)]
theorem pk_end {ft : Int32} {u u2 : Nat → UInt8} {w w2 : Nat} {D E : List Nat} (h : pkS ft u w D) (hc : bl u2 w2 = (bl u w ++ E).take 32768) (hw : w2 ≤ 32768) : (ft &&& bI (w + E.length ≤ 32768) = nI 1 ∧ bl u2 w2 = D ++ E) ∨ (ft &&& bI (w + E.length ≤ 32768) = nI 0 ∧ 32768 < (D ++ E).length) := by
  rcases h with ⟨rfl, h4, h5⟩ | ⟨rfl, h4⟩
  · have := congrArg List.length h4
    rw [bl_len] at this
    by_cases hf : w + E.length ≤ 32768
    · exact Or.inl ⟨by rw [bI_t hf]; decide, by rw [pk_fits hc hf, h4]⟩
    · exact Or.inr ⟨by rw [bI_f hf]; decide, by rw [List.length_append]; omega⟩
  · refine Or.inr ⟨?_, by rw [List.length_append]; omega⟩
    unfold bI
    split <;> decide
theorem bst_s {L : List Nat} {k d mo ba : Nat} (h1 : 1 ≤ d) (h : bst L k (d - 1) = (mo, ba)) : bst L k (d + 1 - 1) = if cl L (k - d) k (min 64 (L.length - k)) ≤ mo then (mo, ba) else (cl L (k - d) k (min 64 (L.length - k)), d) := by
  obtain ⟨j, rfl⟩ : ∃ j, d = j + 1 := ⟨d - 1, by omega⟩
  rw [Nat.add_sub_cancel] at h ⊢
  show (if _ then _ else _) = _
  rw [h]
theorem bst_hi {L : List Nat} {k d mo ba n : Nat} (hn : L.length = n) (h1 : 1 ≤ d) (h : bst L k (d - 1) = (mo, ba)) (hc : mo < cl L (k - d) k (min 64 (n - k))) : bst L k (d + 1 - 1) = (cl L (k - d) k (min 64 (n - k)), d) := by
  rw [bst_s h1 h, hn, if_neg (by omega)]
theorem bst_lo {L : List Nat} {k d mo ba n : Nat} (hn : L.length = n) (h1 : 1 ≤ d) (h : bst L k (d - 1) = (mo, ba)) (hc : cl L (k - d) k (min 64 (n - k)) ≤ mo) : bst L k (d + 1 - 1) = (mo, ba) := by
  rw [bst_s h1 h, hn, if_pos hc]
theorem bst_best {L : List Nat} {k d mo ba : Nat} (h : bst L k (d - 1) = (mo, ba)) (hd : d - 1 = min k 4095) : best L k = (mo, ba) := by
  unfold best
  rw [← hd, h]
theorem best_at {L : List Nat} {k mo ba n : Nat} (hn : L.length = n) (h : best L k = (mo, ba)) : mo ≤ min 64 (n - k) ∧ ba ≤ 4095 ∧ ba ≤ k := by
  have := best_in L k
  rw [h, hn] at this
  exact ⟨this.1, this.2.1, this.2.2.1⟩
theorem pc_more {L : List Nat} {fu a k mo ba : Nat} {D T : List Nat} (h : k < L.length) (hb : best L k = (mo, ba)) (h4 : 4 ≤ mo) (hD : D ++ pcs L (fu + 1) a k = T) : (D ++ (plL L a k ++ ptL mo ba)) ++ pcs L fu (k + mo) (k + mo) = T := by
  rw [← hD, pcs_yes h (by rw [hb]; show ¬ mo < 4; omega), hb]
  simp only [List.append_assoc]
theorem pc_skip {L : List Nat} {fu a k mo ba : Nat} {D T : List Nat} (h : k < L.length) (hb : best L k = (mo, ba)) (h4 : mo < 4) (hD : D ++ pcs L (fu + 1) a k = T) : D ++ pcs L fu a (k + 1) = T := by
  rw [← hD, pcs_no h (by rw [hb]; exact h4)]
theorem pc_last {L : List Nat} {fu a k n : Nat} {D T : List Nat} (hn : L.length = n) (hk : k = n) (hf : 0 < fu) (hD : D ++ pcs L fu a k = T) : D ++ plL L a k = T := by
  rw [← hD, pcs_end hf (by omega), hn, hk]
theorem ptL_len (c d : Nat) : (ptL c d).length = vsz (2 * c + 1) + vsz d := by
  unfold ptL
  rw [List.length_append, vL_len, vL_len]
/-! long arithmetic over naturals -/
theorem lN_nat (a : Nat) : (lN a).toBitVec = BitVec.ofNat 64 a := rfl
theorem l_shl {x k : Nat} (hk : k < 32) : lN x <<< ((nI k).toInt64 &&& 63) = lN (x * 2 ^ k) := by
  have hs : (((nI k).toInt64 &&& 63).toBitVec.smod 64).toNat = k := by
    have : ∀ k : Fin 32, (((nI k.val).toInt64 &&& 63).toBitVec.smod 64).toNat = k.val := by decide +kernel
    exact this ⟨k, hk⟩
  apply Int64.toBitVec_inj.mp
  show (lN x).toBitVec <<< (((nI k).toInt64 &&& 63).toBitVec.smod 64) = _
  apply BitVec.eq_of_toNat_eq
  rw [BitVec.shiftLeft_eq', hs, lN_nat, lN_nat, BitVec.toNat_shiftLeft, BitVec.toNat_ofNat, BitVec.toNat_ofNat, Nat.shiftLeft_eq]
  exact Nat.mod_mul_mod _ _ _
theorem lN_toI {n : Nat} (h : n < 2 ^ 62) : (lN n).toInt = (n : Int) := lg_ofNat_toInt (by omega)
theorem lN_gt {a b : Nat} (ha : a < 2 ^ 62) (hb : b < 2 ^ 62) : lN a < lN b ↔ a < b := by
  rw [Int64.lt_iff_toInt_lt, lN_toI ha, lN_toI hb]
  omega
theorem l_cmp {x y : Nat} (hx : x < 2 ^ 62) (hy : y < 2 ^ 62) : (lg_cmp (lN x) (lN y) ≤ 0 → x ≤ y) ∧ (¬ lg_cmp (lN x) (lN y) ≤ 0 → y < x) := by
  unfold lg_cmp
  by_cases h1 : lN y < lN x
  · have := (lN_gt hy hx).mp h1
    rw [if_pos h1]
    exact ⟨fun z => absurd z (by decide), fun _ => this⟩
  · have h2 : ¬ y < x := fun z => h1 ((lN_gt hy hx).mpr z)
    rw [if_neg h1]
    refine ⟨fun _ => by omega, fun z => ?_⟩
    exfalso
    apply z
    split <;> decide
