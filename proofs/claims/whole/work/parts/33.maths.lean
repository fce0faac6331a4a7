theorem m1_lt {a : Nat} (h : a < 2 ^ 31) : (-1 : Int32) < nI a := by
  rw [Int32.lt_iff_toInt_lt, nI_toInt h]
  show (-1 : Int) < a
  omega
theorem pc_max0 {a b : Nat} (ha : a < 2 ^ 31) (hb : b < 2 ^ 30) : (if nI 0 < nI a - nI b then nI a - nI b else nI 0) = nI (a - b) := by
  rcases Nat.lt_or_ge a b with h | h
  · have h1 := pc_sub_neg h hb
    rw [if_neg (by rw [nI_0]; exact Int32.lt_asymm h1), show a - b = 0 by omega]
  · rw [pk_sub h]
    rcases Nat.eq_zero_or_pos (a - b) with z | z
    · rw [z, if_neg (nI_nlt (Nat.le_refl 0) (by decide))]
    · rw [if_pos (nI_lt z (by omega))]
theorem search_end {t : Nat → UInt8} {n p0 up bc bd : Nat} (h4 : p0 + 4 ≤ n) (hup : up ≤ p0) (hlo : p0 - 4095 ≤ up) (hno : ∀ p, p0 - 4095 ≤ p → p < up → p + 4 ≤ n → bkt t p ≠ bkt t p0) (hbr : bRel (bst (bl t n) p0 (p0 - up)) bc bd) : bRel (best (bl t n) p0) bc bd := by
  unfold best
  rw [show min p0 4095 = (p0 - up) + (min p0 4095 - (p0 - up)) by omega]
  refine bRel_skip (fun x h1 h2 => ?_) hbr
  rcases Nat.lt_or_ge (cl (bl t n) (p0 - x) p0 (min 64 ((bl t n).length - p0))) 4 with q | q
  · exact q
  · exact absurd (cl_bkt (by omega) h4 q) (hno (p0 - x) (by omega) (by omega) (by omega))
theorem search_full {t : Nat → UInt8} {n p0 up bc bd : Nat} (h4 : p0 + 4 ≤ n) (hup : up ≤ p0) (hlo : p0 - 4095 ≤ up) (hm : min 64 (n - p0) ≤ bc) (hbr : bRel (bst (bl t n) p0 (p0 - up)) bc bd) : bRel (best (bl t n) p0) bc bd := by
  have h1 : 4 ≤ (bst (bl t n) p0 (p0 - up)).1 := by
    rcases Nat.lt_or_ge (bst (bl t n) p0 (p0 - up)).1 4 with q | q
    · have := hbr.2 q
      omega
    · exact q
  have h2 := hbr.1 h1
  unfold best
  rw [show min p0 4095 = (p0 - up) + (min p0 4095 - (p0 - up)) by omega, bst_full (by rw [bl_len]; omega)]
  exact hbr
theorem search_hit {t : Nat → UInt8} {n p0 up e9 bc bd cc : Nat} (h4 : p0 + 4 ≤ n) (hup : up ≤ p0) (he : prevB t n (bkt t p0) up = some e9) (hl : lcp t e9 p0 (min 64 (n - p0)) cc) (hbr : bRel (bst (bl t n) p0 (p0 - up)) bc bd) : bRel (bst (bl t n) p0 (p0 - e9)) (if bc < cc then cc else bc) (if bc < cc then p0 - e9 else bd) := by
  obtain ⟨h1, h2, h3, h5⟩ := prevB_some he
  have hs : bRel (bst (bl t n) p0 ((p0 - up) + (up - e9 - 1))) bc bd := by
    refine bRel_skip (fun x q1 q2 => ?_) hbr
    rcases Nat.lt_or_ge (cl (bl t n) (p0 - x) p0 (min 64 ((bl t n).length - p0))) 4 with q | q
    · exact q
    · exact absurd (cl_bkt (by omega) h4 q) (h5 (p0 - x) (by omega) (by omega) (by omega))
  have hc := bRel_hit (c := cc) hs (by
    rw [bl_len, show p0 - (p0 - up + (up - e9 - 1) + 1) = e9 by omega]
    exact cl_lcp (by omega) (by omega) hl)
  rw [show p0 - up + (up - e9 - 1) + 1 = p0 - e9 by omega] at hc
  exact hc
theorem bRel_lt {mb : Nat × Nat} {bc bd : Nat} (h : bRel mb bc bd) (hb : bc < 4) : mb.1 < 4 := by
  rcases Nat.lt_or_ge mb.1 4 with q | q
  · exact q
  · have := (h.1 q).1
    omega
theorem bRel_ge {mb : Nat × Nat} {bc bd : Nat} (h : bRel mb bc bd) (hb : 4 ≤ bc) : ¬ mb.1 < 4 ∧ bc = mb.1 ∧ bd = mb.2 := by
  have h1 : ¬ mb.1 < 4 := fun q => by have := h.2 q; omega
  exact ⟨h1, h.1 (by omega)⟩
