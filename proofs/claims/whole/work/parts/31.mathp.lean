/-! PACKED bytes, put together. -/
/-- four bytes as the bucket takes them, and the bucket -/
def four (t : Nat → UInt8) (p : Nat) : Int32 := ((nI (bN t p) <<< (nI 24 &&& 31)) ||| (nI (bN t (p + 1)) <<< (nI 16 &&& 31)) ||| (nI (bN t (p + 2)) <<< (nI 8 &&& 31))) ||| nI (bN t (p + 3))
def bkt (t : Nat → UInt8) (p : Nat) : Nat := (four t p * (-1640531535)).toBitVec.toNat / 2 ^ 20
theorem bkt_lt (t : Nat → UInt8) (p : Nat) : bkt t p < 4096 := by
  unfold bkt
  have := (four t p * (-1640531535)).toBitVec.isLt
  omega
theorem ushr20 (x : Int32) : (x.toUInt32 >>> ((nI 20).toUInt32 &&& Int32.toUInt32 31)).toInt32 = nI (x.toBitVec.toNat / 2 ^ 20) := by
  apply Int32.toBitVec_inj.mp
  apply BitVec.eq_of_toNat_eq
  rw [pk_ushr x (nI 20) 20 (by decide), pk_tn]
  have := x.toBitVec.isLt
  omega
theorem bkt_eq {t : Nat → UInt8} {a b : Nat} (h : ∀ j, j < 4 → bN t (a + j) = bN t (b + j)) : bkt t a = bkt t b := by
  unfold bkt four
  have h0 := h 0 (by omega)
  have h1 := h 1 (by omega)
  have h2 := h 2 (by omega)
  have h3 := h 3 (by omega)
  simp only [Nat.add_zero] at h0
  rw [h0, h1, h2, h3]
/-- the nearest place before P in the bucket b -/
def prevB (t : Nat → UInt8) (n b : Nat) : Nat → Option Nat
  | 0 => none
  | P + 1 => if P + 4 ≤ n ∧ bkt t P = b then some P else prevB t n b P
def encO : Option Nat → Int32
  | none => -1
  | some p => nI p
theorem prevB_some {t : Nat → UInt8} {n b : Nat} : ∀ {P e : Nat}, prevB t n b P = some e → e < P ∧ e + 4 ≤ n ∧ bkt t e = b ∧ ∀ p, e < p → p < P → p + 4 ≤ n → bkt t p ≠ b
  | 0, e, h => by simp [prevB] at h
  | P + 1, e, h => by
    unfold prevB at h
    split at h
    · rename_i hc
      cases h
      exact ⟨by omega, hc.1, hc.2, fun p h1 h2 => by omega⟩
    · rename_i hc
      obtain ⟨h1, h2, h3, h4⟩ := prevB_some h
      refine ⟨by omega, h2, h3, fun p q1 q2 q3 q4 => ?_⟩
      by_cases e1 : p = P
      · subst e1
        exact hc ⟨q3, q4⟩
      · exact h4 p q1 (by omega) q3 q4
theorem prevB_none {t : Nat → UInt8} {n b : Nat} : ∀ {P : Nat}, prevB t n b P = none → ∀ p, p < P → p + 4 ≤ n → bkt t p ≠ b
  | 0, h => fun p h1 => by omega
  | P + 1, h => by
    unfold prevB at h
    split at h
    · cases h
    · rename_i hc
      intro p h1 h2 h3
      by_cases e1 : p = P
      · subst e1
        exact hc ⟨h2, h3⟩
      · exact prevB_none h p (by omega) h2 h3
/-- the chains, before the place P is remembered -/
def chOK (t : Nat → UInt8) (n P : Nat) (fa fb : Nat → Int32) : Prop := (∀ b, b < 4096 → fa b = encO (prevB t n b P)) ∧ ∀ p, p < P → P ≤ p + 4096 → p + 4 ≤ n → fb (p % 4096) = encO (prevB t n (bkt t p) p)
theorem chOK_0 {t : Nat → UInt8} {n : Nat} {fa fb : Nat → Int32} (h : ∀ j, j < 4096 → fa j = -1) : chOK t n 0 fa fb := ⟨fun b hb => h b hb, fun p hp => by omega⟩
theorem chOK_skip {t : Nat → UInt8} {n P : Nat} {fa fb : Nat → Int32} (h : chOK t n P fa fb) (hP : n < P + 4) : chOK t n (P + 1) fa fb := by
  refine ⟨fun b hb => ?_, fun p h1 h2 h3 => h.2 p (by omega) (by omega) h3⟩
  unfold prevB
  rw [if_neg (by omega)]
  exact h.1 b hb
theorem chOK_put {t : Nat → UInt8} {n P : Nat} {fa fb : Nat → Int32} (h : chOK t n P fa fb) (hP : P + 4 ≤ n) : chOK t n (P + 1) (upd fa (bkt t P) (nI P)) (upd fb (P % 4096) (fa (bkt t P))) := by
  refine ⟨fun b hb => ?_, fun p h1 h2 h3 => ?_⟩
  · unfold prevB
    by_cases e : b = bkt t P
    · rw [e, pk_us, if_pos ⟨hP, rfl⟩]
      rfl
    · rw [pk_un e, if_neg (fun z => e z.2.symm)]
      exact h.1 b hb
  · by_cases e : p = P
    · subst e
      rw [pk_us]
      exact h.1 _ (bkt_lt t p)
    · rw [pk_un (by omega)]
      exact h.2 p (by omega) (by omega) h3
/-- how many bytes are the same, on lists -/
def clF (L : List Nat) (a b : Nat) : Nat → Nat → Nat
  | 0, c => c
  | f + 1, c => if L.getD (a + c) 0 = L.getD (b + c) 0 then clF L a b f (c + 1) else c
def cl (L : List Nat) (a b m : Nat) : Nat := clF L a b m 0
theorem clF_le (L : List Nat) (a b : Nat) : ∀ f c, c ≤ clF L a b f c ∧ clF L a b f c ≤ c + f
  | 0, c => by simp [clF]
  | f + 1, c => by
    unfold clF
    split
    · have := clF_le L a b f (c + 1)
      omega
    · omega
theorem cl_le (L : List Nat) (a b m : Nat) : cl L a b m ≤ m := by
  have := (clF_le L a b m 0).2
  unfold cl
  omega
theorem clF_eq {L : List Nat} {a b m c : Nat} (hc : c ≤ m) (he : ∀ j, j < c → L.getD (a + j) 0 = L.getD (b + j) 0) (hn : c = m ∨ L.getD (a + c) 0 ≠ L.getD (b + c) 0) : ∀ k i, i + k = c → clF L a b (m - i) i = c
  | 0, i, h => by
    have h : i = c := by omega
    subst h
    cases hf : m - i with
    | zero => rfl
    | succ f =>
      unfold clF
      rw [if_neg]
      rcases hn with hn | hn
      · omega
      · exact hn
  | k + 1, i, h => by
    rw [show m - i = (m - (i + 1)) + 1 by omega]
    unfold clF
    rw [if_pos (he i (by omega))]
    exact clF_eq hc he hn k (i + 1) (by omega)
theorem cl_eq {L : List Nat} {a b m c : Nat} (hc : c ≤ m) (he : ∀ j, j < c → L.getD (a + j) 0 = L.getD (b + j) 0) (hn : c = m ∨ L.getD (a + c) 0 ≠ L.getD (b + c) 0) : cl L a b m = c := by
  have := clF_eq hc he hn c 0 (by omega)
  rwa [Nat.sub_zero] at this
theorem cl_lcp {t : Nat → UInt8} {n a b m c : Nat} (ha : a < b) (hb : b + m ≤ n) (h : lcp t a b m c) : cl (bl t n) a b m = c := by
  obtain ⟨h1, h2, h3⟩ := h
  refine cl_eq h1 (fun j hj => ?_) ?_
  · rw [bl_at (by omega), bl_at (by omega)]
    exact h2 j hj
  · rcases Nat.lt_or_ge c m with q | q
    · right
      rw [bl_at (by omega), bl_at (by omega)]
      rcases h3 with z | z
      · omega
      · exact z
    · left
      omega
theorem clF_same (L : List Nat) (a b : Nat) : ∀ f c j, c ≤ j → j < clF L a b f c → L.getD (a + j) 0 = L.getD (b + j) 0
  | 0, c, j, h1, h2 => by simp [clF] at h2; omega
  | f + 1, c, j, h1, h2 => by
    unfold clF at h2
    split at h2
    · rename_i he
      by_cases e : j = c
      · subst e
        exact he
      · exact clF_same L a b f (c + 1) j (by omega) h2
    · omega
theorem cl_same {L : List Nat} {a b m j : Nat} (h : j < cl L a b m) : L.getD (a + j) 0 = L.getD (b + j) 0 := clF_same L a b m 0 j (by omega) h
/-- the greatest count and its least distance, of the distances up to d -/
def bst (L : List Nat) (k : Nat) : Nat → Nat × Nat
  | 0 => (0, 0)
  | d + 1 => if cl L (k - (d + 1)) k (min 64 (L.length - k)) ≤ (bst L k d).1 then bst L k d else (cl L (k - (d + 1)) k (min 64 (L.length - k)), d + 1)
def best (L : List Nat) (k : Nat) : Nat × Nat := bst L k (min k 4095)
theorem bst_in (L : List Nat) (k : Nat) : ∀ d, (bst L k d).1 ≤ min 64 (L.length - k) ∧ (bst L k d).2 ≤ d ∧ (0 < (bst L k d).1 → 0 < (bst L k d).2)
  | 0 => by simp [bst]
  | d + 1 => by
    have ih := bst_in L k d
    unfold bst
    split
    · exact ⟨ih.1, by omega, ih.2.2⟩
    · exact ⟨cl_le _ _ _ _, by simp, by simp⟩
theorem best_in (L : List Nat) (k : Nat) : (best L k).1 ≤ min 64 (L.length - k) ∧ (best L k).2 ≤ 4095 ∧ (best L k).2 ≤ k ∧ (0 < (best L k).1 → 0 < (best L k).2) := by
  have := bst_in L k (min k 4095)
  unfold best
  exact ⟨this.1, by omega, by omega, this.2.2⟩
/-- what a search by buckets knows of it -/
def bRel (mb : Nat × Nat) (bc bd : Nat) : Prop := (4 ≤ mb.1 → bc = mb.1 ∧ bd = mb.2) ∧ (mb.1 < 4 → bc < 4)
theorem bRel_0 (L : List Nat) (k : Nat) : bRel (bst L k 0) 0 0 := ⟨fun h => by simp [bst] at h, fun _ => by omega⟩
/-- distances whose bytes aren't in the bucket change nothing -/
theorem bRel_skip {L : List Nat} {k bc bd : Nat} : ∀ {j d : Nat}, (∀ x, d < x → x ≤ d + j → cl L (k - x) k (min 64 (L.length - k)) < 4) → bRel (bst L k d) bc bd → bRel (bst L k (d + j)) bc bd
  | 0, d, h, hr => hr
  | j + 1, d, h, hr => by
    have ih := bRel_skip (j := j) (fun x h1 h2 => h x h1 (by omega)) hr
    have hc := h (d + (j + 1)) (by omega) (by omega)
    rw [show d + (j + 1) = (d + j) + 1 by omega] at hc ⊢
    unfold bst
    split
    · exact ih
    · rename_i hn
      refine ⟨fun q => by simp at q; omega, fun _ => ?_⟩
      rcases Nat.lt_or_ge (bst L k (d + j)).1 4 with q | q
      · exact ih.2 q
      · omega
/-- a count found -/
theorem bRel_hit {L : List Nat} {k bc bd d c : Nat} (hr : bRel (bst L k d) bc bd) (hc : cl L (k - (d + 1)) k (min 64 (L.length - k)) = c) : bRel (bst L k (d + 1)) (if bc < c then c else bc) (if bc < c then d + 1 else bd) := by
  unfold bst
  rw [hc]
  rcases Nat.lt_or_ge (bst L k d).1 4 with q | q
  · have hb := hr.2 q
    split
    · rename_i hle
      refine ⟨fun z => by omega, fun _ => ?_⟩
      split <;> omega
    · refine ⟨fun z => ?_, fun z => ?_⟩
      · simp at z ⊢
        exact ⟨fun q9 => by omega, fun q9 => by omega⟩
      · simp at z
        split <;> omega
  · obtain ⟨e1, e2⟩ := hr.1 q
    split
    · rename_i hle
      rw [if_neg (by omega), if_neg (by omega)]
      exact ⟨fun _ => ⟨e1, e2⟩, fun z => by omega⟩
    · rw [if_pos (by omega), if_pos (by omega)]
      exact ⟨fun _ => ⟨rfl, rfl⟩, fun z => by simp at z; omega⟩
/-- no count can be greater -/
theorem bst_full {L : List Nat} {k d : Nat} (h : min 64 (L.length - k) ≤ (bst L k d).1) : ∀ j, bst L k (d + j) = bst L k d
  | 0 => rfl
  | j + 1 => by
    have ih := bst_full h j
    rw [show d + (j + 1) = (d + j) + 1 by omega]
    conv => lhs; unfold bst
    rw [ih, if_pos (Nat.le_trans (cl_le _ _ _ _) h)]
/-- a count of four or more lies in the bucket -/
theorem cl_bkt {t : Nat → UInt8} {n k x : Nat} (hx : 0 < x) (hk : k + 4 ≤ n) (h : 4 ≤ cl (bl t n) (k - x) k (min 64 ((bl t n).length - k))) : bkt t (k - x) = bkt t k := by
  rw [bl_len] at h
  apply bkt_eq
  intro j hj
  have := cl_same (L := bl t n) (a := k - x) (b := k) (m := min 64 (n - k)) (j := j) (by omega)
  rwa [bl_at (by omega), bl_at (by omega)] at this
theorem pc_min (a b : Nat) (ha : a < 2 ^ 31) (hb : b < 2 ^ 31) : (if nI b < nI a then nI b else nI a) = nI (min a b) := by
  by_cases h : b < a
  · rw [if_pos (nI_lt h ha), Nat.min_eq_right (by omega)]
  · rw [if_neg (nI_nlt (by omega) hb), Nat.min_eq_left (by omega)]
theorem pc_sub_neg {a b : Nat} (h : a < b) (hb : b < 2 ^ 30) : nI a - nI b < 0 := pk_sneg hb h
/-- a plain piece's bytes, a pointer's bytes, all pieces -/
def plL (L : List Nat) (a b : Nat) : List Nat := if b ≤ a then [] else vL (2 * (b - a)) ++ (L.drop a).take (b - a)
def ptL (c d : Nat) : List Nat := vL (2 * c + 1) ++ vL d
def pcs (L : List Nat) : Nat → Nat → Nat → List Nat
  | 0, _, _ => []
  | f + 1, a, k => if L.length ≤ k then plL L a L.length else if (best L k).1 < 4 then pcs L f a (k + 1) else plL L a k ++ (ptL (best L k).1 (best L k).2 ++ pcs L f (k + (best L k).1) (k + (best L k).1))
def packL (L : List Nat) : List Nat := vL L.length ++ pcs L (L.length + 1) 0 0
theorem pcs_end {L : List Nat} {f a k : Nat} (hf : 0 < f) (h : L.length ≤ k) : pcs L f a k = plL L a L.length := by
  obtain ⟨i, rfl⟩ : ∃ i, f = i + 1 := ⟨f - 1, by omega⟩
  unfold pcs
  rw [if_pos h]
theorem pcs_no {L : List Nat} {f a k : Nat} (h : k < L.length) (hb : (best L k).1 < 4) : pcs L (f + 1) a k = pcs L f a (k + 1) := by
  conv => lhs; unfold pcs
  rw [if_neg (by omega), if_pos hb]
theorem pcs_yes {L : List Nat} {f a k : Nat} (h : k < L.length) (hb : ¬ (best L k).1 < 4) : pcs L (f + 1) a k = plL L a k ++ (ptL (best L k).1 (best L k).2 ++ pcs L f (k + (best L k).1) (k + (best L k).1)) := by
  conv => lhs; unfold pcs
  rw [if_neg (by omega), if_neg hb]
