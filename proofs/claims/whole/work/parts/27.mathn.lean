/-! PACKED bytes, taken apart. -/
/-- a plain piece of k bytes: the place behind it, and what is there then -/
def plStep (L : List Nat) (p : Nat) (o : List Nat) (k : Nat) : Option (Nat × List Nat) := if k < 1 ∨ L.length - p < k then none else some (p + k, o ++ (L.drop p).take k)
/-- a pointed piece of k bytes -/
def poStep (L : List Nat) (p : Nat) (o : List Nat) (k : Nat) : Option (Nat × List Nat) := match readV L p with
  | none => none
  | some (d, q) => if k < 4 ∨ d < 1 ∨ o.length < d then none else some (q, backL d k o)
/-- a piece of at most mo bytes -/
def piStep (L : List Nat) (p : Nat) (o : List Nat) (mo : Nat) : Option (Nat × List Nat) := match readV L p with
  | none => none
  | some (v, q) => if mo < v / 2 then none else if v % 2 = 0 then plStep L q o (v / 2) else poStep L q o (v / 2)
/-- pieces till there are all -/
def unA (L : List Nat) (all : Nat) : Nat → Nat → List Nat → Option (List Nat)
  | 0, _, _ => none
  | f + 1, p, o => if all ≤ o.length then (if p = L.length then some o else none) else match piStep L p o (all - o.length) with
    | none => none
    | some (q, o2) => unA L all f q o2
def unP (L : List Nat) (p : Nat) : Option (List Nat) := match readV L p with
  | none => none
  | some (all, q) => if 32768 < all then none else unA L all (all + 1) q []
theorem backL_len (d : Nat) : ∀ (k : Nat) (o : List Nat), (backL d k o).length = o.length + k
  | 0, o => rfl
  | k + 1, o => by
    show (backL d k (o ++ [_])).length = _
    rw [backL_len d k]
    simp
    omega
theorem plStep_len {L o o2 : List Nat} {p k q : Nat} (hp : p ≤ L.length) (h : plStep L p o k = some (q, o2)) : q ≤ L.length ∧ 1 ≤ k ∧ o2.length = o.length + k := by
  unfold plStep at h
  split at h
  · cases h
  · simp only [Option.some.injEq, Prod.mk.injEq] at h
    obtain ⟨h1, h2⟩ := h
    subst h1; subst h2
    simp
    omega
theorem poStep_len {L o o2 : List Nat} {p k q : Nat} (h : poStep L p o k = some (q, o2)) : q ≤ L.length ∧ 4 ≤ k ∧ o2.length = o.length + k := by
  unfold poStep at h
  split at h
  · cases h
  · rename_i d q' hr
    split at h
    · cases h
    · simp only [Option.some.injEq, Prod.mk.injEq] at h
      obtain ⟨h1, h2⟩ := h
      subst h1; subst h2
      have := readV_in hr
      rw [backL_len]
      omega
theorem piStep_len {L o o2 : List Nat} {p mo q : Nat} (h : piStep L p o mo = some (q, o2)) : q ≤ L.length ∧ o.length < o2.length ∧ o2.length ≤ o.length + mo := by
  unfold piStep at h
  split at h
  · cases h
  · rename_i v q' hr
    have := readV_in hr
    split at h
    · cases h
    · split at h
      · have := plStep_len (by omega) h
        omega
      · have := poStep_len h
        omega
/-- what a step answers: 1 and the run made longer, or 0 -/
def stepRes (o : Option (Nat × List Nat)) (r : Int32) (p2 n3 : Nat) (t3 : Nat → UInt8) (n : Nat) : Prop := (r = 1 ∧ o = some (p2, bl t3 n3) ∧ p2 ≤ n ∧ n3 ≤ 32768) ∨ (r = 0 ∧ o = none ∧ p2 ≤ n ∧ n3 ≤ 32768)
theorem bl_app (t : Nat → UInt8) (n k : Nat) : bl t (n + k) = bl t n ++ (List.range k).map (fun j => bN t (n + j)) := by
  induction k with
  | zero => simp
  | succ k ih =>
    rw [← Nat.add_assoc, bl_succ, ih, List.range_succ]
    simp
theorem bl_drop {t : Nat → UInt8} {n p k : Nat} (h : p + k ≤ n) : ((bl t n).drop p).take k = (List.range k).map (fun j => bN t (p + j)) := by
  apply List.ext_getElem
  · simp [bl_len]
    omega
  · intro i h1 h2
    simp [bl]
theorem bl_cpy {t t2 : Nat → UInt8} {n n2 p k : Nat} (h : p + k ≤ n) : bl (va_cpy t t2 p n2 k) (n2 + k) = bl t2 n2 ++ ((bl t n).drop p).take k := by
  rw [bl_app, bl_drop h]
  congr 1
  · apply bl_eq
    intro j hj
    unfold bN
    rw [pk_cpy_out (Or.inl hj)]
  · apply List.map_congr_left
    intro j hj
    have := List.mem_range.mp hj
    unfold bN
    rw [pk_cpy_in (by omega) (by omega), show n2 + j - n2 = j by omega]
theorem unA_end {L o : List Nat} {all f p : Nat} (hf : 0 < f) (h : all ≤ o.length) (hp : p = L.length) : unA L all f p o = some o := by
  obtain ⟨i, rfl⟩ : ∃ i, f = i + 1 := ⟨f - 1, by omega⟩
  unfold unA
  rw [if_pos h, if_pos hp]
theorem unA_over {L o : List Nat} {all f p : Nat} (h : all ≤ o.length) (hp : p ≠ L.length) : unA L all f p o = none := by
  cases f with
  | zero => rfl
  | succ f =>
    unfold unA
    rw [if_pos h, if_neg hp]
theorem unA_bad {L o : List Nat} {all f p : Nat} (h : o.length < all) (hs : piStep L p o (all - o.length) = none) : unA L all f p o = none := by
  cases f with
  | zero => rfl
  | succ f =>
    unfold unA
    rw [if_neg (by omega), hs]
theorem unA_more {L o o2 : List Nat} {all f p q : Nat} (h : o.length < all) (hs : piStep L p o (all - o.length) = some (q, o2)) : unA L all (f + 1) p o = unA L all f q o2 := by
  conv => lhs; unfold unA
  rw [if_neg (by omega), hs]
theorem bl_0 (t : Nat → UInt8) : bl t 0 = [] := rfl
/-- the first bytes of a longer run -/
theorem bl_pre {t : Nat → UInt8} {n : Nat} {L : List Nat} (h : bl t n = L) {j : Nat} (hj : j < n) : bN t j = L.getD j 0 := by rw [← h, bl_at hj]
