/-- the shift of a varint's part stays within an int -/
theorem shl_ok {k h b : Nat} (hk : k ≤ 4) (hh : h = 7 * k) (h7 : k = 4 → b ≤ 7) : b % 128 * 2 ^ h < 2 ^ 32 := by
  subst hh
  rcases five hk with rfl | rfl | rfl | rfl | rfl <;> simp at h7 ⊢ <;> omega
theorem or_put {a b h : Nat} (ha : a < 2 ^ h) : nI a ||| nI (b * 2 ^ h) = nI (a + b * 2 ^ h) := by rw [nI_or, or_add ha]
theorem chS_in (b : Nat) : chS b ≤ 4 := by
  unfold chS
  repeat' split
  all_goals omega
theorem chM_le {b : Nat} (h : chS b ≠ 0) : chM (chS b) ≤ b := by
  unfold chS at h ⊢
  repeat' split
  all_goals (simp [chM]; try omega)
  all_goals simp_all
theorem chM_top {b : Nat} (hb : b < 256) (h : chS b ≠ 0) : b - chM (chS b) < 128 := by
  unfold chS at h ⊢
  repeat' split
  all_goals (simp [chM]; try omega)
  all_goals simp_all
theorem ch_bound {k a : Nat} (h1 : 1 ≤ k) (h4 : k ≤ 4) (ha : a < 128 * 64 ^ (k - 1)) : a < 2 ^ 25 := by
  rcases (show k = 1 ∨ k = 2 ∨ k = 3 ∨ k = 4 by omega) with rfl | rfl | rfl | rfl <;> simp at ha <;> omega
theorem ch_grow {k a b : Nat} (h1 : 1 ≤ k) (hb : b < 64) (ha : a < 128 * 64 ^ (k - 1)) : a * 64 + b < 128 * 64 ^ (k + 1 - 1) := by
  obtain ⟨i, rfl⟩ : ∃ i, k = i + 1 := ⟨k - 1, by omega⟩
  simp only [Nat.add_sub_cancel] at ha ⊢
  rw [Nat.pow_succ]
  omega
theorem chV_short {L : List Nat} {p : Nat} (h : L.length ≤ p) : chV L p = none := by
  unfold chV
  rw [if_pos h]
theorem chV_nof {L : List Nat} {p b : Nat} (hb : L.getD p 0 = b) (hs : chS b = 0) : chV L p = none := by
  unfold chV
  split
  · rfl
  · rw [hb, if_pos hs]
theorem chV_eq {L : List Nat} {p b : Nat} (hp : p < L.length) (hb : L.getD p 0 = b) (hs : chS b ≠ 0) : chV L p = match chR L (chS b - 1) (p + 1) (b - chM (chS b)) with
    | none => none
    | some c => if (c ≤ 1114111 ∧ (c < 55296 ∨ 57343 < c)) ∧ chW c = chS b then some (c, p + chS b) else none := by
  unfold chV
  rw [if_neg (by omega), hb, if_neg hs]
  cases chR L (chS b - 1) (p + 1) (b - chM (chS b)) <;> rfl
theorem chV_fail {L : List Nat} {p b : Nat} (hp : p < L.length) (hb : L.getD p 0 = b) (hs : chS b ≠ 0) (h : chR L (chS b - 1) (p + 1) (b - chM (chS b)) = none) : chV L p = none := by
  rw [chV_eq hp hb hs, h]
theorem chV_bad {L : List Nat} {p b c : Nat} (hp : p < L.length) (hb : L.getD p 0 = b) (hs : chS b ≠ 0) (h : chR L (chS b - 1) (p + 1) (b - chM (chS b)) = some c) (hn : ¬ ((c ≤ 1114111 ∧ (c < 55296 ∨ 57343 < c)) ∧ chW c = chS b)) : chV L p = none := by
  rw [chV_eq hp hb hs, h]
  exact if_neg hn
theorem chV_ok {L : List Nat} {p b c : Nat} (hp : p < L.length) (hb : L.getD p 0 = b) (hs : chS b ≠ 0) (h : chR L (chS b - 1) (p + 1) (b - chM (chS b)) = some c) (hn : (c ≤ 1114111 ∧ (c < 55296 ∨ 57343 < c)) ∧ chW c = chS b) : chV L p = some (c, p + chS b) := by
  rw [chV_eq hp hb hs, h]
  exact if_pos hn
theorem chR_short {L : List Nat} {j p a : Nat} (hj : 0 < j) (h : L.length ≤ p) : chR L j p a = none := by
  obtain ⟨i, rfl⟩ : ∃ i, j = i + 1 := ⟨j - 1, by omega⟩
  unfold chR
  rw [if_pos h]
theorem chR_bad {L : List Nat} {j p a b : Nat} (hj : 0 < j) (hb : L.getD p 0 = b) (h : b < 128 ∨ 192 ≤ b) : chR L j p a = none := by
  obtain ⟨i, rfl⟩ : ∃ i, j = i + 1 := ⟨j - 1, by omega⟩
  unfold chR
  split
  · rfl
  · rw [hb, if_pos h]
theorem chR_more {L : List Nat} {s k p a b : Nat} (hk : k < s) (hp : p < L.length) (hb : L.getD p 0 = b) (h1 : 128 ≤ b) (h2 : b < 192) : chR L (s - k) p a = chR L (s - (k + 1)) (p + 1) (a * 64 + (b - 128)) := by
  rw [show s - k = (s - (k + 1)) + 1 by omega]
  conv => lhs; unfold chR
  rw [if_neg (by omega), hb, if_neg (by omega)]
theorem chV_in {L : List Nat} {p v q : Nat} (h : chV L p = some (v, q)) : p < q ∧ v ≤ 1114111 := by
  unfold chV at h
  split at h
  · cases h
  · split at h
    · cases h
    · split at h
      · cases h
      · split at h
        · simp only [Option.some.injEq, Prod.mk.injEq] at h
          omega
        · cases h
/-- what the reading of a whole list answers: 1 and the list, or 0 -/
def allRes (o : Option (List Nat)) (r : Int32) (n2 : Nat) (f2 : Nat → Int32) : Prop := (r = 1 ∧ ∃ ns : List Nat, o = some ns ∧ n2 = ns.length ∧ n2 ≤ 32768 ∧ ∀ j, j < n2 → f2 j = nI (ns.getD j 0)) ∨ (r = 0 ∧ o = none)
theorem numsA_end {L : List Nat} {f p : Nat} {acc : List Nat} (hf : 0 < f) (h : L.length ≤ p) : numsA L f p acc = some acc := by
  obtain ⟨i, rfl⟩ : ∃ i, f = i + 1 := ⟨f - 1, by omega⟩
  unfold numsA
  rw [if_pos h]
theorem numsA_bad {L : List Nat} {f p : Nat} {acc : List Nat} (h : p < L.length) (hr : readV L p = none) : numsA L f p acc = none := by
  cases f with
  | zero => rfl
  | succ f =>
    unfold numsA
    rw [if_neg (by omega), hr]
theorem numsA_more {L : List Nat} {f p v q : Nat} {acc : List Nat} (h : p < L.length) (hr : readV L p = some (v, q)) : numsA L (f + 1) p acc = numsA L f q (acc ++ [v]) := by
  conv => lhs; unfold numsA
  rw [if_neg (by omega), hr]
theorem chsA_end {L : List Nat} {f p : Nat} {acc : List Nat} (hf : 0 < f) (h : L.length ≤ p) : chsA L f p acc = some acc := by
  obtain ⟨i, rfl⟩ : ∃ i, f = i + 1 := ⟨f - 1, by omega⟩
  unfold chsA
  rw [if_pos h]
theorem chsA_bad {L : List Nat} {f p : Nat} {acc : List Nat} (h : p < L.length) (hr : chV L p = none) : chsA L f p acc = none := by
  cases f with
  | zero => rfl
  | succ f =>
    unfold chsA
    rw [if_neg (by omega), hr]
theorem chsA_more {L : List Nat} {f p v q : Nat} {acc : List Nat} (h : p < L.length) (hr : chV L p = some (v, q)) : chsA L (f + 1) p acc = chsA L f q (acc ++ [v]) := by
  conv => lhs; unfold chsA
  rw [if_neg (by omega), hr]
/-- a number put behind a list -/
theorem upd_put {f : Nat → Int32} {ns : List Nat} {k v : Nat} (hk : k = ns.length) (h : ∀ j, j < k → f j = nI (ns.getD j 0)) : ∀ j, j < k + 1 → upd f k (nI v) j = nI ((ns ++ [v]).getD j 0) := by
  intro j hj
  unfold upd
  by_cases e : j = k
  · rw [if_pos e, e, hk]
    simp
  · rw [if_neg e, h j (by omega)]
    have : j < ns.length := by omega
    simp [List.getD, List.getElem?_append_left this]
