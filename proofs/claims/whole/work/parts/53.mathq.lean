theorem rd_end {L : List Nat} {k p a b : Nat} (hk : k ≤ 4) (hp : p < L.length) (hb : L.getD p 0 = b) (h128 : b < 128) : rdV L (5 - k) k p a = if (b = 0 ∧ 0 < k) ∨ 2 ^ 31 ≤ a + b * 2 ^ (7 * k) then none else some (a + b * 2 ^ (7 * k), p + 1) := by
  obtain ⟨f, hf⟩ : ∃ f, 5 - k = f + 1 := ⟨4 - k, by omega⟩
  rw [hf]
  conv => lhs; unfold rdV
  rw [if_neg (by omega), hb, if_pos h128]
theorem rd_none {L : List Nat} {k p a b : Nat} (hk : k ≤ 4) (hp : p < L.length) (hb : L.getD p 0 = b) (h128 : b < 128) (h : (b = 0 ∧ 0 < k) ∨ 2 ^ 31 ≤ a + b * 2 ^ (7 * k)) : rdV L (5 - k) k p a = none := by
  rw [rd_end hk hp hb h128, if_pos h]
theorem rd_some {L : List Nat} {k p a b : Nat} (hk : k ≤ 4) (hp : p < L.length) (hb : L.getD p 0 = b) (h128 : b < 128) (h0 : b ≠ 0 ∨ k = 0) (h : a + b * 2 ^ (7 * k) ≤ 2147483647) : rdV L (5 - k) k p a = some (a + b * 2 ^ (7 * k), p + 1) := by
  rw [rd_end hk hp hb h128, if_neg (by intro z; rcases z with z | z; omega; omega)]
theorem rd_big {k a b : Nat} (hk : k ≤ 4) (ha : a < 2 ^ (7 * k)) (hb : b < 128) : a + b * 2 ^ (7 * k) < 2 ^ 62 := by
  rcases five hk with rfl | rfl | rfl | rfl | rfl <;> simp at ha ⊢ <;> omega
theorem mod128 {b : Nat} (h : 128 ≤ b) (h2 : b < 256) : b % 128 = b - 128 := by omega
theorem cp_0 {f g : Nat → Int32} {k : Nat} {ns : List Nat} (h : ∀ j, j < k → f j = nI (ns.getD j 0)) : ∀ j, j < k → va_cpy f g 0 0 k j = nI (ns.getD j 0) := fun j hj => by
  rw [← h j hj]
  simp [va_cpy, hj]
theorem chR_cut {L : List Nat} : ∀ {j p a : Nat}, p ≤ L.length → L.length < p + j → chR L j p a = none
  | 0, p, a, h1, h2 => by omega
  | j + 1, p, a, h1, h2 => by
    unfold chR
    split
    · rfl
    · split
      · rfl
      · exact chR_cut (by omega) (by omega)
theorem chV_cut {L : List Nat} {p b : Nat} (hp : p < L.length) (hb : L.getD p 0 = b) (hs : chS b ≠ 0) (h : L.length < p + chS b) : chV L p = none := chV_fail hp hb hs (chR_cut (by omega) (by omega))
theorem chV_w {L : List Nat} {p b c : Nat} (hp : p < L.length) (hb : L.getD p 0 = b) (hs : chS b ≠ 0) (h : chR L (chS b - 1) (p + 1) (b - chM (chS b)) = some c) (hn : (c ≤ 1114111 ∧ (c < 55296 ∨ 57343 < c)) ∧ chW c = chS b) : chV L p = some (c, p + chW c) := by
  rw [chV_ok hp hb hs h hn, hn.2]
theorem chS_lo (b : Nat) : (chS b = 2 → 192 ≤ b) ∧ (chS b = 3 → 224 ≤ b) ∧ (chS b = 4 → 240 ≤ b) := by
  unfold chS
  (repeat' split) <;> omega
