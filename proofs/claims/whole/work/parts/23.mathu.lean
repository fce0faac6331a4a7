/-- is it a character: as the tests ask -/
abbrev chI (x : Int32) : Prop := ¬ x < 0 ∧ ¬ nI 1114111 < x ∧ (x < nI 55296 ∨ nI 57343 < x)
theorem chI_nI {c : Nat} (h : c < 2 ^ 31) : chI (nI c) ↔ c ≤ 1114111 ∧ (c < 55296 ∨ 57343 < c) := by
  unfold chI
  rw [nI_ltI (by omega) h, nI_ltI h (by omega), nI_ltI (by omega) h]
  have := nI_pos h
  constructor
  · rintro ⟨-, h2, h3⟩
    exact ⟨by omega, h3⟩
  · rintro ⟨h2, h3⟩
    exact ⟨this, by omega, h3⟩
theorem chW_in (c : Nat) : 1 ≤ chW c ∧ chW c ≤ 4 := by
  unfold chW
  repeat' split
  all_goals omega
/-- one less, maybe -1 -/
def kD (j : Nat) : Int32 := nI j - 1
theorem kD_0 : kD 0 = -1 := by decide
theorem kD_s (i : Nat) : kD (i + 1) = nI i := nI_pred i
theorem kD_2 {w : Nat} (h : 1 ≤ w) : nI w - nI 2 = kD (w - 1) := by
  rcases Nat.lt_or_ge w 2 with h2 | h2
  · rw [show w = 1 by omega]
    decide
  · rw [pk_sub h2, show w - 1 = (w - 2) + 1 by omega, kD_s]
theorem kD_dec (i : Nat) : nI i + Int32.ofInt (-1) = kD i := by
  unfold kD
  rw [Int32.sub_eq_add_neg]
  rfl
theorem kD_pos {i : Nat} (h : i < 2 ^ 31) : ¬ kD (i + 1) < 0 := by rw [kD_s]; exact nI_pos h
theorem chL_len (c : Nat) : (chL c).length = chW c := by simp [chL]
theorem chL_at {c i : Nat} (h : i < chW c) : (chL c)[i]? = some (chB c i) := by simp [chL, h]
theorem chL_take {c i : Nat} (h : i < chW c) : (chL c).take (i + 1) = (chL c).take i ++ [chB c i] := by
  rw [List.take_add_one, chL_at h]
  rfl
theorem chL_all (c : Nat) : (chL c).take (chW c) = chL c := List.take_of_length_le (by rw [chL_len]; exact Nat.le_refl _)
theorem chB_0 (c : Nat) : chB c 0 = chM (chW c) + c / 2 ^ (6 * (chW c - 1)) := rfl
theorem chB_s {c i : Nat} (h : i + 1 < chW c) : chB c (chW c - (i + 1)) = 128 + c / 2 ^ (6 * i) % 64 := by
  unfold chB
  rw [if_neg (by omega), show chW c - 1 - (chW c - (i + 1)) = i by omega]
theorem ch_first {c : Nat} (h : c ≤ 1114111) : chM (chW c) + c / 2 ^ (6 * (chW c - 1)) < 256 := by
  have := chW_in c
  rcases (show chW c = 1 ∨ chW c = 2 ∨ chW c = 3 ∨ chW c = 4 by omega) with e | e | e | e <;> rw [e] <;> unfold chW at e <;> (repeat' split at e) <;> simp [chM] <;> omega
theorem bl_ch0 {t : Nat → UInt8} {n c : Nat} (h : c ≤ 1114111) : bl (upB t n (chM (chW c) + c / 2 ^ (6 * (chW c - 1)))) (n + 1) = bl t n ++ (chL c).take (chW c - (chW c - 1)) := by
  have := chW_in c
  rw [bl_put, Nat.mod_eq_of_lt (ch_first h), show chW c - (chW c - 1) = 0 + 1 by omega, chL_take (by omega), chB_0, List.take_zero, List.nil_append]
theorem bl_chs {t f : Nat → UInt8} {n w i c : Nat} (hi : i + 1 ≤ chW c - 1) (hc : bl f w = bl t n ++ (chL c).take (chW c - (i + 1))) : bl (upB f w (128 + c / 2 ^ (6 * i) % 64)) (w + 1) = bl t n ++ (chL c).take (chW c - i) := by
  rw [bl_put, hc, Nat.mod_eq_of_lt (by omega), show chW c - i = (chW c - (i + 1)) + 1 by omega, chL_take (by omega), chB_s (by omega), List.append_assoc]
