theorem div0 (v h : Nat) : v / 2 ^ h = 0 ↔ v < 2 ^ h := by
  rw [Nat.div_eq_zero_iff]
  have := Nat.two_pow_pos h
  omega
theorem divlt {v h B : Nat} (hv : v < B) : v / 2 ^ h < B := Nat.lt_of_le_of_lt (Nat.div_le_self _ _) hv
theorem vL_at {v i : Nat} (h : i < vsz v) : (vL v)[i]? = some (vby v i) := by
  simp [vL, h]
theorem vL_take {v i : Nat} (h : i < vsz v) : (vL v).take (i + 1) = (vL v).take i ++ [vby v i] := by
  rw [List.take_add_one, vL_at h]
  rfl
theorem vL_step {v i : Nat} (h : i + 1 < vsz v) : (vL v).take (i + 1) = (vL v).take i ++ [v / 2 ^ (7 * i) % 128 + 128] := by
  rw [vL_take (by omega)]
  unfold vby
  rw [if_pos h]
theorem vL_last (v : Nat) : vL v = (vL v).take (vsz v - 1) ++ [v / 2 ^ (7 * (vsz v - 1))] := by
  have h1 := vsz_in v
  have h2 := vL_take (v := v) (i := vsz v - 1) (by omega)
  rw [show vsz v - 1 + 1 = vsz v by omega] at h2
  have h3 : (vL v).take (vsz v) = vL v := List.take_of_length_le (by rw [vL_len]; exact Nat.le_refl _)
  rw [h3] at h2
  have h4 : vby v (vsz v - 1) = v / 2 ^ (7 * (vsz v - 1)) := by
    unfold vby
    rw [if_neg (by omega)]
  rw [h4] at h2
  exact h2
theorem vlast_lt {v : Nat} (hv : v < 2 ^ 31) : v / 2 ^ (7 * (vsz v - 1)) < 256 := by
  have h1 := vsz_in v
  have h2 := vby_lt (v := v) (j := vsz v - 1) hv (by omega)
  unfold vby at h2
  rwa [if_neg (by omega)] at h2
/-- behind a byte more -/
theorem bl_next {t f : Nat → UInt8} {n w i x v : Nat} (hc : bl f w = bl t n ++ (vL v).take i) (hx : x < 256) (hs : (vL v).take (i + 1) = (vL v).take i ++ [x]) : bl (upB f w x) (w + 1) = bl t n ++ (vL v).take (i + 1) := by
  rw [bl_put, hc, hs, Nat.mod_eq_of_lt hx, List.append_assoc]
theorem bl_end {t f : Nat → UInt8} {n w i v : Nat} (hv : v < 2 ^ 31) (hi : i = vsz v - 1) (hc : bl f w = bl t n ++ (vL v).take i) : bl (upB f w (v / 2 ^ (7 * (vsz v - 1)))) (w + 1) = bl t n ++ vL v := by
  rw [bl_put, hc, Nat.mod_eq_of_lt (vlast_lt hv), List.append_assoc, hi, ← vL_last]
