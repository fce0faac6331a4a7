/-! The document's words as mathematics: runs of bytes as lists of naturals. -/
/-- the first n bytes -/
def bl (t : Nat → UInt8) (n : Nat) : List Nat := (List.range n).map (bN t)
theorem bl_len (t : Nat → UInt8) (n : Nat) : (bl t n).length = n := by simp [bl]
theorem bl_at {t : Nat → UInt8} {n j : Nat} (h : j < n) : (bl t n).getD j 0 = bN t j := by
  simp [bl, List.getD, h]
theorem bl_eq {t t' : Nat → UInt8} {n : Nat} (h : ∀ j, j < n → bN t j = bN t' j) : bl t n = bl t' n := by
  unfold bl
  apply List.map_congr_left
  intro j hj
  exact h j (List.mem_range.mp hj)
theorem bl_succ (t : Nat → UInt8) (n : Nat) : bl t (n + 1) = bl t n ++ [bN t n] := by
  simp [bl, List.range_succ]
/-- a byte put behind -/
theorem bl_put (t : Nat → UInt8) (n x : Nat) : bl (upB t n x) (n + 1) = bl t n ++ [x % 256] := by
  rw [bl_succ, bN_up, bl_eq (t' := t) (fun j hj => bN_un (by omega))]
/-- VARINT: how many bytes, and which -/
def vsz (v : Nat) : Nat := if v < 128 then 1 else if v < 16384 then 2 else if v < 2097152 then 3 else if v < 268435456 then 4 else 5
theorem vsz_in (v : Nat) : 1 ≤ vsz v ∧ vsz v ≤ 5 := by
  unfold vsz
  repeat' split
  all_goals omega
theorem vsz_of {v k : Nat} (h1 : 1 ≤ k) (h5 : k ≤ 5) (hl : k = 1 ∨ 2 ^ (7 * (k - 1)) ≤ v) (hu : k = 5 ∨ v < 2 ^ (7 * k)) : k = vsz v := by
  unfold vsz
  have : k = 1 ∨ k = 2 ∨ k = 3 ∨ k = 4 ∨ k = 5 := by omega
  rcases this with rfl | rfl | rfl | rfl | rfl <;> simp at hl hu <;> (repeat' split) <;> omega
def vby (v j : Nat) : Nat := if j + 1 < vsz v then v / 2 ^ (7 * j) % 128 + 128 else v / 2 ^ (7 * j)
/-- the bytes as a list -/
def vL (v : Nat) : List Nat := (List.range (vsz v)).map (vby v)
theorem vL_len (v : Nat) : (vL v).length = vsz v := by simp [vL]
theorem vby_lt {v j : Nat} (hv : v < 2 ^ 31) (hj : j < vsz v) : vby v j < 256 := by
  unfold vby
  split
  · omega
  · rename_i h
    have hj' : j = vsz v - 1 := by omega
    subst hj'
    have := vsz_in v
    rcases (show vsz v = 1 ∨ vsz v = 2 ∨ vsz v = 3 ∨ vsz v = 4 ∨ vsz v = 5 by omega) with e | e | e | e | e <;> rw [e] <;> unfold vsz at e <;> (repeat' split at e) <;> simp <;> omega
/-- a varint read at p: its number and the place behind it -/
def rdV (L : List Nat) : Nat → Nat → Nat → Nat → Option (Nat × Nat)
  | 0, _, _, _ => none
  | f + 1, k, p, acc =>
    if L.length ≤ p then none
    else if L.getD p 0 < 128 then
      (if (L.getD p 0 = 0 ∧ 0 < k) ∨ 2 ^ 31 ≤ acc + L.getD p 0 * 2 ^ (7 * k) then none else some (acc + L.getD p 0 * 2 ^ (7 * k), p + 1))
    else rdV L f (k + 1) (p + 1) (acc + (L.getD p 0 - 128) * 2 ^ (7 * k))
def readV (L : List Nat) (p : Nat) : Option (Nat × Nat) := rdV L 5 0 p 0
theorem rdV_in {L : List Nat} : ∀ {f k p acc v q : Nat}, rdV L f k p acc = some (v, q) → p < q ∧ q ≤ L.length ∧ v < 2 ^ 31
  | 0, k, p, acc, v, q, h => by simp [rdV] at h
  | f + 1, k, p, acc, v, q, h => by
    unfold rdV at h
    split at h
    · cases h
    · split at h
      · split at h
        · cases h
        · simp only [Option.some.injEq, Prod.mk.injEq] at h
          omega
      · have := rdV_in h
        omega
theorem readV_in {L : List Nat} {p v q : Nat} (h : readV L p = some (v, q)) : p < q ∧ q ≤ L.length ∧ v < 2 ^ 31 := rdV_in h
/-- what a reading method answers: -1, or the number -/
def rdRes (o : Option (Nat × Nat)) (r : Int32) (q n : Nat) : Prop := (o = none ∧ r = -1 ∧ q ≤ n) ∨ ∃ v, o = some (v, q) ∧ r = nI v ∧ v < 2 ^ 31 ∧ q ≤ n
/-- the numbers of which the bytes from p on are the varints -/
def numsA (L : List Nat) : Nat → Nat → List Nat → Option (List Nat)
  | 0, _, _ => none
  | f + 1, p, acc => if L.length ≤ p then some acc else match readV L p with
    | none => none
    | some (v, q) => numsA L f q (acc ++ [v])
/-- UTF-8: characters -/
def isCh (c : Nat) : Prop := c ≤ 1114111 ∧ (c < 55296 ∨ 57343 < c)
def chW (c : Nat) : Nat := if c < 128 then 1 else if c < 2048 then 2 else if c < 65536 then 3 else 4
/-- how many bytes a first byte asks for; 0: it's none -/
def chS (b : Nat) : Nat := if b < 128 then 1 else if b < 192 then 0 else if b < 224 then 2 else if b < 240 then 3 else if b < 248 then 4 else 0
def chM (n : Nat) : Nat := if n = 2 then 192 else if n = 3 then 224 else if n = 4 then 240 else 0
theorem five {k : Nat} (h : k ≤ 4) : k = 0 ∨ k = 1 ∨ k = 2 ∨ k = 3 ∨ k = 4 := by omega
theorem rdV_short {L : List Nat} {k p acc : Nat} (h : L.length ≤ p) : rdV L (5 - k) k p acc = none := by
  cases hf : 5 - k with
  | zero => rfl
  | succ f => unfold rdV; rw [if_pos h]
/-- the last byte -/
theorem rdV_last {L : List Nat} {k p acc b : Nat} (hk : k ≤ 4) (hp : p < L.length) (hb : L.getD p 0 = b) (h128 : b < 128) (hacc : acc < 2 ^ (7 * k)) (h7 : k = 4 → b ≤ 7) :
    acc + b * 2 ^ (7 * k) < 2 ^ 31 ∧ rdV L (5 - k) k p acc = if b = 0 ∧ 0 < k then none else some (acc + b * 2 ^ (7 * k), p + 1) := by
  have hlt : acc + b * 2 ^ (7 * k) < 2 ^ 31 := by
    rcases five hk with rfl | rfl | rfl | rfl | rfl <;> simp at hacc h7 ⊢ <;> omega
  refine ⟨hlt, ?_⟩
  obtain ⟨f, hf⟩ : ∃ f, 5 - k = f + 1 := ⟨4 - k, by omega⟩
  rw [hf]
  unfold rdV
  rw [if_neg (by omega), hb, if_pos h128]
  by_cases hz : b = 0 ∧ 0 < k
  · rw [if_pos (Or.inl hz), if_pos hz]
  · rw [if_neg (by intro q; rcases q with q | q; exact hz q; omega), if_neg hz]
/-- too large -/
theorem rdV_over {L : List Nat} {p acc b : Nat} (hp : p < L.length) (hb : L.getD p 0 = b) (h7 : 7 < b) : rdV L (5 - 4) 4 p acc = none := by
  show rdV L 1 4 p acc = none
  unfold rdV
  rw [if_neg (by omega), hb]
  by_cases h : b < 128
  · rw [if_pos h, if_pos (Or.inr (by simp; omega))]
  · rw [if_neg h]; rfl
/-- more bytes follow -/
theorem rdV_more {L : List Nat} {k p acc b : Nat} (hk : k ≤ 4) (hp : p < L.length) (hb : L.getD p 0 = b) (h128 : 128 ≤ b) (h256 : b < 256) (hacc : acc < 2 ^ (7 * k)) :
    acc + (b - 128) * 2 ^ (7 * k) < 2 ^ (7 * (k + 1)) ∧ rdV L (5 - k) k p acc = rdV L (5 - (k + 1)) (k + 1) (p + 1) (acc + (b - 128) * 2 ^ (7 * k)) := by
  refine ⟨?_, ?_⟩
  · rcases five hk with rfl | rfl | rfl | rfl | rfl <;> simp at hacc ⊢ <;> omega
  · rw [show 5 - k = (5 - (k + 1)) + 1 by omega]
    conv => lhs; unfold rdV
    rw [if_neg (by omega), hb, if_neg (by omega)]
/-- bits that don't meet -/
theorem nI_or (a b : Nat) : nI a ||| nI b = nI (a ||| b) := by
  apply Int32.toBitVec_inj.mp
  show BitVec.ofNat 32 a ||| BitVec.ofNat 32 b = BitVec.ofNat 32 (a ||| b)
  apply BitVec.eq_of_getLsbD_eq
  intro i hi
  simp [BitVec.getLsbD_or, BitVec.getLsbD_ofNat, hi]
theorem or_add {a b k : Nat} (h : a < 2 ^ k) : a ||| (b * 2 ^ k) = a + b * 2 ^ k := by
  have h1 := Nat.two_pow_add_eq_or_of_lt h b
  rw [Nat.mul_comm b, Nat.add_comm, h1, Nat.or_comm]
theorem nI_m127 (b : Nat) (h : b < 2 ^ 32) : nI b &&& nI 127 = nI (b % 128) := pk_andN h 7 (by decide)
/-- the rest of a character: j bytes more -/
def chR (L : List Nat) : Nat → Nat → Nat → Option Nat
  | 0, _, acc => some acc
  | j + 1, p, acc => if L.length ≤ p then none else if L.getD p 0 < 128 ∨ 192 ≤ L.getD p 0 then none else chR L j (p + 1) (acc * 64 + (L.getD p 0 - 128))
/-- the character at p, and the place behind it -/
def chV (L : List Nat) (p : Nat) : Option (Nat × Nat) :=
  if L.length ≤ p then none else if chS (L.getD p 0) = 0 then none else match chR L (chS (L.getD p 0) - 1) (p + 1) (L.getD p 0 - chM (chS (L.getD p 0))) with
    | none => none
    | some c => if (c ≤ 1114111 ∧ (c < 55296 ∨ 57343 < c)) ∧ chW c = chS (L.getD p 0) then some (c, p + chS (L.getD p 0)) else none
/-- the characters of which the bytes from p on are the UTF-8 -/
def chsA (L : List Nat) : Nat → Nat → List Nat → Option (List Nat)
  | 0, _, _ => none
  | f + 1, p, acc => if L.length ≤ p then some acc else match chV L p with
    | none => none
    | some (v, q) => chsA L f q (acc ++ [v])
/-- the bytes of a character -/
def chB (c j : Nat) : Nat := if j = 0 then chM (chW c) + c / 2 ^ (6 * (chW c - 1)) else 128 + c / 2 ^ (6 * (chW c - 1 - j)) % 64
def chL (c : Nat) : List Nat := (List.range (chW c)).map (chB c)
/-- a run taken again from d bytes back, one byte after the other -/
def backL (d : Nat) : Nat → List Nat → List Nat
  | 0, L => L
  | k + 1, L => backL d k (L ++ [L.getD (L.length - d) 0])
theorem bA_eq (t : Nat → UInt8) (i j : Nat) : bA t i = bA t j ↔ bN t i = bN t j := sb_inj (bN_lt t i) (bN_lt t j)
/-- how many bytes are the same from a and from b on, at most m -/
def lcp (t : Nat → UInt8) (a b m c : Nat) : Prop := c ≤ m ∧ (∀ j, j < c → bN t (a + j) = bN t (b + j)) ∧ (c = m ∨ bN t (a + c) ≠ bN t (b + c))
theorem backL_step {d k i m : Nat} {t : Nat → UInt8} (hi : i < k) (hd : 0 < d) (hm : d ≤ m) : backL d (k - i) (bl t m) = backL d (k - (i + 1)) (bl (upB t m (bN t (m - d))) (m + 1)) := by
  rw [show k - i = (k - (i + 1)) + 1 by omega, bl_put, Nat.mod_eq_of_lt (bN_lt t _)]
  show backL d (k - (i + 1)) (bl t m ++ [(bl t m).getD ((bl t m).length - d) 0]) = _
  rw [bl_len, bl_at (by omega)]
