/-! bytes as naturals -/
def bA (t : Nat → UInt8) : Nat → Int32 := fun j => sb_b (t j).toNat
def bN (t : Nat → UInt8) (j : Nat) : Nat := (t j).toNat
def upB (t : Nat → UInt8) (k n : Nat) : Nat → UInt8 := fun j => if j = k then UInt8.ofNat n else t j
theorem bN_lt (t : Nat → UInt8) (j : Nat) : bN t j < 256 := (t j).toNat_lt
theorem sb_mod (n : Nat) : sb_b (n % 256) = sb_b n := by
  unfold sb_b nI
  rw [Int32.toInt8_ofNat', Int32.toInt8_ofNat']
  congr 1
  apply Int8.toBitVec_inj.mp
  rw [Int8.toBitVec_ofNat', Int8.toBitVec_ofNat']
  apply BitVec.eq_of_toNat_eq
  rw [BitVec.toNat_ofNat, BitVec.toNat_ofNat]
  exact Nat.mod_mod_of_dvd n (Nat.dvd_refl 256)
theorem sb_nar (n : Nat) : vp_nar .byte (sb_b n) = sb_b n := pk_vb _
theorem bA_and (t : Nat → UInt8) (j : Nat) : bA t j &&& nI 255 = nI (bN t j) := (sb_byte _ (bN_lt t j)).1
theorem bA_upd (t : Nat → UInt8) (k n : Nat) : upd (bA t) k (vp_nar .byte (sb_b n)) = bA (upB t k n) := by
  funext j
  unfold upd bA upB
  by_cases h : j = k
  · rw [if_pos h, if_pos h, sb_nar, UInt8.toNat_ofNat', sb_mod]
  · rw [if_neg h, if_neg h]
theorem bN_up (t : Nat → UInt8) (k n : Nat) : bN (upB t k n) k = n % 256 := by
  unfold bN upB
  rw [if_pos rfl, UInt8.toNat_ofNat']
theorem bN_un {t : Nat → UInt8} {k n j : Nat} (h : j ≠ k) : bN (upB t k n) j = bN t j := by
  unfold bN upB
  rw [if_neg h]
theorem sb_inj {a b : Nat} (ha : a < 256) (hb : b < 256) : sb_b a = sb_b b ↔ a = b := by
  constructor
  · intro h
    have h1 := (sb_byte a ha).1
    rw [h, (sb_byte b hb).1] at h1
    exact ((nI_eq (by omega) (by omega)).mp h1).symm
  · intro h
    rw [h]
theorem pc_inc (a n : Nat) : nI a + Int32.ofInt (n : Int) = nI (a + n) := nI_add a n
theorem pc_dec {a n : Nat} (h : n ≤ a) : nI a + Int32.ofInt (-(n : Int)) = nI (a - n) := by
  rw [← pk_sub h, Int32.sub_eq_add_neg]
  congr 1
  exact Int32.ofInt_neg _
theorem pc_ushr {a k : Nat} (ha : a < 2 ^ 32) (hk : k < 32) : ((nI a).toUInt32 >>> ((nI k).toUInt32 &&& Int32.toUInt32 31)).toInt32 = nI (a / 2 ^ k) :=
  pk_ushrN ha (nI k) k (by
    have : ∀ k : Fin 32, (((nI k.val).toUInt32 &&& Int32.toUInt32 31).toBitVec % 32).toNat = k.val := by decide +kernel
    exact this ⟨k, hk⟩)
theorem pc_shr {a k : Nat} (ha : a < 2 ^ 31) (hk : k < 32) : nI a >>> (nI k &&& 31) = nI (a / 2 ^ k) :=
  pk_shrN ha (nI k &&& 31) k (by
    have : ∀ k : Fin 32, ((nI k.val &&& 31).toBitVec.smod 32).toNat = k.val := by decide +kernel
    exact this ⟨k, hk⟩)
theorem pc_shl {a k : Nat} (hk : k < 32) (h : a * 2 ^ k < 2 ^ 32) : nI a <<< (nI k &&& 31) = nI (a * 2 ^ k) :=
  pk_shlN (nI k &&& 31) k (by
    have : ∀ k : Fin 32, ((nI k.val &&& 31).toBitVec.smod 32).toNat = k.val := by decide +kernel
    exact this ⟨k, hk⟩) h
theorem pc_nm1 {a : Nat} (h : a < 2 ^ 31) : ¬ nI a = -1 := fun z => by
  have := nI_pos' h
  rw [z] at this
  exact absurd this (by decide)
theorem bA_0 : bA (fun _ => 0) = fun _ => 0 := by
  funext j
  show sb_b 0 = 0
  decide
theorem bA_cpy (u v : Nat → UInt8) (sp dp n : Nat) : va_cpy (bA u) (bA v) sp dp n = bA (va_cpy u v sp dp n) := by
  funext j
  by_cases h : dp ≤ j ∧ j < dp + n
  · simp only [va_cpy, bA, if_pos h]
  · simp only [va_cpy, bA, if_neg h]
/-- a boolean as an int -/
def bI (P : Prop) [Decidable P] : Int32 := if P then 1 else 0
theorem bI_t {P : Prop} [Decidable P] (h : P) : bI P = 1 := if_pos h
theorem bI_f {P : Prop} [Decidable P] (h : ¬ P) : bI P = 0 := if_neg h
theorem bI_nar {P : Prop} [Decidable P] : narrow .boolean (.int (bI P)) = .int (bI P) := by
  unfold bI
  split <;> rfl
