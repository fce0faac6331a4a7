/-! The checksum, by half bytes, as the table has them. -/
def hfS (c : Int32) : Int32 := pc_half.getD (c.toBitVec.toNat % 2 ^ 4) 0 ^^^ (c.toUInt32 >>> ((nI 4).toUInt32 &&& Int32.toUInt32 31)).toInt32
/-- the sum over the first k bytes, before it is turned over -/
def cF (t : Nat → UInt8) : Nat → Int32
  | 0 => -1
  | k + 1 => hfS (hfS (cF t k ^^^ nI (bN t k)))
