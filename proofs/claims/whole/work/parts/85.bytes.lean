/-! the bytes of a long -/
def bC (w : Int64) (p : Int) : Int := (zI ((w.toUInt64 >>> ((zI (8 * p)).toInt64.toUInt64 &&& Int64.toUInt64 63)).toInt64).toInt32.toInt &&& zI 255).toInt
def bM (w : Int64) (p : Int) : Int := ((w >>> ((zI (8 * p)).toInt64 &&& 63)) &&& 255).toInt32.toInt
theorem b255 (i : Nat) (h : 8 ≤ i) : Nat.testBit 255 i = false := Nat.testBit_lt_two_pow (Nat.lt_of_lt_of_le (by decide) (Nat.pow_le_pow_right (by decide) h))
theorem bits_eq (v : BitVec 64) (s : Nat) (hs : s ≤ 56) : BitVec.setWidth 32 (v >>> s) &&& 255#32 = BitVec.setWidth 32 (v.sshiftRight s &&& 255#64) := by
  apply BitVec.eq_of_getLsbD_eq
  intro i hi
  rw [BitVec.getLsbD_and, BitVec.getLsbD_setWidth, BitVec.getLsbD_setWidth, BitVec.getLsbD_and, BitVec.getLsbD_ushiftRight, BitVec.getLsbD_sshiftRight]
  by_cases h8 : i < 8
  · have h1 : s + i < 64 := by omega
    have e1 : (255#32).getLsbD i = true := by
      have : i = 0 ∨ i = 1 ∨ i = 2 ∨ i = 3 ∨ i = 4 ∨ i = 5 ∨ i = 6 ∨ i = 7 := by omega
      rcases this with rfl | rfl | rfl | rfl | rfl | rfl | rfl | rfl <;> decide
    have e2 : (255#64).getLsbD i = true := by
      have : i = 0 ∨ i = 1 ∨ i = 2 ∨ i = 3 ∨ i = 4 ∨ i = 5 ∨ i = 6 ∨ i = 7 := by omega
      rcases this with rfl | rfl | rfl | rfl | rfl | rfl | rfl | rfl <;> decide
    rw [e1, e2]
    simp [h1, hi]
    omega
  · have e1 : (255#32).getLsbD i = false := by
      rw [BitVec.getLsbD_ofNat, b255 i (by omega), Bool.and_false]
    have e2 : (255#64).getLsbD i = false := by
      rw [BitVec.getLsbD_ofNat, b255 i (by omega), Bool.and_false]
    rw [e1, e2, Bool.and_false, Bool.and_false, Bool.and_false]
theorem bC_bv (w : Int64) (p : Int) (s : Nat) (h : (w.toUInt64 >>> ((zI (8 * p)).toInt64.toUInt64 &&& Int64.toUInt64 63)).toBitVec = w.toBitVec >>> s) : bC w p = (BitVec.setWidth 32 (w.toBitVec >>> s) &&& 255#32).toInt := by
  unfold bC
  rw [zI_v]
  show (_ &&& _ : BitVec 32).toInt = _
  congr 1
