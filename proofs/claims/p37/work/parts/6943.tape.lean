/-! feed: both write the same bytes -/
theorem shb (b : BitVec 32) (s : Nat) (hs : s ≤ 24) : (b >>> s).setWidth 8 = (b.sshiftRight s).setWidth 8 := by
  apply BitVec.eq_of_getLsbD_eq
  intro i hi
  have h1 : s + i < 32 := by omega
  have h2 : ¬ 32 ≤ i := by omega
  simp [BitVec.getLsbD_setWidth, BitVec.getLsbD_ushiftRight, BitVec.getLsbD_sshiftRight, h1, h2, hi]
theorem sh_24 (v : Int32) : ((v.toUInt32 >>> ((24 : Int32).toUInt32 &&& Int32.toUInt32 31)).toInt32).toInt8 = (v >>> ((24 : Int32) &&& 31)).toInt8 := by
  refine Int8.toBitVec_inj.mp ?_
  rw [Int32.toBitVec_toInt8, Int32.toBitVec_toInt8, Int32.toBitVec_shiftRight]
  have l : (v.toUInt32 >>> ((24 : Int32).toUInt32 &&& Int32.toUInt32 31)).toInt32.toBitVec = v.toBitVec >>> (24 : Nat) := by
    show (v.toUInt32 >>> ((24 : Int32).toUInt32 &&& Int32.toUInt32 31)).toBitVec = _
    rw [UInt32.toBitVec_shiftRight, BitVec.ushiftRight_eq']
    have e : (((24 : Int32).toUInt32 &&& Int32.toUInt32 31).toBitVec % 32).toNat = 24 := by decide
    rw [e]
    rfl
  have r : v.toBitVec.sshiftRight' (((24 : Int32) &&& 31).toBitVec.smod 32) = v.toBitVec.sshiftRight 24 := by
    have e : ((((24 : Int32) &&& 31).toBitVec.smod 32)).toNat = 24 := by decide
    show v.toBitVec.sshiftRight ((((24 : Int32) &&& 31).toBitVec.smod 32)).toNat = _
    rw [e]
  rw [l, r, BitVec.signExtend_eq_setWidth_of_le _ (by decide), BitVec.signExtend_eq_setWidth_of_le _ (by decide)]
  exact shb v.toBitVec 24 (by decide)
theorem sh_16 (v : Int32) : ((v.toUInt32 >>> ((16 : Int32).toUInt32 &&& Int32.toUInt32 31)).toInt32).toInt8 = (v >>> ((16 : Int32) &&& 31)).toInt8 := by
  refine Int8.toBitVec_inj.mp ?_
  rw [Int32.toBitVec_toInt8, Int32.toBitVec_toInt8, Int32.toBitVec_shiftRight]
  have l : (v.toUInt32 >>> ((16 : Int32).toUInt32 &&& Int32.toUInt32 31)).toInt32.toBitVec = v.toBitVec >>> (16 : Nat) := by
    show (v.toUInt32 >>> ((16 : Int32).toUInt32 &&& Int32.toUInt32 31)).toBitVec = _
    rw [UInt32.toBitVec_shiftRight, BitVec.ushiftRight_eq']
    have e : (((16 : Int32).toUInt32 &&& Int32.toUInt32 31).toBitVec % 32).toNat = 16 := by decide
    rw [e]
    rfl
  have r : v.toBitVec.sshiftRight' (((16 : Int32) &&& 31).toBitVec.smod 32) = v.toBitVec.sshiftRight 16 := by
    have e : ((((16 : Int32) &&& 31).toBitVec.smod 32)).toNat = 16 := by decide
    show v.toBitVec.sshiftRight ((((16 : Int32) &&& 31).toBitVec.smod 32)).toNat = _
    rw [e]
  rw [l, r, BitVec.signExtend_eq_setWidth_of_le _ (by decide), BitVec.signExtend_eq_setWidth_of_le _ (by decide)]
  exact shb v.toBitVec 16 (by decide)
theorem sh_8 (v : Int32) : ((v.toUInt32 >>> ((8 : Int32).toUInt32 &&& Int32.toUInt32 31)).toInt32).toInt8 = (v >>> ((8 : Int32) &&& 31)).toInt8 := by
  refine Int8.toBitVec_inj.mp ?_
  rw [Int32.toBitVec_toInt8, Int32.toBitVec_toInt8, Int32.toBitVec_shiftRight]
  have l : (v.toUInt32 >>> ((8 : Int32).toUInt32 &&& Int32.toUInt32 31)).toInt32.toBitVec = v.toBitVec >>> (8 : Nat) := by
    show (v.toUInt32 >>> ((8 : Int32).toUInt32 &&& Int32.toUInt32 31)).toBitVec = _
    rw [UInt32.toBitVec_shiftRight, BitVec.ushiftRight_eq']
    have e : (((8 : Int32).toUInt32 &&& Int32.toUInt32 31).toBitVec % 32).toNat = 8 := by decide
    rw [e]
    rfl
  have r : v.toBitVec.sshiftRight' (((8 : Int32) &&& 31).toBitVec.smod 32) = v.toBitVec.sshiftRight 8 := by
    have e : ((((8 : Int32) &&& 31).toBitVec.smod 32)).toNat = 8 := by decide
    show v.toBitVec.sshiftRight ((((8 : Int32) &&& 31).toBitVec.smod 32)).toNat = _
    rw [e]
  rw [l, r, BitVec.signExtend_eq_setWidth_of_le _ (by decide), BitVec.signExtend_eq_setWidth_of_le _ (by decide)]
  exact shb v.toBitVec 8 (by decide)
theorem sh_0 (v : Int32) : ((v.toUInt32 >>> ((0 : Int32).toUInt32 &&& Int32.toUInt32 31)).toInt32).toInt8 = (v >>> ((0 : Int32) &&& 31)).toInt8 := by
  refine Int8.toBitVec_inj.mp ?_
  rw [Int32.toBitVec_toInt8, Int32.toBitVec_toInt8, Int32.toBitVec_shiftRight]
  have l : (v.toUInt32 >>> ((0 : Int32).toUInt32 &&& Int32.toUInt32 31)).toInt32.toBitVec = v.toBitVec >>> (0 : Nat) := by
    show (v.toUInt32 >>> ((0 : Int32).toUInt32 &&& Int32.toUInt32 31)).toBitVec = _
    rw [UInt32.toBitVec_shiftRight, BitVec.ushiftRight_eq']
    have e : (((0 : Int32).toUInt32 &&& Int32.toUInt32 31).toBitVec % 32).toNat = 0 := by decide
    rw [e]
    rfl
  have r : v.toBitVec.sshiftRight' (((0 : Int32) &&& 31).toBitVec.smod 32) = v.toBitVec.sshiftRight 0 := by
    have e : ((((0 : Int32) &&& 31).toBitVec.smod 32)).toNat = 0 := by decide
    show v.toBitVec.sshiftRight ((((0 : Int32) &&& 31).toBitVec.smod 32)).toNat = _
    rw [e]
  rw [l, r, BitVec.signExtend_eq_setWidth_of_le _ (by decide), BitVec.signExtend_eq_setWidth_of_le _ (by decide)]
  exact shb v.toBitVec 0 (by decide)
/-- the byte of v that feed writes at the place r of four -/
def bt4 (v : Int32) (r : Nat) : Int32 := (v >>> (((24 : Int32) - 8 * nI r) &&& 31)).toInt8.toInt32
theorem bt_c (v : Int32) (r : Nat) (hr : r < 4) : ((v.toUInt32 >>> (((24 : Int32) - 8 * nI r).toUInt32 &&& Int32.toUInt32 31)).toInt32).toInt8.toInt32 = bt4 v r := by
  unfold bt4
  have : r = 0 ∨ r = 1 ∨ r = 2 ∨ r = 3 := by omega
  rcases this with rfl | rfl | rfl | rfl
  · exact congrArg Int8.toInt32 (sh_24 v)
  · exact congrArg Int8.toInt32 (sh_16 v)
  · exact congrArg Int8.toInt32 (sh_8 v)
  · exact congrArg Int8.toInt32 (sh_0 v)
theorem bt_in (v : Int32) (r : Nat) : -128 ≤ (bt4 v r).toInt ∧ (bt4 v r).toInt ≤ 127 := by
  unfold bt4
  rw [Int8.toInt_toInt32]
  exact ⟨Int8.le_toInt _, by have := Int8.toInt_lt (v >>> (((24 : Int32) - 8 * nI r) &&& 31)).toInt8; omega⟩
theorem nar_bt (v : Int32) (r : Nat) : vp_nar .byte (bt4 v r) = bt4 v r := by
  show ((v >>> (((24 : Int32) - 8 * nI r) &&& 31)).toInt8.toInt32).toInt8.toInt32 = (v >>> (((24 : Int32) - 8 * nI r) &&& 31)).toInt8.toInt32
  rw [Int8.toInt8_toInt32]
