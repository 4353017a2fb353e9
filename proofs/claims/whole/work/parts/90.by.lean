/-! the low byte is the same for both shifts -/
theorem bv_same (x : BitVec 64) (k : Nat) (hk : k ≤ 56) : (x.sshiftRight k).setWidth 32 &&& 255#32 = (x >>> k).setWidth 32 &&& 255#32 := by
  apply BitVec.eq_of_getLsbD_eq
  intro i hi
  rw [BitVec.getLsbD_and, BitVec.getLsbD_and, BitVec.getLsbD_setWidth, BitVec.getLsbD_setWidth, BitVec.getLsbD_ushiftRight, BitVec.getLsbD_sshiftRight]
  by_cases h : i < 8
  · have h1 : k + i < 64 := by omega
    have h2 : ¬ 64 ≤ i := by omega
    simp [h1, h2]
  · have h3 : (255#32).getLsbD i = false := by
      have : ∀ j : Fin 32, 8 ≤ j.val → (255#32).getLsbD j.val = false := by decide
      exact this ⟨i, hi⟩ (by show 8 ≤ i; omega)
    rw [h3, Bool.and_false, Bool.and_false]
theorem by_same {v : Int} (n : Nat) (hn : n < 8) : mBy v (8 * n) = cBy v (8 * n) := by
  have e : n = 0 ∨ n = 1 ∨ n = 2 ∨ n = 3 ∨ n = 4 ∨ n = 5 ∨ n = 6 ∨ n = 7 := by omega
  unfold mBy cBy b_and b_l2i b_lshr b_lushr
  simp only [Int64.ofInt_toInt]
  congr 1
  generalize Int64.ofInt v = x
  apply Int32.toBitVec_inj.mp
  rcases e with rfl | rfl | rfl | rfl | rfl | rfl | rfl | rfl
  all_goals simp only [a_ofI]
  · have hs : ((Int32.ofInt (8 * ((0 : Nat) : Int))).toInt64 &&& 63) = 0 := by decide
    have hu : ((Int32.ofInt (8 * ((0 : Nat) : Int))).toInt64.toUInt64 &&& Int64.toUInt64 63) = 0 := by decide
    rw [hs, hu]
    have h1 : (x >>> (0 : Int64)).toBitVec = x.toBitVec.sshiftRight 0 := by rw [Int64.toBitVec_shiftRight]; rfl
    have h2 : (x.toUInt64 >>> (0 : UInt64)).toInt64.toBitVec = x.toBitVec >>> 0 := by
      show (x.toUInt64 >>> (0 : UInt64)).toBitVec = _
      rw [UInt64.toBitVec_shiftRight]; rfl
    rw [Int32.toBitVec_and, Int32.toBitVec_and, Int64.toBitVec_toInt32, Int64.toBitVec_toInt32, h1, h2, BitVec.signExtend_eq_setWidth_of_le _ (by decide), BitVec.signExtend_eq_setWidth_of_le _ (by decide), show (Int32.ofInt 255).toBitVec = 255#32 from rfl]
    exact bv_same x.toBitVec 0 (by decide)
  · have hs : ((Int32.ofInt (8 * ((1 : Nat) : Int))).toInt64 &&& 63) = 8 := by decide
    have hu : ((Int32.ofInt (8 * ((1 : Nat) : Int))).toInt64.toUInt64 &&& Int64.toUInt64 63) = 8 := by decide
    rw [hs, hu]
    have h1 : (x >>> (8 : Int64)).toBitVec = x.toBitVec.sshiftRight 8 := by rw [Int64.toBitVec_shiftRight]; rfl
    have h2 : (x.toUInt64 >>> (8 : UInt64)).toInt64.toBitVec = x.toBitVec >>> 8 := by
      show (x.toUInt64 >>> (8 : UInt64)).toBitVec = _
      rw [UInt64.toBitVec_shiftRight]; rfl
    rw [Int32.toBitVec_and, Int32.toBitVec_and, Int64.toBitVec_toInt32, Int64.toBitVec_toInt32, h1, h2, BitVec.signExtend_eq_setWidth_of_le _ (by decide), BitVec.signExtend_eq_setWidth_of_le _ (by decide), show (Int32.ofInt 255).toBitVec = 255#32 from rfl]
    exact bv_same x.toBitVec 8 (by decide)
  · have hs : ((Int32.ofInt (8 * ((2 : Nat) : Int))).toInt64 &&& 63) = 16 := by decide
    have hu : ((Int32.ofInt (8 * ((2 : Nat) : Int))).toInt64.toUInt64 &&& Int64.toUInt64 63) = 16 := by decide
    rw [hs, hu]
    have h1 : (x >>> (16 : Int64)).toBitVec = x.toBitVec.sshiftRight 16 := by rw [Int64.toBitVec_shiftRight]; rfl
    have h2 : (x.toUInt64 >>> (16 : UInt64)).toInt64.toBitVec = x.toBitVec >>> 16 := by
      show (x.toUInt64 >>> (16 : UInt64)).toBitVec = _
      rw [UInt64.toBitVec_shiftRight]; rfl
    rw [Int32.toBitVec_and, Int32.toBitVec_and, Int64.toBitVec_toInt32, Int64.toBitVec_toInt32, h1, h2, BitVec.signExtend_eq_setWidth_of_le _ (by decide), BitVec.signExtend_eq_setWidth_of_le _ (by decide), show (Int32.ofInt 255).toBitVec = 255#32 from rfl]
    exact bv_same x.toBitVec 16 (by decide)
  · have hs : ((Int32.ofInt (8 * ((3 : Nat) : Int))).toInt64 &&& 63) = 24 := by decide
    have hu : ((Int32.ofInt (8 * ((3 : Nat) : Int))).toInt64.toUInt64 &&& Int64.toUInt64 63) = 24 := by decide
    rw [hs, hu]
    have h1 : (x >>> (24 : Int64)).toBitVec = x.toBitVec.sshiftRight 24 := by rw [Int64.toBitVec_shiftRight]; rfl
    have h2 : (x.toUInt64 >>> (24 : UInt64)).toInt64.toBitVec = x.toBitVec >>> 24 := by
      show (x.toUInt64 >>> (24 : UInt64)).toBitVec = _
      rw [UInt64.toBitVec_shiftRight]; rfl
    rw [Int32.toBitVec_and, Int32.toBitVec_and, Int64.toBitVec_toInt32, Int64.toBitVec_toInt32, h1, h2, BitVec.signExtend_eq_setWidth_of_le _ (by decide), BitVec.signExtend_eq_setWidth_of_le _ (by decide), show (Int32.ofInt 255).toBitVec = 255#32 from rfl]
    exact bv_same x.toBitVec 24 (by decide)
  · have hs : ((Int32.ofInt (8 * ((4 : Nat) : Int))).toInt64 &&& 63) = 32 := by decide
    have hu : ((Int32.ofInt (8 * ((4 : Nat) : Int))).toInt64.toUInt64 &&& Int64.toUInt64 63) = 32 := by decide
    rw [hs, hu]
    have h1 : (x >>> (32 : Int64)).toBitVec = x.toBitVec.sshiftRight 32 := by rw [Int64.toBitVec_shiftRight]; rfl
    have h2 : (x.toUInt64 >>> (32 : UInt64)).toInt64.toBitVec = x.toBitVec >>> 32 := by
      show (x.toUInt64 >>> (32 : UInt64)).toBitVec = _
      rw [UInt64.toBitVec_shiftRight]; rfl
    rw [Int32.toBitVec_and, Int32.toBitVec_and, Int64.toBitVec_toInt32, Int64.toBitVec_toInt32, h1, h2, BitVec.signExtend_eq_setWidth_of_le _ (by decide), BitVec.signExtend_eq_setWidth_of_le _ (by decide), show (Int32.ofInt 255).toBitVec = 255#32 from rfl]
    exact bv_same x.toBitVec 32 (by decide)
  · have hs : ((Int32.ofInt (8 * ((5 : Nat) : Int))).toInt64 &&& 63) = 40 := by decide
    have hu : ((Int32.ofInt (8 * ((5 : Nat) : Int))).toInt64.toUInt64 &&& Int64.toUInt64 63) = 40 := by decide
    rw [hs, hu]
    have h1 : (x >>> (40 : Int64)).toBitVec = x.toBitVec.sshiftRight 40 := by rw [Int64.toBitVec_shiftRight]; rfl
    have h2 : (x.toUInt64 >>> (40 : UInt64)).toInt64.toBitVec = x.toBitVec >>> 40 := by
      show (x.toUInt64 >>> (40 : UInt64)).toBitVec = _
      rw [UInt64.toBitVec_shiftRight]; rfl
    rw [Int32.toBitVec_and, Int32.toBitVec_and, Int64.toBitVec_toInt32, Int64.toBitVec_toInt32, h1, h2, BitVec.signExtend_eq_setWidth_of_le _ (by decide), BitVec.signExtend_eq_setWidth_of_le _ (by decide), show (Int32.ofInt 255).toBitVec = 255#32 from rfl]
    exact bv_same x.toBitVec 40 (by decide)
  · have hs : ((Int32.ofInt (8 * ((6 : Nat) : Int))).toInt64 &&& 63) = 48 := by decide
    have hu : ((Int32.ofInt (8 * ((6 : Nat) : Int))).toInt64.toUInt64 &&& Int64.toUInt64 63) = 48 := by decide
    rw [hs, hu]
    have h1 : (x >>> (48 : Int64)).toBitVec = x.toBitVec.sshiftRight 48 := by rw [Int64.toBitVec_shiftRight]; rfl
    have h2 : (x.toUInt64 >>> (48 : UInt64)).toInt64.toBitVec = x.toBitVec >>> 48 := by
      show (x.toUInt64 >>> (48 : UInt64)).toBitVec = _
      rw [UInt64.toBitVec_shiftRight]; rfl
    rw [Int32.toBitVec_and, Int32.toBitVec_and, Int64.toBitVec_toInt32, Int64.toBitVec_toInt32, h1, h2, BitVec.signExtend_eq_setWidth_of_le _ (by decide), BitVec.signExtend_eq_setWidth_of_le _ (by decide), show (Int32.ofInt 255).toBitVec = 255#32 from rfl]
    exact bv_same x.toBitVec 48 (by decide)
  · have hs : ((Int32.ofInt (8 * ((7 : Nat) : Int))).toInt64 &&& 63) = 56 := by decide
    have hu : ((Int32.ofInt (8 * ((7 : Nat) : Int))).toInt64.toUInt64 &&& Int64.toUInt64 63) = 56 := by decide
    rw [hs, hu]
    have h1 : (x >>> (56 : Int64)).toBitVec = x.toBitVec.sshiftRight 56 := by rw [Int64.toBitVec_shiftRight]; rfl
    have h2 : (x.toUInt64 >>> (56 : UInt64)).toInt64.toBitVec = x.toBitVec >>> 56 := by
      show (x.toUInt64 >>> (56 : UInt64)).toBitVec = _
      rw [UInt64.toBitVec_shiftRight]; rfl
    rw [Int32.toBitVec_and, Int32.toBitVec_and, Int64.toBitVec_toInt32, Int64.toBitVec_toInt32, h1, h2, BitVec.signExtend_eq_setWidth_of_le _ (by decide), BitVec.signExtend_eq_setWidth_of_le _ (by decide), show (Int32.ofInt 255).toBitVec = 255#32 from rfl]
    exact bv_same x.toBitVec 56 (by decide)
