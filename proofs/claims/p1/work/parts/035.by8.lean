def by8 (w : Int64) (k : Nat) : Int := ((w.toBitVec.toNat / 2 ^ (8 * k) % 256 : Nat) : Int)
theorem by8_iG (w : Int64) (k : Nat) (sh : UInt64) (hs : sh.toNat % 64 = 8 * k) : (((w.toUInt64 >>> sh).toInt64).toInt32 &&& 255).toInt = by8 w k := by
  rw [pk_and _ 8 (by decide)]
  have e1 : ((w.toUInt64 >>> sh).toInt64.toInt32).toBitVec = (w.toUInt64 >>> sh).toBitVec.setWidth 32 := by
    show (BitVec.signExtend 32 (w.toUInt64 >>> sh).toBitVec) = _
    exact BitVec.signExtend_eq_setWidth_of_le _ (by decide)
  have e2 : (w.toUInt64 >>> sh).toBitVec.toNat = w.toBitVec.toNat / 2 ^ (8 * k) := by
    show (w.toUInt64 >>> sh).toNat = _
    rw [UInt64.toNat_shiftRight, hs, Nat.shiftRight_eq_div_pow]
    rfl
  rw [e1, BitVec.toNat_setWidth, e2, nI_toInt (by omega)]
  unfold by8
  congr 1
  omega
theorem ss8 (x : BitVec 64) (n : Nat) (hn : n ≤ 56) : ((x.sshiftRight n) &&& 255#64).toNat = x.toNat / 2 ^ n % 256 := by
  apply Nat.eq_of_testBit_eq
  intro i
  rw [show (256 : Nat) = 2 ^ 8 from rfl, Nat.testBit_mod_two_pow, Nat.testBit_div_two_pow, BitVec.testBit_toNat, BitVec.testBit_toNat, BitVec.getLsbD_and, BitVec.getLsbD_sshiftRight]
  by_cases h : i < 8
  · have h1 : ∀ j, j < 8 → (255#64).getLsbD j = true := by decide
    rw [h1 i h, Bool.and_true]
    have h2 : ¬ 64 ≤ i := by omega
    have h3 : n + i < 64 := by omega
    simp [h, h2, h3, Nat.add_comm]
  · have h1 : (255#64).getLsbD i = false := by
      by_cases q : i < 64
      · have : ∀ j, j < 64 → 8 ≤ j → (255#64).getLsbD j = false := by decide
        exact this i q (by omega)
      · exact BitVec.getLsbD_of_ge _ _ (by omega)
    rw [h1, Bool.and_false]
    simp [h]
theorem by8_lG (w : Int64) (k : Nat) (sh : Int64) (hk : k ≤ 7) (hs : (sh.toBitVec.smod 64).toNat = 8 * k) : ((w >>> sh) &&& 255).toInt = by8 w k := by
  have e : ((w >>> sh) &&& 255).toBitVec = (w.toBitVec.sshiftRight (8 * k)) &&& 255#64 := by
    rw [Int64.toBitVec_and, Int64.toBitVec_shiftRight]
    show (w.toBitVec.sshiftRight (sh.toBitVec.smod 64).toNat) &&& _ = _
    rw [hs]
    rfl
  show (((w >>> sh) &&& 255).toBitVec).toInt = _
  rw [e]
  have h := ss8 w.toBitVec (8 * k) (by omega)
  rw [BitVec.toInt_eq_toNat_cond, h, if_pos (by omega)]
  rfl
theorem by8_i0 (w : Int64) : (((w.toUInt64 >>> ((0 : Int32).toInt64.toUInt64 &&& Int64.toUInt64 63)).toInt64).toInt32 &&& 255).toInt = by8 w 0 := by8_iG w 0 _ (by decide)
theorem by8_l0 (w : Int64) : ((w >>> ((0 : Int32).toInt64 &&& 63)) &&& 255).toInt = by8 w 0 := by8_lG w 0 _ (by decide) (by decide)
theorem by8_i1 (w : Int64) : (((w.toUInt64 >>> ((8 : Int32).toInt64.toUInt64 &&& Int64.toUInt64 63)).toInt64).toInt32 &&& 255).toInt = by8 w 1 := by8_iG w 1 _ (by decide)
theorem by8_l1 (w : Int64) : ((w >>> ((8 : Int32).toInt64 &&& 63)) &&& 255).toInt = by8 w 1 := by8_lG w 1 _ (by decide) (by decide)
theorem by8_i2 (w : Int64) : (((w.toUInt64 >>> ((16 : Int32).toInt64.toUInt64 &&& Int64.toUInt64 63)).toInt64).toInt32 &&& 255).toInt = by8 w 2 := by8_iG w 2 _ (by decide)
theorem by8_l2 (w : Int64) : ((w >>> ((16 : Int32).toInt64 &&& 63)) &&& 255).toInt = by8 w 2 := by8_lG w 2 _ (by decide) (by decide)
theorem by8_i3 (w : Int64) : (((w.toUInt64 >>> ((24 : Int32).toInt64.toUInt64 &&& Int64.toUInt64 63)).toInt64).toInt32 &&& 255).toInt = by8 w 3 := by8_iG w 3 _ (by decide)
theorem by8_l3 (w : Int64) : ((w >>> ((24 : Int32).toInt64 &&& 63)) &&& 255).toInt = by8 w 3 := by8_lG w 3 _ (by decide) (by decide)
theorem by8_i4 (w : Int64) : (((w.toUInt64 >>> ((32 : Int32).toInt64.toUInt64 &&& Int64.toUInt64 63)).toInt64).toInt32 &&& 255).toInt = by8 w 4 := by8_iG w 4 _ (by decide)
theorem by8_l4 (w : Int64) : ((w >>> ((32 : Int32).toInt64 &&& 63)) &&& 255).toInt = by8 w 4 := by8_lG w 4 _ (by decide) (by decide)
theorem by8_i5 (w : Int64) : (((w.toUInt64 >>> ((40 : Int32).toInt64.toUInt64 &&& Int64.toUInt64 63)).toInt64).toInt32 &&& 255).toInt = by8 w 5 := by8_iG w 5 _ (by decide)
theorem by8_l5 (w : Int64) : ((w >>> ((40 : Int32).toInt64 &&& 63)) &&& 255).toInt = by8 w 5 := by8_lG w 5 _ (by decide) (by decide)
theorem by8_i6 (w : Int64) : (((w.toUInt64 >>> ((48 : Int32).toInt64.toUInt64 &&& Int64.toUInt64 63)).toInt64).toInt32 &&& 255).toInt = by8 w 6 := by8_iG w 6 _ (by decide)
theorem by8_l6 (w : Int64) : ((w >>> ((48 : Int32).toInt64 &&& 63)) &&& 255).toInt = by8 w 6 := by8_lG w 6 _ (by decide) (by decide)
theorem by8_i7 (w : Int64) : (((w.toUInt64 >>> ((56 : Int32).toInt64.toUInt64 &&& Int64.toUInt64 63)).toInt64).toInt32 &&& 255).toInt = by8 w 7 := by8_iG w 7 _ (by decide)
theorem by8_l7 (w : Int64) : ((w >>> ((56 : Int32).toInt64 &&& 63)) &&& 255).toInt = by8 w 7 := by8_lG w 7 _ (by decide) (by decide)
