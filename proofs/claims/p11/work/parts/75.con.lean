theorem z_div {x y : Int32} {c : Int} (hy : y.toInt = c) (hc : 0 < c) : (x / y).toInt = x.toInt.tdiv c := by
  rw [Int32.toInt_div_of_ne_right x y (by intro e; rw [e] at hy; have : (-1 : Int32).toInt = -1 := rfl; omega), hy]
theorem z_shr {x y : Int32} {n : Nat} (hy : y.toInt = n) (hn : n < 32) : (x >>> (y &&& 31)).toInt = x.toInt / 2 ^ n := by
  have ey : y = Int32.ofNat n := z_inj (by
    rw [hy]; exact (z_nI (n := n) (by omega)).symm)
  have : ∀ m : Nat, m < 32 → ∀ x : Int32, (x >>> (Int32.ofNat m &&& 31)).toInt = x.toInt / 2 ^ m := by
    intro m hm x
    have e : (Int32.ofNat m &&& 31) = Int32.ofNat m := by
      revert m
      decide
    rw [e]
    show (x >>> Int32.ofNat m).toBitVec.toInt = _
    rw [Int32.toBitVec_shiftRight]
    have e2 : ((Int32.ofNat m).toBitVec.smod 32).toNat = m := by
      clear e
      revert m
      decide
    rw [BitVec.sshiftRight', e2, BitVec.toInt_sshiftRight, Int.shiftRight_eq_div_pow]
    rfl
  rw [ey]
  exact this n hn x
theorem z_ushr20 {x y : Int32} (hy : y.toInt = 20) : 0 ≤ ((x.toUInt32 >>> (y.toUInt32 &&& Int32.toUInt32 31)).toInt32).toInt ∧ ((x.toUInt32 >>> (y.toUInt32 &&& Int32.toUInt32 31)).toInt32).toInt ≤ 4095 := by
  have ey : y = 20 := z_inj hy
  subst ey
  have e : ev_u ((x.toUInt32 >>> ((20 : Int32).toUInt32 &&& Int32.toUInt32 31)).toInt32) < 4096 := by
    show (x.toBitVec >>> (((20 : Int32).toUInt32 &&& Int32.toUInt32 31).toBitVec % 32)).toNat < 4096
    have e2 : (((20 : Int32).toUInt32 &&& Int32.toUInt32 31).toBitVec % 32).toNat = 20 := by decide
    rw [BitVec.ushiftRight_eq', BitVec.toNat_ushiftRight, e2, Nat.shiftRight_eq_div_pow]
    have := x.toBitVec.isLt
    omega
  have := z_of_u (x := (x.toUInt32 >>> ((20 : Int32).toUInt32 &&& Int32.toUInt32 31)).toInt32) (by omega)
  omega
/-! PRINTED by wip/p17/con3.py: contracts of the class, second part -/
