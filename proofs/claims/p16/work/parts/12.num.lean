/-! shifts: only the amount's low bits count -/
theorem i32_smod (y : BitVec 32) : (y.smod 32).toNat = y.toNat % 32 := by
  have h32 : BitVec.msb (32 : BitVec 32) = false := by decide
  cases hm : y.msb
  · simp only [BitVec.smod, hm, h32]
    show (y.umod 32).toNat = _
    rw [BitVec.umod_eq, BitVec.toNat_umod]
    rfl
  · have hlt : y.toNat < 2 ^ 32 := y.isLt
    have hge : 2 ^ 31 ≤ y.toNat := by
      have := BitVec.msb_eq_decide y
      rw [hm] at this
      simpa using (of_decide_eq_true this.symm)
    simp only [BitVec.smod, hm, h32]
    have e1 : (y.neg.umod 32).toNat = (2 ^ 32 - y.toNat) % 32 := by
      rw [BitVec.umod_eq, BitVec.toNat_umod]
      show (-y).toNat % 32 = _
      rw [BitVec.toNat_neg]
      have h9 : (2 ^ 32 - y.toNat) % 2 ^ 32 = 2 ^ 32 - y.toNat := Nat.mod_eq_of_lt (by omega)
      rw [h9]
    by_cases h0 : y.neg.umod 32 = BitVec.zero 32
    · rw [if_pos h0, e1]
      have h1 := congrArg BitVec.toNat h0
      rw [e1] at h1
      have h2 : (BitVec.zero 32).toNat = 0 := rfl
      rw [h2] at h1
      omega
    · rw [if_neg h0]
      have h1 : ¬ (y.neg.umod 32).toNat = 0 := fun z => h0 (BitVec.eq_of_toNat_eq (by rw [z]; rfl))
      show ((32 : BitVec 32) - y.neg.umod 32).toNat = _
      rw [BitVec.toNat_sub]
      have h3 : (32 : BitVec 32).toNat = 32 := rfl
      rw [e1, h3]
      rw [e1] at h1
      omega
theorem i32_and31 (y : Int32) : ((y &&& 31).toBitVec.smod 32).toNat = (y.toBitVec.smod 32).toNat := by
  rw [i32_smod, i32_smod]
  have : (y &&& 31).toBitVec.toNat = y.toBitVec.toNat % 32 := by
    show (y.toBitVec &&& (31 : Int32).toBitVec).toNat = _
    rw [BitVec.toNat_and, show (31 : Int32).toBitVec.toNat = 2 ^ 5 - 1 from by decide, Nat.and_two_pow_sub_one_eq_mod]
  rw [this, Nat.mod_mod]
theorem i32_ishl (x y : Int32) : x <<< y = x <<< (y &&& 31) := by
  apply Int32.toBitVec_inj.mp
  show x.toBitVec <<< (y.toBitVec.smod 32) = x.toBitVec <<< ((y &&& 31).toBitVec.smod 32)
  rw [BitVec.shiftLeft_eq', BitVec.shiftLeft_eq', i32_and31]
theorem i32_ishr (x y : Int32) : x >>> y = x >>> (y &&& 31) := by
  apply Int32.toBitVec_inj.mp
  show x.toBitVec.sshiftRight' (y.toBitVec.smod 32) = x.toBitVec.sshiftRight' ((y &&& 31).toBitVec.smod 32)
  unfold BitVec.sshiftRight'
  rw [i32_and31]
