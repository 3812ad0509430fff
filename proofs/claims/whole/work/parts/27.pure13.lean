/-! class against reference: bits -/
theorem an1 (x : Int32) : x &&& nI 1 = bI (x.toBitVec.getLsbD 0) := by
  have h := pk_and x (m := nI 1) 1 (by decide)
  rw [h, BitVec.getLsbD, Nat.testBit_zero]
  have : x.toBitVec.toNat % 2 ^ 1 = 0 ∨ x.toBitVec.toNat % 2 ^ 1 = 1 := by omega
  rcases this with h | h <;> rw [h]
  · rw [decide_eq_false (by omega)]; rfl
  · rw [decide_eq_true (by omega)]; rfl
theorem shu : ∀ k, k < 32 → ((((nI k).toUInt32 &&& Int32.toUInt32 31)).toBitVec % 32).toNat = k := by decide +kernel
theorem xbit_b (x : Int32) {k : Nat} (hk : k < 32) : xbit x k = bI (x.toBitVec.getLsbD k) := by
  unfold xbit
  rw [an1]
  congr 1
  show ((x.toUInt32 >>> ((nI k).toUInt32 &&& Int32.toUInt32 31)).toBitVec).getLsbD 0 = _
  rw [UInt32.toBitVec_shiftRight, BitVec.ushiftRight_eq', BitVec.getLsbD_ushiftRight, shu k hk, Nat.add_zero]
  rfl
theorem sbit_b (x : Int32) {k : Nat} (hk : k < 32) : sbit x k = bI (x.toBitVec.getLsbD k) := by
  unfold sbit
  rw [an1, Int32.toBitVec_shiftRight, BitVec.sshiftRight_eq', BitVec.getLsbD_sshiftRight, shm k hk]
  simp [hk]
theorem xs_bit (x : Int32) {k : Nat} (hk : k < 32) : xbit x k = sbit x k := by rw [xbit_b x hk, sbit_b x hk]
theorem shu6 : ∀ k, k < 64 → ((((nI k).toInt64.toUInt64 &&& Int64.toUInt64 63)).toBitVec % 64).toNat = k := by decide +kernel
theorem shs6 : ∀ k, k < 64 → ((((nI k).toInt64 &&& 63)).toBitVec.smod 64).toNat = k := by decide +kernel
theorem lsh_b (x : Int64) {k : Nat} (hk : k < 64) : ((x.toUInt64 >>> ((nI k).toInt64.toUInt64 &&& Int64.toUInt64 63)).toInt64).toBitVec.getLsbD 0 = x.toBitVec.getLsbD k := by
  show ((x.toUInt64 >>> ((nI k).toInt64.toUInt64 &&& Int64.toUInt64 63)).toBitVec).getLsbD 0 = _
  rw [UInt64.toBitVec_shiftRight, BitVec.ushiftRight_eq', BitVec.getLsbD_ushiftRight, shu6 k hk, Nat.add_zero]
  rfl
theorem toI_b (x : Int64) : x.toInt32.toBitVec.getLsbD 0 = x.toBitVec.getLsbD 0 := by
  rw [Int64.toBitVec_toInt32, BitVec.getLsbD_signExtend]
  simp
theorem wdB_b (x : Int64) {k : Nat} (hk : k < 64) : wdB x k = bI (x.toBitVec.getLsbD k) := by
  unfold wdB
  rw [an1, toI_b, lsh_b x hk]
theorem an1L (x : Int64) : (x &&& 1).toInt32 = bI (x.toBitVec.getLsbD 0) := by
  have h : x &&& 1 = if x.toBitVec.getLsbD 0 then 1 else 0 := by
    apply Int64.toBitVec.inj
    rw [Int64.toBitVec_and]
    apply BitVec.eq_of_toNat_eq
    rw [BitVec.toNat_and, show (1 : Int64).toBitVec.toNat = 2 ^ 1 - 1 from by decide, Nat.and_two_pow_sub_one_eq_mod, BitVec.getLsbD, Nat.testBit_zero]
    have : x.toBitVec.toNat % 2 ^ 1 = 0 ∨ x.toBitVec.toNat % 2 ^ 1 = 1 := by omega
    rcases this with h | h <;> rw [h]
    · rw [decide_eq_false (by omega)]; rfl
    · rw [decide_eq_true (by omega)]; rfl
  rw [h]
  cases x.toBitVec.getLsbD 0 <;> decide
theorem wdG_b (x : Int64) {k : Nat} (hk : k < 64) : wdG x k = bI (x.toBitVec.getLsbD k) := by
  unfold wdG
  rw [an1L, Int64.toBitVec_shiftRight, BitVec.sshiftRight_eq', BitVec.getLsbD_sshiftRight, shs6 k hk]
  simp [hk]
theorem wd_eq (x : Int64) {k : Nat} (hk : k < 64) : wdB x k = wdG x k := by rw [wdB_b x hk, wdG_b x hk]
theorem bI_x (a b : Bool) : bI (a ^^ b) = bI a ^^^ bI b := by cases a <;> cases b <;> decide
/-- the stirrer's past and the row of 58 bits -/
def wbR (w : Int64) (h : Nat → Int32) : Prop := ∀ j, j < 58 → h j = bI (w.toBitVec.getLsbD j)
theorem turF_b (w : Int64) : turF w = bI (w.toBitVec.getLsbD 38) ^^^ bI (w.toBitVec.getLsbD 57) := by
  unfold turF
  rw [an1, toI_b, Int64.toBitVec_xor, BitVec.getLsbD_xor, lsh_b w (by decide : 38 < 64), lsh_b w (by decide : 57 < 64), bI_x]
theorem tur_h {w : Int64} {h : Nat → Int32} (hw : wbR w h) : turF w = h 38 ^^^ h 57 := by
  rw [turF_b, hw 38 (by decide), hw 57 (by decide)]
theorem sh1 : ((((nI 1).toInt64 &&& 63)).toBitVec.smod 64).toNat = 1 := by decide
theorem rem_h {w : Int64} {h : Nat → Int32} (hw : wbR w h) {b : Int32} (hb : b = 0 ∨ b = 1) : wbR (remF w b) (rmF h b) := by
  intro j hj
  unfold remF rmF
  rw [Int64.toBitVec_or, BitVec.getLsbD_or, Int64.toBitVec_shiftLeft, BitVec.shiftLeft_eq', BitVec.getLsbD_shiftLeft, sh1]
  by_cases h0 : j = 0
  · subst h0
    rcases hb with h | h <;> rw [h] <;> simp <;> decide
  · rw [if_neg h0, if_pos (by omega), hw (j - 1) (by omega)]
    congr 1
    have hz : b.toInt64.toBitVec.getLsbD j = false := by
      rcases hb with h | h <;> rw [h]
      · show (0 : BitVec 64).getLsbD j = false
        simp
      · show (1#64 : BitVec 64).getLsbD j = false
        rw [BitVec.getLsbD_one]
        simp; omega
    rw [hz]
    have h1 : decide (j < 64) = true := decide_eq_true (by omega)
    have h2 : decide (j < 1) = false := decide_eq_false (by omega)
    simp [h1, h2]
    exact fun _ => h0
theorem rem_0 (h : Nat → Int32) : wbR (-1) (emF h 58) := by
  intro j hj
  unfold emF
  rw [if_pos hj]
  have : ((-1 : Int64)).toBitVec.getLsbD j = true := by
    show (BitVec.allOnes 64).getLsbD j = true
    rw [BitVec.getLsbD_allOnes]
    exact decide_eq_true (by omega)
  rw [this]
  rfl
