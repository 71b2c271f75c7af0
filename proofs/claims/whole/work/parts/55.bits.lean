/-! bits of small numbers -/
theorem b_or (a b : Nat) : nI a ||| nI b = nI (a ||| b) := by
  unfold nI; apply Int32.toBitVec_inj.mp; rw [Int32.toBitVec_or]; simp only [Int32.toBitVec_ofNat', BitVec.ofNat_or]
theorem b_and (a b : Nat) : nI a &&& nI b = nI (a &&& b) := by
  unfold nI; apply Int32.toBitVec_inj.mp; rw [Int32.toBitVec_and]; simp only [Int32.toBitVec_ofNat', BitVec.ofNat_and]
theorem b_s32 : ∀ s, s < 32 → (nI s &&& 31).toBitVec.smod 32 = BitVec.ofNat 32 s := by decide
theorem b_shl (a : Nat) {s : Nat} (hs : s < 32) : nI a <<< (nI s &&& 31) = nI (a * 2 ^ s) := by
  apply Int32.toBitVec_inj.mp
  rw [Int32.toBitVec_shiftLeft, b_s32 s hs]
  apply BitVec.eq_of_toNat_eq
  unfold nI
  simp only [Int32.toBitVec_ofNat', BitVec.shiftLeft_eq', BitVec.toNat_shiftLeft, BitVec.toNat_ofNat, Nat.shiftLeft_eq]
  rw [Nat.mod_eq_of_lt (show s < 2 ^ 32 by omega), Nat.mod_mul_mod]
theorem b_shr {a s : Nat} (ha : a < 2147483648) (hs : s < 32) : nI a >>> (nI s &&& 31) = nI (a / 2 ^ s) := by
  apply Int32.toBitVec_inj.mp
  rw [Int32.toBitVec_shiftRight, b_s32 s hs]
  apply BitVec.eq_of_toNat_eq
  unfold nI
  have hm : (BitVec.ofNat 32 a).msb = false := by
    rw [BitVec.msb_eq_decide]; simp; omega
  have h1 : a / 2 ^ s ≤ a := Nat.div_le_self _ _
  simp only [Int32.toBitVec_ofNat', BitVec.sshiftRight_eq', BitVec.sshiftRight_eq_of_msb_false hm, BitVec.toNat_ushiftRight, BitVec.toNat_ofNat, Nat.shiftRight_eq_div_pow]
  rw [Nat.mod_eq_of_lt (show s < 2 ^ 32 by omega), Nat.mod_eq_of_lt (show a < 2 ^ 32 by omega), Nat.mod_eq_of_lt (show a / 2 ^ s < 2 ^ 32 by omega)]
theorem b_msk : ∀ b, b < 31 → ((1 : Int32) <<< (nI b &&& 31)) - 1 = nI (2 ^ b - 1) := by decide
theorem b_mod (a : Nat) {b : Nat} (hb : b < 31) : nI a &&& (((1 : Int32) <<< (nI b &&& 31)) - 1) = nI (a % 2 ^ b) := by
  rw [b_msk b hb, b_and, Nat.and_two_pow_sub_one_eq_mod]
theorem b_cat {a v s : Nat} (ha : a < 2 ^ s) (hs : s < 32) : nI a ||| (nI v <<< (nI s &&& 31)) = nI (a + 2 ^ s * v) := by
  rw [b_shl v hs, b_or]
  congr 1
  rw [Nat.add_comm, Nat.two_pow_add_eq_or_of_lt ha, Nat.or_comm, Nat.mul_comm]
/-! longs -/
def lI (n : Nat) : Int64 := Int64.ofNat n
theorem l_or (a b : Nat) : lI a ||| lI b = lI (a ||| b) := by
  unfold lI; apply Int64.toBitVec_inj.mp; rw [Int64.toBitVec_or]; simp only [Int64.toBitVec_ofNat', BitVec.ofNat_or]
theorem l_and (a b : Nat) : lI a &&& lI b = lI (a &&& b) := by
  unfold lI; apply Int64.toBitVec_inj.mp; rw [Int64.toBitVec_and]; simp only [Int64.toBitVec_ofNat', BitVec.ofNat_and]
theorem l_s64 : ∀ s, s < 64 → ((nI s).toInt64 &&& 63).toBitVec.smod 64 = BitVec.ofNat 64 s := by decide
theorem l_shl (a : Nat) {s : Nat} (hs : s < 64) : jShl (lI a) (nI s) = lI (a * 2 ^ s) := by
  apply Int64.toBitVec_inj.mp
  rw [Int64.toBitVec_shiftLeft, l_s64 s hs]
  apply BitVec.eq_of_toNat_eq
  unfold lI
  simp only [Int64.toBitVec_ofNat', BitVec.shiftLeft_eq', BitVec.toNat_shiftLeft, BitVec.toNat_ofNat, Nat.shiftLeft_eq]
  rw [Nat.mod_eq_of_lt (show s < 2 ^ 64 by omega), Nat.mod_mul_mod]
theorem l_shr {a s : Nat} (ha : a < 9223372036854775808) (hs : s < 64) : jShr (lI a) (nI s) = lI (a / 2 ^ s) := by
  apply Int64.toBitVec_inj.mp
  rw [Int64.toBitVec_shiftRight, l_s64 s hs]
  apply BitVec.eq_of_toNat_eq
  unfold lI
  have hm : (BitVec.ofNat 64 a).msb = false := by
    rw [BitVec.msb_eq_decide]; simp; omega
  have h1 : a / 2 ^ s ≤ a := Nat.div_le_self _ _
  simp only [Int64.toBitVec_ofNat', BitVec.sshiftRight_eq', BitVec.sshiftRight_eq_of_msb_false hm, BitVec.toNat_ushiftRight, BitVec.toNat_ofNat, Nat.shiftRight_eq_div_pow]
  rw [Nat.mod_eq_of_lt (show s < 2 ^ 64 by omega), Nat.mod_eq_of_lt (show a < 2 ^ 64 by omega), Nat.mod_eq_of_lt (show a / 2 ^ s < 2 ^ 64 by omega)]
theorem l_cat {a v s : Nat} (ha : a < 2 ^ s) (hs : s < 64) : lI a ||| jShl (lI v) (nI s) = lI (a + 2 ^ s * v) := by
  rw [l_shl v hs, l_or]
  congr 1
  rw [Nat.add_comm, Nat.two_pow_add_eq_or_of_lt ha, Nat.or_comm, Nat.mul_comm]
theorem l_wide {a : Nat} (ha : a < 2147483648) : (nI a).toInt64 = lI a := by
  unfold nI lI
  apply Int64.toInt_inj.mp
  rw [Int32.toInt_toInt64, Int32.toInt_ofNat_of_lt (by omega), Int64.toInt_ofNat_of_lt (by omega)]
theorem l_nar (a : Nat) : (lI a).toInt32 = nI a := by
  unfold lI nI; simp
