def mfF (n : Nat) (fr : Nat → Int32) (w1 w2 w3 w4 w5 : Int32) : Nat → Int32 := if n + 20 ≤ 65536 then
  upd (upd (upd (upd (upd (upd (upd (upd (upd (upd (upd (upd (upd (upd (upd (upd (upd (upd (upd (upd fr (n + 0) (w1 >>> ((24 : Int32) &&& 31)).toInt8.toInt32) (n + 4 + 0) (w2 >>> ((24 : Int32) &&& 31)).toInt8.toInt32) (n + 8 + 0) (w3 >>> ((24 : Int32) &&& 31)).toInt8.toInt32) (n + 12 + 0) (w4 >>> ((24 : Int32) &&& 31)).toInt8.toInt32) (n + 16 + 0) (w5 >>> ((24 : Int32) &&& 31)).toInt8.toInt32)
  (n + 1) (w1 >>> ((16 : Int32) &&& 31)).toInt8.toInt32) (n + 4 + 1) (w2 >>> ((16 : Int32) &&& 31)).toInt8.toInt32) (n + 8 + 1) (w3 >>> ((16 : Int32) &&& 31)).toInt8.toInt32) (n + 12 + 1) (w4 >>> ((16 : Int32) &&& 31)).toInt8.toInt32) (n + 16 + 1) (w5 >>> ((16 : Int32) &&& 31)).toInt8.toInt32)
  (n + 2) (w1 >>> ((8 : Int32) &&& 31)).toInt8.toInt32) (n + 4 + 2) (w2 >>> ((8 : Int32) &&& 31)).toInt8.toInt32) (n + 8 + 2) (w3 >>> ((8 : Int32) &&& 31)).toInt8.toInt32) (n + 12 + 2) (w4 >>> ((8 : Int32) &&& 31)).toInt8.toInt32) (n + 16 + 2) (w5 >>> ((8 : Int32) &&& 31)).toInt8.toInt32)
  (n + 3) (w1 >>> ((0 : Int32) &&& 31)).toInt8.toInt32) (n + 4 + 3) (w2 >>> ((0 : Int32) &&& 31)).toInt8.toInt32) (n + 8 + 3) (w3 >>> ((0 : Int32) &&& 31)).toInt8.toInt32) (n + 12 + 3) (w4 >>> ((0 : Int32) &&& 31)).toInt8.toInt32) (n + 16 + 3) (w5 >>> ((0 : Int32) &&& 31)).toInt8.toInt32 else fr
def msF (n : Nat) (fr : Nat → Int32) (k b : Int32) : Nat → Int32 := if isB b ∧ 0 ≤ k.toInt ∧ k.toInt + ((1 : Nat) : Int) ≤ (n : Int) then upd fr k.toInt.toNat b.toInt8.toInt32 else fr
def nbP (f : Nat → Int32) (q : Nat) : Nat → Nat
  | 0 => 0
  | i + 1 => nbP f q i + b8 (f (q + i)) * 256 ^ i
theorem nbP_lt (f : Nat → Int32) (q i : Nat) : nbP f q i < 256 ^ i := by
  induction i with
  | zero => exact Nat.one_pos
  | succ i ih =>
    have := b8_lt (f (q + i))
    have h1 : b8 (f (q + i)) * 256 ^ i ≤ 255 * 256 ^ i := Nat.mul_le_mul_right _ (by omega)
    rw [nbP, Nat.pow_succ]
    omega
theorem nbP_nbN4 (f : Nat → Int32) (q : Nat) : nbP f q 4 = nbN f q 4 := by
  simp only [nbP, nbN, Nat.add_assoc, Nat.reduceAdd, Nat.add_zero, Nat.pow_zero, Nat.pow_one, Nat.reducePow]
  omega
theorem nbP_nbN2 (f : Nat → Int32) (q : Nat) : nbP f q 2 = nbN f q 2 := by
  simp only [nbP, nbN, Nat.add_assoc, Nat.reduceAdd, Nat.add_zero, Nat.pow_zero, Nat.pow_one, Nat.reducePow]
  omega
theorem nbP_nbN1 (f : Nat → Int32) (q : Nat) : nbP f q 1 = nbN f q 1 := by
  simp only [nbP, nbN, Nat.add_assoc, Nat.reduceAdd, Nat.add_zero, Nat.pow_zero, Nat.pow_one, Nat.reducePow]
  omega
theorem l_byte (x : Int32) : x.toInt64 &&& 255 = lN (b8 x) := by
  apply Int64.toBitVec_inj.mp
  apply BitVec.eq_of_getLsbD_eq
  intro i hi
  have e1 : (x.toInt64 &&& 255).toBitVec = x.toBitVec.signExtend 64 &&& BitVec.ofNat 64 (2 ^ 8 - 1) := rfl
  have e2 : (lN (b8 x)).toBitVec = BitVec.ofNat 64 (x.toBitVec.toNat % 2 ^ 8) := rfl
  rw [e1, e2]
  simp only [BitVec.getLsbD_and, BitVec.getLsbD_signExtend, BitVec.getLsbD_ofNat, Nat.testBit_two_pow_sub_one, Nat.testBit_mod_two_pow]
  by_cases h8 : i < 8
  · simp [hi, h8, show i < 32 from by omega, BitVec.testBit_toNat]
  · simp [h8]
theorem lN_or {a b k : Nat} (ha : a < 2 ^ k) (h : 2 ^ k * b + a < 2 ^ 64) : lN a ||| lN (2 ^ k * b) = lN (a + 2 ^ k * b) := by
  apply Int64.toBitVec_inj.mp
  apply BitVec.eq_of_toNat_eq
  have e1 : (lN a ||| lN (2 ^ k * b)).toBitVec = BitVec.ofNat 64 a ||| BitVec.ofNat 64 (2 ^ k * b) := rfl
  have e2 : (lN (a + 2 ^ k * b)).toBitVec = BitVec.ofNat 64 (a + 2 ^ k * b) := rfl
  rw [e1, e2, BitVec.toNat_or, BitVec.toNat_ofNat, BitVec.toNat_ofNat, BitVec.toNat_ofNat, Nat.mod_eq_of_lt (by omega), Nat.mod_eq_of_lt (by omega), Nat.mod_eq_of_lt (by omega), Nat.or_comm, ← Nat.two_pow_add_eq_or_of_lt ha, Nat.add_comm]
theorem lN_shl {x k : Nat} {c : Int64} (hc : c.toBitVec.smod 64 = BitVec.ofNat 64 k) (hk : k < 64) : lN x <<< c = lN (2 ^ k * x) := by
  apply Int64.toBitVec_inj.mp
  have e1 : (lN x <<< c).toBitVec = BitVec.ofNat 64 x <<< (c.toBitVec.smod 64) := rfl
  have e2 : (lN (2 ^ k * x)).toBitVec = BitVec.ofNat 64 (2 ^ k * x) := rfl
  rw [e1, e2, hc]
  apply BitVec.eq_of_toNat_eq
  show (BitVec.ofNat 64 x <<< (BitVec.ofNat 64 k).toNat).toNat = _
  rw [BitVec.toNat_shiftLeft, BitVec.toNat_ofNat, BitVec.toNat_ofNat, BitVec.toNat_ofNat, Nat.mod_eq_of_lt (a := k) (by omega), Nat.shiftLeft_eq, Nat.mod_mul_mod, Nat.mul_comm]
theorem nbP_st {f : Nat → Int32} {q j k : Nat} {c : Int64} (hc : c.toBitVec.smod 64 = BitVec.ofNat 64 k) (hk : k < 32) (he : 256 ^ j = 2 ^ k) (hj : j < 4) : lN (nbP f q j) ||| (((f (q + j)).toInt64 &&& 255) <<< c) = lN (nbP f q (j + 1)) := by
  have hb := b8_lt (f (q + j))
  have hl := nbP_lt f q j
  rw [l_byte, lN_shl hc (by omega), lN_or (by rw [← he]; exact hl) ?_, nbP, he, Nat.mul_comm (b8 _)]
  rw [he] at hl
  have h2 : 2 ^ k ≤ 2 ^ 31 := Nat.pow_le_pow_right (by decide) (by omega)
  have h3 : 2 ^ k * b8 (f (q + j)) ≤ 2 ^ 31 * 255 := Nat.mul_le_mul h2 (by omega)
  omega
theorem nbP_step0 (f : Nat → Int32) (q : Nat) : (0 : Int64) ||| (((f (q + 0)).toInt64 &&& 255) <<< (((8 : Int32) * 0).toInt64 &&& 63)) = lN (nbP f q 1) := nbP_st (j := 0) (k := 0) (by decide) (by decide) (by decide) (by decide)
theorem nbP_step1 (f : Nat → Int32) (q : Nat) : lN (nbP f q 1) ||| (((f (q + 1)).toInt64 &&& 255) <<< (((8 : Int32) * 1).toInt64 &&& 63)) = lN (nbP f q 2) := nbP_st (j := 1) (k := 8) (by decide) (by decide) (by decide) (by decide)
theorem nbP_step2 (f : Nat → Int32) (q : Nat) : lN (nbP f q 2) ||| (((f (q + 2)).toInt64 &&& 255) <<< (((8 : Int32) * 2).toInt64 &&& 63)) = lN (nbP f q 3) := nbP_st (j := 2) (k := 16) (by decide) (by decide) (by decide) (by decide)
theorem nbP_step3 (f : Nat → Int32) (q : Nat) : lN (nbP f q 3) ||| (((f (q + 3)).toInt64 &&& 255) <<< (((8 : Int32) * 3).toInt64 &&& 63)) = lN (nbP f q 4) := nbP_st (j := 3) (k := 24) (by decide) (by decide) (by decide) (by decide)
