/-! THE ARGUMENTS: what their methods compute -/
def agN (a : Nat) : Nat := if a < 32 then a + 1 else a
def agZ (a : Nat) (z : Nat → Nat) : Nat → Nat := if a < 32 then upn z a 0 else z
def shv (t : Nat) : Int32 := 56 - 8 * nI t
theorem shv_fin : ∀ t, t < 9 → (shv t < 0 → t = 8) ∧ (¬ shv t < 0 → t < 8) ∧ (t < 8 → shv t + Int32.ofInt (-8) = shv (t + 1)) := by decide
theorem shv_neg {t : Nat} (h : t ≤ 8) (c : shv t < 0) : t = 8 := (shv_fin t (by omega)).1 c
theorem shv_pos {t : Nat} (h : t ≤ 8) (c : ¬ shv t < 0) : t < 8 := (shv_fin t (by omega)).2.1 c
theorem shv_step {t : Nat} (h : t < 8) : shv t + Int32.ofInt (-8) = shv (t + 1) := (shv_fin t (by omega)).2.2 h
def lby (w : Int64) (t : Nat) : Int32 := (w >>> ((shv t).toInt64 &&& 63)).toInt32.toInt8.toInt32
def ltN (w : Int64) : Nat → Nat
  | 0 => 0
  | t + 1 => if lby w t = 0 then ltN w t else ltN w t + 1
theorem ltN_mono (w : Int64) (t d : Nat) : ltN w t ≤ ltN w (t + d) := by
  induction d with
  | zero => exact Nat.le_refl _
  | succ d ih =>
    refine Nat.le_trans ih ?_
    show ltN w (t + d) ≤ ltN w (t + d + 1)
    rw [ltN]
    split <;> omega
theorem ltN_le (w : Int64) (t : Nat) : ltN w t ≤ t := by
  induction t with
  | zero => exact Nat.le_refl _
  | succ t ih =>
    rw [ltN]
    split <;> omega
def tpN (z : Nat → Nat) : Nat → Nat
  | 0 => 4096
  | i + 1 => (tpN z i - z i - 1) / 4 * 4
theorem tpN_le (z : Nat → Nat) (i : Nat) : tpN z i ≤ 4096 := by
  induction i with
  | zero => exact Nat.le_refl _
  | succ i ih =>
    rw [tpN]
    omega
theorem tpN_ge {z : Nat → Nat} (hz : ∀ j, z j ≤ 127) (i : Nat) : 4096 ≤ tpN z i + 128 * i ∧ tpN z i % 4 = 0 := by
  induction i with
  | zero => exact ⟨Nat.le_refl _, by simp [tpN]⟩
  | succ i ih =>
    have := hz i
    rw [tpN]
    omega
def spOf (z : Nat → Nat) (a : Nat) : Int32 := (nI (tpN z a) - nI (4 * (a + 1))) &&& (-16)
theorem p_and4 {x : Nat} (h : x < 2 ^ 31) : nI x &&& (-4) = nI (x / 4 * 4) := by
  apply Int32.toBitVec_inj.mp
  apply BitVec.eq_of_toNat_eq
  rw [Int32.toBitVec_and, BitVec.toNat_and, pk_tn (by omega), pk_tn (by omega)]
  have h4 : (-4 : Int32).toBitVec.toNat = 2 ^ 32 - 4 := rfl
  rw [h4]
  apply Nat.eq_of_testBit_eq
  intro i
  have e : (2 ^ 32 - 4 : Nat) = (2 ^ 30 - 1) * 2 ^ 2 := rfl
  rw [Nat.testBit_and, e, Nat.testBit_mul_two_pow, Nat.testBit_two_pow_sub_one, show x / 4 * 4 = (x / 2 ^ 2) * 2 ^ 2 from rfl, Nat.testBit_mul_two_pow, Nat.testBit_div_two_pow]
  by_cases hi : 2 ≤ i
  · simp only [hi, decide_true, Bool.true_and]
    rw [show i - 2 + 2 = i from by omega]
    by_cases h3 : i - 2 < 30
    · simp [h3]
    · simp only [h3, decide_false, Bool.and_false]
      exact (Nat.testBit_lt_two_pow (Nat.lt_of_lt_of_le h (Nat.pow_le_pow_right (by decide) (by omega)))).symm
  · simp [hi]
theorem upn_self (z : Nat → Nat) (k : Nat) : upn z k (z k) = z := by
  funext j
  by_cases h : j = k <;> simp [upn, h]
theorem upn_eq (z : Nat → Nat) (k x : Nat) : upn z k x k = x := by simp [upn]
theorem upn_ne (z : Nat → Nat) {k j : Nat} (x : Nat) (h : j ≠ k) : upn z k x j = z j := by simp [upn, h]
theorem upn_upn (z : Nat → Nat) (k x y : Nat) : upn (upn z k x) k y = upn z k y := by
  funext j
  by_cases h : j = k <;> simp [upn, h]
def exA (ar : Nat → Int32) (z : Nat → Nat) (b : Nat) (w : Int64) : Nat → Nat → Int32
  | 0 => ar
  | t + 1 => if lby w t = 0 then exA ar z b w t else upd (exA ar z b w t) (b * 127 + (z b + ltN w t)) (lby w t)
def exFA (a : Nat) (ar : Nat → Int32) (z : Nat → Nat) (w : Int64) : Nat → Int32 := if 0 < a ∧ z (a - 1) + ltN w 8 ≤ 127 then exA ar z (a - 1) w 8 else ar
def exFZ (a : Nat) (z : Nat → Nat) (w : Int64) : Nat → Nat := if 0 < a ∧ z (a - 1) + ltN w 8 ≤ 127 then upn z (a - 1) (z (a - 1) + ltN w 8) else z
