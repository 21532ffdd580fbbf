def mpF (n : Nat) (fr : Nat → Int32) (k kn w : Int32) : Nat → Int32 := if mOK kn ∧ 0 ≤ k.toInt ∧ k.toInt + ((tN kn : Nat) : Int) ≤ (n : Int) then wrN fr k.toInt.toNat w (tN kn) else fr
theorem p_put {j n M : Nat} (hj : j < 2 ^ 31) (hn : n ≤ 65536) (hM : M ≤ 4) : nI j ≤ nI n - nI M ↔ j + M ≤ n := by
  rw [Int32.le_iff_toInt_le, nI_toInt hj, pk_sub_toInt (by omega) (by omega)]
  omega
def svK (t : Nat) : Int32 := 7 - nI t
theorem svK_fin : ∀ t, t < 9 → (svK t < 0 → t = 8) ∧ (¬ svK t < 0 → t < 8) ∧ (t < 8 → svK t + Int32.ofInt (-1) = svK (t + 1)) ∧ (t < 8 → ((8 * svK t).toInt64 &&& 63) = ((shv t).toInt64 &&& 63)) ∧ (t < 8 → ((nI (8 * t)).toInt64 &&& 63) = ((shv (7 - t)).toInt64 &&& 63)) := by decide
theorem svK_neg {t : Nat} (h : t ≤ 8) (c : svK t < 0) : t = 8 := (svK_fin t (by omega)).1 c
theorem svK_pos {t : Nat} (h : t ≤ 8) (c : ¬ svK t < 0) : t < 8 := (svK_fin t (by omega)).2.1 c
theorem svK_step {t : Nat} (h : t < 8) : svK t + Int32.ofInt (-1) = svK (t + 1) := (svK_fin t (by omega)).2.2.1 h
def mlb (w : Int64) (t : Nat) : Int32 := (w >>> ((8 * svK t).toInt64 &&& 63)).toInt32 &&& 255
def mby (w : Int64) (t : Nat) : Int64 := (w >>> ((nI (8 * t)).toInt64 &&& 63)) &&& 255
theorem i8_bv (x : Int32) : x.toInt8.toInt32.toBitVec = (x.toBitVec.setWidth 8).signExtend 32 := by
  have e : x.toInt8.toInt32.toBitVec = (x.toBitVec.signExtend 8).signExtend 32 := rfl
  rw [e, BitVec.signExtend_eq_setWidth_of_le x.toBitVec (by decide)]
theorem i8_and (x : Int32) : (x &&& 255).toInt8.toInt32 = x.toInt8.toInt32 := by
  apply Int32.toBitVec_inj.mp
  rw [i8_bv, i8_bv]
  congr 1
  have e1 : (x &&& 255).toBitVec = x.toBitVec &&& BitVec.ofNat 32 (2 ^ 8 - 1) := rfl
  rw [e1]
  apply BitVec.eq_of_getLsbD_eq
  intro i hi
  simp only [BitVec.getLsbD_setWidth, BitVec.getLsbD_and, BitVec.getLsbD_ofNat, Nat.testBit_two_pow_sub_one]
  simp [hi, show i < 32 from by omega]
theorem b8_i8 (x : Int32) : x.toInt8.toInt32 = 0 ↔ b8 x = 0 := by
  have e : x.toInt8.toInt32 = 0 ↔ x.toBitVec.setWidth 8 = 0#8 := by
    constructor
    · intro h
      have h1 := congrArg (fun y : Int32 => y.toBitVec.setWidth 8) h
      simp only [i8_bv] at h1
      have h2 : ((x.toBitVec.setWidth 8).signExtend 32).setWidth 8 = x.toBitVec.setWidth 8 := by
        apply BitVec.eq_of_getLsbD_eq
        intro i hi
        simp only [BitVec.getLsbD_setWidth, BitVec.getLsbD_signExtend]
        simp [hi, show i < 32 from by omega]
      rw [h2] at h1
      exact h1
    · intro h
      apply Int32.toBitVec_inj.mp
      rw [i8_bv, h]
      rfl
  rw [e]
  constructor
  · intro h
    have := congrArg BitVec.toNat h
    simpa [b8, BitVec.toNat_setWidth] using this
  · intro h
    apply BitVec.eq_of_toNat_eq
    simpa [b8, BitVec.toNat_setWidth] using h
theorem and255 (x : Int32) : x &&& 255 = nI (b8 x) := pk_and x 8 (by decide)
theorem mlb_b (w : Int64) {t : Nat} (h : t < 8) : (mlb w t).toInt8.toInt32 = lby w t := by
  unfold mlb lby
  rw [i8_and, (svK_fin t (by omega)).2.2.2.1 h]
theorem mlb_le (w : Int64) {t : Nat} (h : t < 8) : mlb w t ≤ 0 ↔ lby w t = 0 := by
  unfold lby
  rw [b8_i8]
  unfold mlb
  rw [(svK_fin t (by omega)).2.2.2.1 h, and255]
  have hb := b8_lt (w >>> ((shv t).toInt64 &&& 63)).toInt32
  rw [show (0 : Int32) = nI 0 from rfl, nI_leI (by omega) (by decide)]
  omega
theorem l_and (x : Int64) : x &&& 255 = lN (b8 x.toInt32) := by
  apply Int64.toBitVec_inj.mp
  apply BitVec.eq_of_getLsbD_eq
  intro i hi
  have e1 : (x &&& 255).toBitVec = x.toBitVec &&& BitVec.ofNat 64 (2 ^ 8 - 1) := rfl
  have e2 : (lN (b8 x.toInt32)).toBitVec = BitVec.ofNat 64 ((x.toBitVec.signExtend 32).toNat % 2 ^ 8) := rfl
  rw [e1, e2, BitVec.signExtend_eq_setWidth_of_le x.toBitVec (by decide)]
  simp only [BitVec.getLsbD_and, BitVec.getLsbD_ofNat, Nat.testBit_two_pow_sub_one, Nat.testBit_mod_two_pow, BitVec.testBit_toNat, BitVec.getLsbD_setWidth]
  by_cases h8 : i < 8
  · simp [hi, h8, show i < 32 from by omega]
  · simp [h8]
theorem mby_le (w : Int64) {t : Nat} (h : t < 8) : mby w t ≤ 0 ↔ lby w (7 - t) = 0 := by
  unfold lby
  rw [b8_i8]
  unfold mby
  rw [(svK_fin t (by omega)).2.2.2.2 h, l_and]
  have hb := b8_lt (w >>> ((shv (7 - t)).toInt64 &&& 63)).toInt32
  rw [show (0 : Int64) = lN 0 from rfl, pk_lLE (by omega) (by decide)]
  omega
def mcN (w : Int64) : Nat → Nat
  | 0 => 0
  | t + 1 => if mby w t ≤ 0 then mcN w t else mcN w t + 1
theorem mcN_le (w : Int64) (t : Nat) : mcN w t ≤ t := by
  induction t with
  | zero => exact Nat.le_refl _
  | succ t ih =>
    rw [mcN]
    split <;> omega
def nz (w : Int64) (t : Nat) : Nat := if lby w t = 0 then 0 else 1
theorem ltN_s (w : Int64) (t : Nat) : ltN w (t + 1) = ltN w t + nz w t := by
  rw [ltN, nz]
  split <;> rfl
theorem mcN_s (w : Int64) {t : Nat} (h : t < 8) : mcN w (t + 1) = mcN w t + nz w (7 - t) := by
  rw [mcN, nz]
  by_cases c : lby w (7 - t) = 0
  · rw [if_pos ((mby_le w h).mpr c), if_pos c]; rfl
  · rw [if_neg (fun h9 => c ((mby_le w h).mp h9)), if_neg c]
theorem mcN_lt (w : Int64) : mcN w 8 = ltN w 8 := by
  rw [mcN_s w (t := 7) (by decide), mcN_s w (t := 6) (by decide), mcN_s w (t := 5) (by decide), mcN_s w (t := 4) (by decide), mcN_s w (t := 3) (by decide), mcN_s w (t := 2) (by decide), mcN_s w (t := 1) (by decide), mcN_s w (t := 0) (by decide)]
  rw [ltN_s w 7, ltN_s w 6, ltN_s w 5, ltN_s w 4, ltN_s w 3, ltN_s w 2, ltN_s w 1, ltN_s w 0]
  simp only [mcN, ltN, show 7 - 7 = 0 from rfl, show 7 - 6 = 1 from rfl, show 7 - 5 = 2 from rfl, show 7 - 4 = 3 from rfl, show 7 - 3 = 4 from rfl, show 7 - 2 = 5 from rfl, show 7 - 1 = 6 from rfl, show 7 - 0 = 7 from rfl]
  omega
def mxA (le : Nat → Int32) (z : Nat → Nat) (b : Nat) (w : Int64) : Nat → Nat → Int32
  | 0 => le
  | t + 1 => if lby w t = 0 then mxA le z b w t else upd (mxA le z b w t) (128 * b + (z b + ltN w t)) (lby w t)
def mxFA (a : Nat) (le : Nat → Int32) (z : Nat → Nat) (w : Int64) : Nat → Int32 := if 0 < a ∧ z (a - 1) + ltN w 8 ≤ 127 then mxA le z (a - 1) w 8 else le
