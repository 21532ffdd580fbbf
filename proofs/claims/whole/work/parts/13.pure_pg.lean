/-! PAGES: what their methods compute -/
def zf (j : Nat) (f : Nat → Int32) : Nat → Int32 := fun k => if k < j then 0 else f k
theorem zf_step (j : Nat) (f : Nat → Int32) : upd (zf j f) j 0 = zf (j + 1) f := by
  funext k
  by_cases h : k = j
  · simp [upd, zf, h]
  · by_cases h2 : k < j
    · simp [upd, zf, h, h2, Nat.lt_succ_of_lt h2]
    · simp [upd, zf, h, h2, show ¬ k < j + 1 from by omega]
theorem zf_0 (f : Nat → Int32) : zf 0 f = f := by
  funext k
  simp [zf]
theorem upr_self (pb : Nat → Nat → Int32) (i : Nat) : upr pb i (pb i) = pb := by
  funext j
  by_cases h : j = i <;> simp [upr, h]
theorem upr_upr (pb : Nat → Nat → Int32) (i : Nat) (f g : Nat → Int32) : upr (upr pb i f) i g = upr pb i g := by
  funext j
  by_cases h : j = i <;> simp [upr, h]
def rdB (f : Nat → Int32) (k : Int32) : Int32 := if 0 ≤ k.toInt ∧ k.toInt < 4096 then f k.toInt.toNat &&& 255 else -1
theorem p_h2 {k m n : Nat} (hk : k < 2 ^ 31) (hkm : k + m ≤ n) (hn : n ≤ 65536) : 0 ≤ (nI k).toInt64.toInt ∧ 0 ≤ (nI m).toInt64.toInt ∧ (nI k).toInt64.toInt + (nI m).toInt64.toInt ≤ (n : Int) := by
  rw [Int32.toInt_toInt64, Int32.toInt_toInt64, nI_toInt hk, nI_toInt (by omega)]
  omega
