def mabO (pg : Nat) (ye ys : Int32) (yt yg : Nat) (x : Int32) : Int32 := if x < 0 ∨ ¬ x ≤ 4 then -1 else if pg = 0 then 0 else if x = 0 then ye else if x = 1 then ys else if x = 2 then nI yt else if x = 3 then nI yg else nI pg
def lcp (g : Nat → Int32) (le : Nat → Int32) (b tp : Nat) : Nat → Nat → Int32
  | 0 => g
  | j + 1 => upd (lcp g le b tp j) (tp + j) (le (b + j))
def mkT (f : Nat → Int32) (le : Nat → Int32) (z : Nat → Nat) (P E : Nat) : Nat → Nat → Int32
  | 0 => f
  | q + 1 => wrN (lcp (mkT f le z P E q) le (128 * q) (tpN z (q + 1)) (z q)) (P + 4 * q) (nI (E - 4096 + tpN z (q + 1))) 4
theorem fitnar {x : Int32} (h : fits .byte (.int x) = true) : vp_nar .byte x = x := by
  rw [vp_nar_byte]
  have h1 : -128 ≤ x.toInt ∧ x.toInt < 128 := by
    have h1 : (-128 : Int32).toInt = -128 := by decide
    have h2 : (127 : Int32).toInt = 127 := by decide
    simp only [fits, Bool.and_eq_true, decide_eq_true_eq, Int32.le_iff_toInt_le, h1, h2] at h
    omega
  exact lg_i2b_small h1.1 h1.2
theorem p_ltI {x : Int32} {A : Nat} (h : A < 2 ^ 31) : x < nI A ↔ x.toInt < (A : Int) := by rw [Int32.lt_iff_toInt_lt, nI_toInt h]
theorem p_leI {x : Int32} {A : Nat} (h : A < 2 ^ 31) : nI A ≤ x ↔ (A : Int) ≤ x.toInt := by rw [Int32.le_iff_toInt_le, nI_toInt h]
theorem p_leL {x : Int32} {U : Nat} (h : U < 2 ^ 63) : lN U ≤ x.toInt64 ↔ (U : Int) ≤ x.toInt := by rw [Int64.le_iff_toInt_le, pk_lT h, Int32.toInt_toInt64]
abbrev inP (gA gS : Nat → Nat) (x : Int32) (k : Nat) : Prop := (gA k : Int) ≤ x.toInt ∧ x.toInt < (((gA k + gS k + 4095) / 4096 * 4096 : Nat) : Int)
def psI (gA gS : Nat → Nat) (x : Int32) : Nat → Int32
  | 0 => -1
  | k + 1 => if inP gA gS x k then nI k else psI gA gS x k
theorem psI_or (gA gS : Nat → Nat) (x : Int32) (k : Nat) : psI gA gS x k = -1 ∨ ∃ j, j < k ∧ psI gA gS x k = nI j ∧ inP gA gS x j := by
  induction k with
  | zero => exact Or.inl rfl
  | succ k ih =>
    rw [psI]
    by_cases c : inP gA gS x k
    · rw [if_pos c]
      exact Or.inr ⟨k, Nat.lt_succ_self _, rfl, c⟩
    · rw [if_neg c]
      rcases ih with h | ⟨j, h1, h2, h3⟩
      · exact Or.inl h
      · exact Or.inr ⟨j, Nat.lt_succ_of_lt h1, h2, h3⟩
def nrO (pg yt : Nat) (x : Int32) : Nat := if pg = 0 then 0 else if ((yt - 4096 : Nat) : Int) ≤ x.toInt ∧ x.toInt < (yt : Int) then 2 else if ((yt - 8192 : Nat) : Int) ≤ x.toInt ∧ x.toInt < ((yt - 4096 : Nat) : Int) then 1 else 0
theorem nrO_le (pg yt : Nat) (x : Int32) : nrO pg yt x ≤ 2 := by
  unfold nrO
  repeat' split
  all_goals omega
theorem nrO_2 {pg yt : Nat} {x : Int32} (h : nrO pg yt x = 2) : ((yt - 4096 : Nat) : Int) ≤ x.toInt ∧ x.toInt < (yt : Int) := by
  unfold nrO at h
  by_cases c : pg = 0
  · rw [if_pos c] at h
    omega
  · rw [if_neg c] at h
    by_cases c2 : ((yt - 4096 : Nat) : Int) ≤ x.toInt ∧ x.toInt < (yt : Int)
    · exact c2
    · rw [if_neg c2] at h
      by_cases c3 : ((yt - 8192 : Nat) : Int) ≤ x.toInt ∧ x.toInt < ((yt - 4096 : Nat) : Int)
      · rw [if_pos c3] at h
        cases h
      · rw [if_neg c3] at h
        cases h
theorem p_stk {X yt : Nat} (h1 : yt - 4096 ≤ X) (h2 : 4096 ≤ yt) : nI X - nI yt + 4096 = nI (X - (yt - 4096)) := by
  obtain ⟨d, rfl⟩ : ∃ d, yt = d + 4096 := ⟨yt - 4096, by omega⟩
  obtain ⟨e, rfl⟩ : ∃ e, X = e + d := ⟨X - d, by omega⟩
  rw [show d + 4096 - 4096 = d from by omega, show e + d - d = e from by omega, ← nI_add, ← nI_add]
  apply Int32.toBitVec_inj.mp
  show ((nI e).toBitVec + (nI d).toBitVec) - ((nI d).toBitVec + (nI 4096).toBitVec) + (nI 4096).toBitVec = (nI e).toBitVec
  generalize (nI e).toBitVec = a
  generalize (nI d).toBitVec = b
  generalize (nI 4096).toBitVec = c
  apply BitVec.eq_of_toNat_eq
  have ha := a.isLt
  have hb := b.isLt
  have hc := c.isLt
  simp only [BitVec.toNat_add, BitVec.toNat_sub]
  omega
def mAtO (yp : Nat) (gF gA gB gS : Nat → Nat) (tk : Nat → Int32) (pg yt : Nat) (yk : Nat → Int32) (x : Int32) : Int32 := if psI gA gS x yp < 0 then (if nrO pg yt x = 2 then yk (x.toInt.toNat - (yt - 4096)) &&& 255 else nI (nrO pg yt x) - 1) else if gB (tN (psI gA gS x yp)) ≤ x.toInt.toNat - gA (tN (psI gA gS x yp)) then 0 else tk (gF (tN (psI gA gS x yp)) + (x.toInt.toNat - gA (tN (psI gA gS x yp)))) &&& 255
def mFlO (yp : Nat) (gA gS : Nat → Nat) (gW : Nat → Int32) (pg yt : Nat) (x : Int32) : Int32 := if psI gA gS x yp < 0 then (if nrO pg yt x = 2 then 11 else if nrO pg yt x = 1 then 3 else -1) else gW (tN (psI gA gS x yp))
theorem nrO_pg {pg yt : Nat} {x : Int32} (h : nrO pg yt x = 2) : ¬ pg = 0 := fun c => by
  rw [nrO, if_pos c] at h
  cases h
