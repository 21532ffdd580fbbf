/-! THE PLAN: the numbers of a file as Nats, headers, what a reading of them lays down -/
def b8 (x : Int32) : Nat := x.toBitVec.toNat % 256
def nbN (f : Nat → Int32) (q : Nat) : Nat → Nat
  | 0 => 0
  | i + 1 => b8 (f q) + 256 * nbN f (q + 1) i
theorem b8_lt (x : Int32) : b8 x < 256 := Nat.mod_lt _ (by decide)
theorem nbN_lt1 (f : Nat → Int32) (q : Nat) : nbN f q 1 < 256 := by
  have := b8_lt (f q)
  simp only [nbN]
  omega
theorem nbN_lt2 (f : Nat → Int32) (q : Nat) : nbN f q 2 < 65536 := by
  have := b8_lt (f q)
  have := b8_lt (f (q + 1))
  simp only [nbN]
  omega
theorem nbN_lt4 (f : Nat → Int32) (q : Nat) : nbN f q 4 < 4294967296 := by
  have := b8_lt (f q)
  have := b8_lt (f (q + 1))
  have := b8_lt (f (q + 1 + 1))
  have := b8_lt (f (q + 1 + 1 + 1))
  simp only [nbN]
  omega
theorem num_step (a : Nat) (x : Int32) : (nI a <<< ((8 : Int32) &&& 31)) ||| (x &&& 255) = nI (b8 x + 256 * a) := by
  apply Int32.toBitVec_inj.mp
  apply BitVec.eq_of_toNat_eq
  rw [Int32.toBitVec_or, BitVec.toNat_or, pk_shl (nI a) _ 8 (by decide), pk_and x 8 (by decide)]
  have h1 : (nI (x.toBitVec.toNat % 2 ^ 8)).toBitVec.toNat = b8 x := pk_tn (by have := b8_lt x; unfold b8 at this; omega)
  have h2 : (nI a).toBitVec.toNat = a % 2 ^ 32 := rfl
  have h3 : (nI (b8 x + 256 * a)).toBitVec.toNat = (b8 x + 256 * a) % 2 ^ 32 := rfl
  rw [h1, h2, h3]
  have h4 : a % 2 ^ 32 * 2 ^ 8 % 2 ^ 32 = 2 ^ 8 * (a % 2 ^ 24) := by omega
  have hb := b8_lt x
  rw [h4, ← Nat.two_pow_add_eq_or_of_lt (i := 8) (by omega)]
  omega
theorem numI_nb (f : Nat → Int32) (i : Nat) : ∀ q, numI f q i = nI (nbN f q i) := by
  induction i with
  | zero => intro q; rfl
  | succ i ih =>
    intro q
    rw [numI, nbN, ih (q + 1), num_step]
theorem p_num {fr : Nat → Int32} {M n q : Nat} (hq : q + M ≤ n) (hn : n ≤ 65536) : fbNum M n fr (nI q) = nI (nbN fr q M) := by
  rw [fbNum, if_pos (p_in rfl hq hn), nI_toInt (by omega)]
  exact numI_nb fr M q
theorem p_mask {x : Nat} (h : x < 4294967296) : (nI x).toInt64 &&& 4294967295 = lN x := by
  apply Int64.toBitVec_inj.mp
  apply BitVec.eq_of_getLsbD_eq
  intro i hi
  have e1 : ((nI x).toInt64 &&& 4294967295).toBitVec = (BitVec.ofNat 32 x).signExtend 64 &&& BitVec.ofNat 64 (2 ^ 32 - 1) := rfl
  have e2 : (lN x).toBitVec = BitVec.ofNat 64 x := rfl
  rw [e1, e2]
  simp only [BitVec.getLsbD_and, BitVec.getLsbD_signExtend, BitVec.getLsbD_ofNat, Nat.testBit_two_pow_sub_one]
  by_cases h32 : i < 32
  · simp [hi, h32]
  · have hz : x.testBit i = false := Nat.testBit_lt_two_pow (Nat.lt_of_lt_of_le h (by
      have : (2 : Nat) ^ 32 ≤ 2 ^ i := Nat.pow_le_pow_right (by decide) (by omega)
      exact this))
    simp [hi, h32, hz]
theorem p_uns {fr : Nat → Int32} {n q : Nat} (hq : q + 4 ≤ n) (hn : n ≤ 65536) : fbUns n fr (nI q) = lN (nbN fr q 4) := by
  rw [fbUns, p_num hq hn]
  exact p_mask (nbN_lt4 fr q)
theorem nI_inj32 {a b : Nat} (ha : a < 4294967296) (hb : b < 4294967296) (h : nI a = nI b) : a = b := by
  have := congrArg (fun x : Int32 => x.toBitVec.toNat) h
  simp only [pk_tn ha, pk_tn hb] at this
  exact this
theorem p_hl {a b n : Nat} (ha : a < 4294967296) (hb : b < 4294967296) : (0 ≤ (lN a).toInt ∧ 0 ≤ (lN b).toInt ∧ (lN a).toInt + (lN b).toInt ≤ (n : Int)) ↔ a + b ≤ n := by
  rw [pk_lT (by omega), pk_lT (by omega)]
  omega
def rgO (w : Int32) : Int32 := ((8 ||| (if w &&& 4 = 0 then 0 else 1)) ||| (if w &&& 2 = 0 then 0 else 2)) ||| (if w &&& 1 = 0 then 0 else 4)
abbrev hdK (f : Nat → Int32) (q : Nat) : Nat := nbN f q 4
abbrev hdF (f : Nat → Int32) (q : Nat) : Nat := nbN f (q + 4) 4
abbrev hdA (f : Nat → Int32) (q : Nat) : Nat := nbN f (q + 8) 4
abbrev hdB (f : Nat → Int32) (q : Nat) : Nat := nbN f (q + 16) 4
abbrev hdS (f : Nat → Int32) (q : Nat) : Nat := nbN f (q + 20) 4
abbrev hdW (f : Nat → Int32) (q : Nat) : Nat := nbN f (q + 24) 4
abbrev hdP (f : Nat → Int32) (q : Nat) : Nat := (hdS f q + 4096 - 1) / 4096
abbrev hdSkip (f : Nat → Int32) (q : Nat) : Prop := ¬ hdK f q = 1 ∨ hdS f q = 0
abbrev hdGood (f : Nat → Int32) (n t q : Nat) : Prop := hdA f q % 4096 = 0 ∧ t ≤ hdA f q ∧ hdA f q + hdS f q ≤ 1073733632 ∧ hdB f q ≤ hdS f q ∧ hdF f q + hdB f q ≤ n
abbrev PS : Type := Nat × Nat × Nat × (Nat → Nat → Int32)
def pfSet (pf : Nat → Nat → Int32) (i : Nat) (a0 a1 a2 a3 a4 : Int32) : Nat → Nat → Int32 := upp (upp (upp (upp (upp pf i 0 a0) i 1 a1) i 2 a2) i 3 a3) i 4 a4
def psPush (f : Nat → Int32) (q : Nat) (s : PS) : PS := (s.1 + 1, hdA f q + hdP f q * 4096, s.2.2.1 + hdP f q, pfSet s.2.2.2 s.1 (nI (hdF f q)) (nI (hdB f q)) (nI (hdA f q)) (nI (hdP f q)) (rgO (nI (hdW f q))))
def psStep (f : Nat → Int32) (n q : Nat) (s : PS) : PS := if hdSkip f q then s else if hdGood f n s.2.1 q then psPush f q s else s
theorem psStep_skip {f : Nat → Int32} {n q : Nat} {s : PS} (h : hdSkip f q) : psStep f n q s = s := by rw [psStep, if_pos h]
theorem psStep_good {f : Nat → Int32} {n q : Nat} {s : PS} (h : ¬ hdSkip f q) (h2 : hdGood f n s.2.1 q) : psStep f n q s = psPush f q s := by rw [psStep, if_neg h, if_pos h2]
theorem psStep_bad {f : Nat → Int32} {n q : Nat} {s : PS} (h2 : ¬ hdGood f n s.2.1 q) : psStep f n q s = s := by
  unfold psStep
  by_cases h1 : hdSkip f q
  · rw [if_pos h1]
  · rw [if_neg h1, if_neg h2]
/-- all headers, one after the other, from the j-th on: is each as it must be, and what stands in the plan at the end or at the first that isn't -/
def plRun (f : Nat → Int32) (n b : Nat) : Nat → Nat → PS → Bool × PS
  | 0, _, s => (true, s)
  | k + 1, j, s => if hdSkip f (b + j * 32) ∨ hdGood f n s.2.1 (b + j * 32) then plRun f n b k (j + 1) (psStep f n (b + j * 32) s) else (false, s)
abbrev nHd (f : Nat → Int32) : Nat := nbN f 44 2
abbrev kindOK (f : Nat → Int32) : Prop := nbN f 16 2 = 2 ∧ nbN f 18 2 = 243 ∧ nbN f 20 4 = 1 ∧ nbN f 42 2 = 32 ∧ nbN f 44 2 ≤ 8
abbrev hdsIn (f : Nat → Int32) (n : Nat) : Prop := nHd f = 0 ∨ nbN f 28 4 + nHd f * 32 ≤ n
abbrev plAll (f : Nat → Int32) (n : Nat) (pf : Nat → Nat → Int32) : Bool × PS := plRun f n (nbN f 28 4) (nHd f) 0 (0, 0, 2, pf)
theorem psStep_top {f : Nat → Int32} {n q : Nat} {s : PS} (h : s.2.1 ≤ 1073733632) : (psStep f n q s).2.1 ≤ 1073733632 := by
  rw [psStep]
  split
  · exact h
  · split
    · rename_i h1 h2
      have a1 : nbN f (q + 8) 4 % 4096 = 0 := h2.1
      have a3 : nbN f (q + 8) 4 + nbN f (q + 20) 4 ≤ 1073733632 := h2.2.2.1
      show nbN f (q + 8) 4 + (nbN f (q + 20) 4 + 4096 - 1) / 4096 * 4096 ≤ 1073733632
      omega
    · exact h
theorem psStep_cnt {f : Nat → Int32} {n q : Nat} {s : PS} : (psStep f n q s).1 ≤ s.1 + 1 := by
  rw [psStep]
  split
  · omega
  · split
    · exact Nat.le_refl _
    · omega
