/-! THE GATE: what its methods compute -/
def tN (x : Int32) : Nat := x.toBitVec.toNat
theorem nI_tN (x : Int32) : nI (tN x) = x := by
  apply Int32.toBitVec_inj.mp
  apply BitVec.eq_of_toNat_eq
  show (BitVec.ofNat 32 x.toBitVec.toNat).toNat = x.toBitVec.toNat
  rw [BitVec.toNat_ofNat]
  exact Nat.mod_eq_of_lt x.toBitVec.isLt
theorem tN_nI {x : Nat} (h : x < 4294967296) : tN (nI x) = x := pk_tn h
def gsum (g : Nat → Nat) : Nat → Nat
  | 0 => 0
  | p + 1 => gsum g p + g p
theorem gsum_mono (g : Nat → Nat) (p d : Nat) : gsum g p ≤ gsum g (p + d) := by
  induction d with
  | zero => exact Nat.le_refl _
  | succ d ih =>
    show gsum g p ≤ gsum g (p + d) + g (p + d)
    omega
theorem gsum_le {g : Nat → Nat} {p q : Nat} (h : p < q) : gsum g p + g p ≤ gsum g q := by
  have := gsum_mono g (p + 1) (q - (p + 1))
  rw [show p + 1 + (q - (p + 1)) = q from by omega] at this
  exact this
abbrev ptG (pf : Nat → Nat → Int32) : Nat → Nat := fun p => tN (pf p 3)
def lyS (st : Nat → Int32) (pf : Nat → Nat → Int32) : Nat → Nat → Int32
  | 0 => st
  | p + 1 => lpS (lyS st pf p) (gsum (ptG pf) p) (tN (pf p 2)) (tN (pf p 3))
def lyR (rt : Nat → Int32) (pf : Nat → Nat → Int32) : Nat → Nat → Int32
  | 0 => rt
  | p + 1 => lpR (lyR rt pf p) (gsum (ptG pf) p) (pf p 4) (tN (pf p 3))
def lyB (pb : Nat → Nat → Int32) (fr : Nat → Int32) (pf : Nat → Nat → Int32) : Nat → Nat → Nat → Int32
  | 0 => pb
  | p + 1 => lpB (lyB pb fr pf p) (gsum (ptG pf) p) fr (tN (pf p 0)) (tN (pf p 1)) (tN (pf p 3))
def fdN (n : Nat) : Nat := if n + 20 ≤ 65536 then n + 20 else n
def fdF (n : Nat) (fr : Nat → Int32) (w1 w2 w3 w4 w5 : Int32) : Nat → Int32 := if n + 20 ≤ 65536 then apW (apW (apW (apW (apW fr n w1) (n + 4) w2) (n + 4 + 4) w3) (n + 4 + 4 + 4) w4) (n + 4 + 4 + 4 + 4) w5 else fr
abbrev isB (b : Int32) : Prop := 0 ≤ b.toInt ∧ b.toInt ≤ 255
def stF (n : Nat) (fr : Nat → Int32) (k b : Int32) : Nat → Int32 := if isB b then fbWr 1 n fr k b else fr
theorem p_b0 {b : Int32} (h : b < 0) : ¬ isB b := fun h9 => p_nneg h9.1 h
theorem p_255 {b : Int32} (h0 : ¬ b < 0) : b ≤ 255 ↔ isB b := by
  rw [Int32.lt_iff_toInt_lt] at h0
  rw [Int32.le_iff_toInt_le]
  have h1 : (0 : Int32).toInt = 0 := rfl
  have h2 : (255 : Int32).toInt = 255 := rfl
  unfold isB
  omega
abbrev mOK (kn : Int32) : Prop := kn = 1 ∨ kn = 2 ∨ kn = 4
def ptF (n : Nat) (fr : Nat → Int32) (k kn w : Int32) : Nat → Int32 := if mOK kn then fbWr (tN kn) n fr k w else fr
def rmN (k : Int32) : Nat := if k.toInt < 0 then 0 else if 32 < k.toInt then 32 else k.toInt.toNat
theorem rmN_le (k : Int32) : rmN k ≤ 32 := by
  unfold rmN
  split
  · omega
  · split <;> omega
theorem p_room (k : Int32) : (if (0 : Int32) < (if (32 : Int32) < k then 32 else k) then (if (32 : Int32) < k then 32 else k) else 0) = nI (rmN k) := by
  have h0 : (0 : Int32).toInt = 0 := rfl
  have h32 : (32 : Int32).toInt = 32 := rfl
  unfold rmN
  by_cases c1 : (32 : Int32) < k
  · have c2 := c1
    rw [Int32.lt_iff_toInt_lt, h32] at c2
    rw [if_pos c1, if_pos (by decide), if_neg (by omega), if_pos c2]
    rfl
  · have c2 := c1
    rw [Int32.lt_iff_toInt_lt, h32] at c2
    rw [if_neg c1]
    by_cases c3 : (0 : Int32) < k
    · have c4 := c3
      rw [Int32.lt_iff_toInt_lt, h0] at c4
      obtain ⟨j, hj, e⟩ := nI_of (p_nneg (k := k) (by omega))
      rw [if_pos c3, if_neg (by omega), if_neg c2, e, nI_toInt hj]
      rfl
    · have c4 := c3
      rw [Int32.lt_iff_toInt_lt, h0] at c4
      rw [if_neg c3]
      by_cases c5 : k.toInt < 0
      · rw [if_pos c5]; rfl
      · rw [if_neg c5, if_neg c2, show k.toInt = 0 from by omega]; rfl
/-- why: the first that holds -/
abbrev rch (n : Nat) (fr : Nat → Int32) : Prop := (52 ≤ n ∧ marked fr) ∧ kindOK fr ∧ hdsIn fr n
def jdC (n : Nat) (fr : Nat → Int32) (a : Nat) (z : Nat → Nat) (pf : Nat → Nat → Int32) (room : Nat) : Nat :=
  if ¬ (52 ≤ n ∧ marked fr) then 1 else if ¬ kindOK fr then 2 else if ¬ hdsIn fr n then 3 else if ¬ (plAll fr n pf).1 = true then 4 else if ¬ (plAll fr n pf).2.2.2.1 ≤ room then 5 else if ¬ 0 ≤ spOf z a then 6 else 0
def jdP (n : Nat) (fr : Nat → Int32) (pe : Int32) (s : PS) : Int32 × PS := if rch n fr then (nI (nbN fr 24 4), (plAll fr n s.2.2.2).2) else (pe, s)
set_option maxRecDepth 100000 in
theorem p_lin {x P A t : Nat} (h : x * 4096 ≤ t + 8192) (a2 : t ≤ A) : (x + P) * 4096 ≤ A + P * 4096 + 8192 := by omega
theorem psStep_inv {f : Nat → Int32} {n q : Nat} {s : PS} (h : s.2.2.1 * 4096 ≤ s.2.1 + 8192) : (psStep f n q s).2.2.1 * 4096 ≤ (psStep f n q s).2.1 + 8192 := by
  unfold psStep
  by_cases h1 : hdSkip f q
  · rw [if_pos h1]; exact h
  · rw [if_neg h1]
    by_cases h2 : hdGood f n s.2.1 q
    · rw [if_pos h2]
      have a2 : s.2.1 ≤ nbN f (q + 8) 4 := h2.2.1
      exact p_lin h a2
    · rw [if_neg h2]; exact h
theorem plRun_inv (f : Nat → Int32) (n b : Nat) (k : Nat) : ∀ (j : Nat) (s : PS), s.2.2.1 * 4096 ≤ s.2.1 + 8192 → s.2.1 ≤ 1073733632 → (plRun f n b k j s).2.2.2.1 * 4096 ≤ (plRun f n b k j s).2.2.1 + 8192 ∧ (plRun f n b k j s).2.2.1 ≤ 1073733632 := by
  induction k with
  | zero => intro j s h1 h2; exact ⟨h1, h2⟩
  | succ k ih =>
    intro j s h1 h2
    unfold plRun
    by_cases c : hdSkip f (b + j * 32) ∨ hdGood f n s.2.1 (b + j * 32)
    · rw [if_pos c]
      exact ih (j + 1) _ (psStep_inv h1) (psStep_top h2)
    · rw [if_neg c]
      exact ⟨h1, h2⟩
theorem plAll_inv (f : Nat → Int32) (n : Nat) (pf : Nat → Nat → Int32) : (plAll f n pf).2.2.2.1 * 4096 ≤ (plAll f n pf).2.2.1 + 8192 ∧ (plAll f n pf).2.2.1 ≤ 1073733632 := plRun_inv f n _ _ 0 _ (by show 2 * 4096 ≤ 0 + 8192; decide) (Nat.zero_le _)
def abO (ie ip iz ia : Int32) (ic : Nat) (x : Int32) : Int32 := if x = 0 then ie else if x = 1 then ip else if x = 2 then iz else if x = 3 then ia else if x = 4 then nI ic else -1
theorem sw5 (x : Int32) : x = 0 ∨ x = 1 ∨ x = 2 ∨ x = 3 ∨ x = 4 ∨ (x.toInt < 0 ∨ 4 < x.toInt) := by
  have e : ∀ k : Int32, x.toInt = k.toInt → x = k := fun k h => Int32.toInt_inj.mp h
  have h0 : (0 : Int32).toInt = 0 := rfl
  have h1 : (1 : Int32).toInt = 1 := rfl
  have h2 : (2 : Int32).toInt = 2 := rfl
  have h3 : (3 : Int32).toInt = 3 := rfl
  have h4 : (4 : Int32).toInt = 4 := rfl
  by_cases c : x.toInt < 0 ∨ 4 < x.toInt
  · exact Or.inr (Or.inr (Or.inr (Or.inr (Or.inr c))))
  · have : x.toInt = 0 ∨ x.toInt = 1 ∨ x.toInt = 2 ∨ x.toInt = 3 ∨ x.toInt = 4 := by omega
    rcases this with h | h | h | h | h
    · exact Or.inl (e 0 (by rw [h, h0]))
    · exact Or.inr (Or.inl (e 1 (by rw [h, h1])))
    · exact Or.inr (Or.inr (Or.inl (e 2 (by rw [h, h2]))))
    · exact Or.inr (Or.inr (Or.inr (Or.inl (e 3 (by rw [h, h3])))))
    · exact Or.inr (Or.inr (Or.inr (Or.inr (Or.inl (e 4 (by rw [h, h4]))))))
theorem sw5d {x k : Int32} (h : x.toInt < 0 ∨ 4 < x.toInt) (hk : 0 ≤ k.toInt ∧ k.toInt ≤ 4) : ¬ x = k := fun e => by
  rw [e] at h
  omega
def atO (st : Nat → Int32) (pb : Nat → Nat → Int32) (ic : Nat) (x : Int32) : Int32 := match fdI st (x &&& (-4096)) ic 0 with
  | none => -1
  | some j => rdB (pb j) (x - st j)
def flO (st rt : Nat → Int32) (ic : Nat) (x : Int32) : Int32 := match fdI st (x &&& (-4096)) ic 0 with
  | none => -1
  | some j => rt j
theorem fdI_lt {st : Nat → Int32} {b : Int32} (k : Nat) : ∀ (i j : Nat), fdI st b k i = some j → j < i + k := by
  induction k with
  | zero => intro i j h; simp [fdI] at h
  | succ k ih =>
    intro i j h
    rw [fdI] at h
    by_cases c : st i = b
    · rw [if_pos c] at h
      cases h
      omega
    · rw [if_neg c] at h
      have := ih (i + 1) j h
      omega
