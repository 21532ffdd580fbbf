def mdRun (f : Nat → Int32) (n b : Nat) : Nat → Nat → MS → Bool × MS
  | 0, _, s => (true, s)
  | k + 1, j, s => if hdSkip f (b + 32 * j) ∨ hdGood f n s.2.1 (b + 32 * j) then mdRun f n b k (j + 1) (msStep f n (b + 32 * j) s) else (false, s)
abbrev M5 : Type := (Nat → Nat) × (Nat → Nat) × (Nat → Nat) × (Nat → Nat) × (Nat → Int32)
abbrev mdAll (f : Nat → Int32) (n : Nat) (s : M5) : Bool × MS := mdRun f n (nbN f 28 4) (nHd f) 0 (0, 0, s)
abbrev mk2 (n : Nat) (fr : Nat → Int32) : Prop := 52 ≤ n ∧ nbN fr 0 4 = 1179403647 ∧ nbN fr 4 2 = 257 ∧ nbN fr 6 1 = 1
abbrev kd2 (fr : Nat → Int32) : Prop := nbN fr 16 2 = 2 ∧ nbN fr 18 2 = 243 ∧ nbN fr 20 4 = 1 ∧ nbN fr 42 2 = 32 ∧ nbN fr 44 2 < 9
abbrev hin2 (n : Nat) (fr : Nat → Int32) : Prop := nbN fr 44 2 ≤ 0 ∨ nbN fr 28 4 + 32 * nbN fr 44 2 ≤ n
abbrev mwR (n : Nat) (fr : Nat → Int32) : Prop := mk2 n fr ∧ kd2 fr ∧ hin2 n fr
def mwP (n : Nat) (fr : Nat → Int32) (s : M5) : MS := if mwR n fr then (mdAll fr n s).2 else (0, 0, s)
def mwC (n : Nat) (fr : Nat → Int32) (s : M5) (room : Int32) : Nat :=
  if ¬ mk2 n fr then 1 else if ¬ kd2 fr then 2 else if ¬ hin2 n fr then 3 else if ¬ (mdAll fr n s).1 = true then 4 else if ¬ nI (2 + wsum (mdAll fr n s).2.2.2.2.2.2.1 (mdAll fr n s).2.1) ≤ room then 5 else 0
theorem msStep_cnt {f : Nat → Int32} {n q : Nat} {s : MS} : (msStep f n q s).1 ≤ s.1 + 1 := by
  unfold msStep
  by_cases h1 : hdSkip f q
  · rw [if_pos h1]; omega
  · rw [if_neg h1]
    by_cases h2 : hdGood f n s.2.1 q
    · rw [if_pos h2]; exact Nat.le_refl _
    · rw [if_neg h2]; omega
set_option maxRecDepth 100000 in
theorem p_up {A S : Nat} (h : A + S ≤ 1073733632) : (A + S + 4095) / 4096 * 4096 ≤ 1073733632 := by omega
theorem msStep_end {f : Nat → Int32} {n q : Nat} {s : MS} (h : s.2.1 ≤ 1073733632) : (msStep f n q s).2.1 ≤ 1073733632 := by
  unfold msStep
  by_cases h1 : hdSkip f q
  · rw [if_pos h1]; exact h
  · rw [if_neg h1]
    by_cases h2 : hdGood f n s.2.1 q
    · rw [if_pos h2]; exact p_up h2.2.2.1
    · rw [if_neg h2]; exact h
theorem msStep_S {f : Nat → Int32} {n q : Nat} {s : MS} (h : ∀ i, i < s.1 → s.2.2.2.2.2.1 i ≤ 1073733632) : ∀ i, i < (msStep f n q s).1 → (msStep f n q s).2.2.2.2.2.1 i ≤ 1073733632 := by
  unfold msStep
  by_cases h1 : hdSkip f q
  · rw [if_pos h1]; exact h
  · rw [if_neg h1]
    by_cases h2 : hdGood f n s.2.1 q
    · rw [if_pos h2]
      intro i hi
      show upn s.2.2.2.2.2.1 s.1 (hdS f q) i ≤ 1073733632
      by_cases c : i = s.1
      · rw [c, upn_eq]
        exact Nat.le_trans (Nat.le_add_left _ _) h2.2.2.1
      · rw [upn_ne _ _ c]
        exact h i (Nat.lt_of_le_of_ne (Nat.le_of_lt_succ hi) c)
    · rw [if_neg h2]; exact h
