/-! THE TWO SIDES COMPUTE THE SAME: the plan -/
/-- the class's plan and the reference's tell the same parts -/
def PM (s : PS) (t : MS) : Prop := s.1 = t.1 ∧ s.2.1 = t.2.1 ∧ s.2.2.1 = 2 + wsum t.2.2.2.2.2.1 t.1 ∧ ∀ p, p < t.1 → s.2.2.2 p 0 = nI (t.2.2.1 p) ∧ s.2.2.2 p 1 = nI (t.2.2.2.2.1 p) ∧ s.2.2.2 p 2 = nI (t.2.2.2.1 p) ∧ s.2.2.2 p 3 = nI ((t.2.2.2.2.2.1 p + 4096 - 1) / 4096) ∧ s.2.2.2 p 4 = t.2.2.2.2.2.2 p
theorem wsum_upn (g : Nat → Nat) (k x : Nat) : ∀ p, p ≤ k → wsum (upn g k x) p = wsum g p := by
  intro p
  induction p with
  | zero => intro _; rfl
  | succ p ih =>
    intro h
    rw [wsum, wsum, ih (by omega), upn_ne g x (show p ≠ k from by omega)]
theorem pfSet_ne {pf : Nat → Nat → Int32} {i p : Nat} {a0 a1 a2 a3 a4 : Int32} (h : p ≠ i) : pfSet pf i a0 a1 a2 a3 a4 p = pf p := by
  unfold pfSet
  rw [upp_ne h, upp_ne h, upp_ne h, upp_ne h, upp_ne h]
theorem pfSet_eq {pf : Nat → Nat → Int32} {i : Nat} {a0 a1 a2 a3 a4 : Int32} : pfSet pf i a0 a1 a2 a3 a4 i 0 = a0 ∧ pfSet pf i a0 a1 a2 a3 a4 i 1 = a1 ∧ pfSet pf i a0 a1 a2 a3 a4 i 2 = a2 ∧ pfSet pf i a0 a1 a2 a3 a4 i 3 = a3 ∧ pfSet pf i a0 a1 a2 a3 a4 i 4 = a4 := by
  simp [pfSet, upp, upd]
set_option maxRecDepth 100000 in
theorem p_ends {A S : Nat} (h : A % 4096 = 0) : A + (S + 4096 - 1) / 4096 * 4096 = (A + S + 4095) / 4096 * 4096 := by omega
set_option maxRecDepth 100000 in
theorem p_pgs (S : Nat) : (S + 4096 - 1) / 4096 = (S + 4095) / 4096 * 4096 / 4096 := by omega
theorem PM_push {f : Nat → Int32} {q : Nat} {s : PS} {t : MS} (h : PM s t) (hA : hdA f q % 4096 = 0) : PM (psPush f q s) (msPush f q t) := by
  obtain ⟨h1, h2, h3, h4⟩ := h
  refine ⟨?_, ?_, ?_, ?_⟩
  · show s.1 + 1 = t.1 + 1
    rw [h1]
  · exact p_ends hA
  · show s.2.2.1 + (hdS f q + 4096 - 1) / 4096 = 2 + wsum (upn t.2.2.2.2.2.1 t.1 (hdS f q)) (t.1 + 1)
    rw [wsum, wsum_upn _ _ _ _ (Nat.le_refl _), upn_eq, h3, p_pgs, Nat.add_assoc]
  · intro p hp
    show pfSet s.2.2.2 s.1 _ _ _ _ _ p 0 = nI (upn t.2.2.1 t.1 (hdF f q) p) ∧ pfSet s.2.2.2 s.1 _ _ _ _ _ p 1 = nI (upn t.2.2.2.2.1 t.1 (hdB f q) p) ∧ pfSet s.2.2.2 s.1 _ _ _ _ _ p 2 = nI (upn t.2.2.2.1 t.1 (hdA f q) p) ∧ pfSet s.2.2.2 s.1 _ _ _ _ _ p 3 = nI ((upn t.2.2.2.2.2.1 t.1 (hdS f q) p + 4096 - 1) / 4096) ∧ pfSet s.2.2.2 s.1 _ _ _ _ _ p 4 = upd t.2.2.2.2.2.2 t.1 (mgO (nI (hdW f q))) p
    by_cases c : p = t.1
    · subst c
      rw [h1]
      obtain ⟨e0, e1, e2, e3, e4⟩ := pfSet_eq (pf := s.2.2.2) (i := t.1) (a0 := nI (hdF f q)) (a1 := nI (hdB f q)) (a2 := nI (hdA f q)) (a3 := nI (hdP f q)) (a4 := rgO (nI (hdW f q)))
      refine ⟨?_, ?_, ?_, ?_, ?_⟩
      · rw [e0, upn_eq]
      · rw [e1, upn_eq]
      · rw [e2, upn_eq]
      · rw [e3, upn_eq]
      · rw [e4, pk_us, rg_mg]
    · have hp' : p < t.1 := Nat.lt_of_le_of_ne (Nat.le_of_lt_succ hp) c
      have := h4 p hp'
      rw [pfSet_ne (show p ≠ s.1 from by rw [h1]; exact c), upn_ne _ _ c, upn_ne _ _ c, upn_ne _ _ c, upn_ne _ _ c, pk_un c]
      exact this
theorem PM_step {f : Nat → Int32} {n q : Nat} {s : PS} {t : MS} (h : PM s t) : PM (psStep f n q s) (msStep f n q t) := by
  have h2 := h.2.1
  unfold psStep msStep
  by_cases c : hdSkip f q
  · rw [if_pos c, if_pos c]; exact h
  · rw [if_neg c, if_neg c, h2]
    by_cases c2 : hdGood f n t.2.1 q
    · rw [if_pos c2, if_pos c2]; exact PM_push h c2.1
    · rw [if_neg c2, if_neg c2]; exact h
theorem PM_run (f : Nat → Int32) (n b : Nat) (k : Nat) : ∀ (j : Nat) (s : PS) (t : MS), PM s t → (plRun f n b k j s).1 = (mdRun f n b k j t).1 ∧ PM (plRun f n b k j s).2 (mdRun f n b k j t).2 := by
  induction k with
  | zero => intro j s t h; exact ⟨rfl, h⟩
  | succ k ih =>
    intro j s t h
    have h2 := h.2.1
    unfold plRun mdRun
    rw [Nat.mul_comm 32 j, h2]
    by_cases c : hdSkip f (b + j * 32) ∨ hdGood f n t.2.1 (b + j * 32)
    · rw [if_pos c, if_pos c]
      exact ih (j + 1) _ _ (PM_step h)
    · rw [if_neg c, if_neg c]
      exact ⟨rfl, h⟩
theorem PM_all (f : Nat → Int32) (n : Nat) (pf : Nat → Nat → Int32) (m5 : M5) : (plAll f n pf).1 = (mdAll f n m5).1 ∧ PM (plAll f n pf).2 (mdAll f n m5).2 :=
  PM_run f n _ _ 0 _ _ ⟨rfl, rfl, rfl, fun p hp => absurd hp (Nat.not_lt_zero _)⟩
/-- what the parts that were found are: in the file, one behind the other, below the end -/
def MI (n : Nat) (t : MS) : Prop := t.2.1 ≤ 1073733632 ∧ (∀ p, p < t.1 → t.2.2.2.1 p % 4096 = 0 ∧ t.2.2.2.1 p + t.2.2.2.2.2.1 p ≤ 1073733632 ∧ t.2.2.2.2.1 p ≤ t.2.2.2.2.2.1 p ∧ t.2.2.1 p + t.2.2.2.2.1 p ≤ n ∧ 0 < t.2.2.2.2.2.1 p ∧ (t.2.2.2.1 p + t.2.2.2.2.2.1 p + 4095) / 4096 * 4096 ≤ t.2.1) ∧ ∀ p q, p < q → q < t.1 → (t.2.2.2.1 p + t.2.2.2.2.2.1 p + 4095) / 4096 * 4096 ≤ t.2.2.2.1 q
set_option maxRecDepth 100000 in
theorem p_upge (A S : Nat) : A ≤ (A + S + 4095) / 4096 * 4096 := by omega
theorem MI_push {f : Nat → Int32} {n q : Nat} {t : MS} (h : MI n t) (hs : ¬ hdSkip f q) (hg : hdGood f n t.2.1 q) : MI n (msPush f q t) := by
  obtain ⟨h1, h2, h3⟩ := h
  obtain ⟨g1, g2, g3, g4, g5⟩ := hg
  have hS : 0 < hdS f q := Nat.pos_of_ne_zero (fun e => hs (Or.inr e))
  have hmono : t.2.1 ≤ (hdA f q + hdS f q + 4095) / 4096 * 4096 := Nat.le_trans g2 (p_upge _ _)
  refine ⟨p_up g3, ?_, ?_⟩
  · intro p hp
    show upn t.2.2.2.1 t.1 (hdA f q) p % 4096 = 0 ∧ upn t.2.2.2.1 t.1 (hdA f q) p + upn t.2.2.2.2.2.1 t.1 (hdS f q) p ≤ 1073733632 ∧ upn t.2.2.2.2.1 t.1 (hdB f q) p ≤ upn t.2.2.2.2.2.1 t.1 (hdS f q) p ∧ upn t.2.2.1 t.1 (hdF f q) p + upn t.2.2.2.2.1 t.1 (hdB f q) p ≤ n ∧ 0 < upn t.2.2.2.2.2.1 t.1 (hdS f q) p ∧ (upn t.2.2.2.1 t.1 (hdA f q) p + upn t.2.2.2.2.2.1 t.1 (hdS f q) p + 4095) / 4096 * 4096 ≤ (hdA f q + hdS f q + 4095) / 4096 * 4096
    by_cases c : p = t.1
    · subst c
      rw [upn_eq, upn_eq, upn_eq, upn_eq]
      exact ⟨g1, g3, g4, g5, hS, Nat.le_refl _⟩
    · have hp' : p < t.1 := Nat.lt_of_le_of_ne (Nat.le_of_lt_succ hp) c
      obtain ⟨a1, a2, a3, a4, a5, a6⟩ := h2 p hp'
      rw [upn_ne _ _ c, upn_ne _ _ c, upn_ne _ _ c, upn_ne _ _ c]
      exact ⟨a1, a2, a3, a4, a5, Nat.le_trans a6 hmono⟩
  · intro p r hpr hr
    show (upn t.2.2.2.1 t.1 (hdA f q) p + upn t.2.2.2.2.2.1 t.1 (hdS f q) p + 4095) / 4096 * 4096 ≤ upn t.2.2.2.1 t.1 (hdA f q) r
    have hr' : r < t.1 + 1 := hr
    have cp : p ≠ t.1 := by omega
    have hp' : p < t.1 := by omega
    rw [upn_ne _ _ cp, upn_ne _ _ cp]
    by_cases c : r = t.1
    · subst c
      rw [upn_eq]
      exact Nat.le_trans (h2 p hp').2.2.2.2.2 g2
    · rw [upn_ne _ _ c]
      exact h3 p r hpr (by omega)
theorem MI_run (f : Nat → Int32) (n b : Nat) (k : Nat) : ∀ (j : Nat) (t : MS), MI n t → MI n (mdRun f n b k j t).2 ∧ (mdRun f n b k j t).2.1 ≤ t.1 + k := by
  induction k with
  | zero => intro j t h; exact ⟨h, Nat.le_refl _⟩
  | succ k ih =>
    intro j t h
    unfold mdRun
    by_cases c : hdSkip f (b + 32 * j) ∨ hdGood f n t.2.1 (b + 32 * j)
    · rw [if_pos c]
      have hst : MI n (msStep f n (b + 32 * j) t) := by
        unfold msStep
        by_cases c1 : hdSkip f (b + 32 * j)
        · rw [if_pos c1]; exact h
        · rw [if_neg c1]
          by_cases c2 : hdGood f n t.2.1 (b + 32 * j)
          · rw [if_pos c2]; exact MI_push h c1 c2
          · rw [if_neg c2]; exact h
      have hc := msStep_cnt (f := f) (n := n) (q := b + 32 * j) (s := t)
      have := ih (j + 1) _ hst
      exact ⟨this.1, by omega⟩
    · rw [if_neg c]
      exact ⟨h, Nat.le_add_right _ _⟩
theorem MI_all (f : Nat → Int32) (n : Nat) (m5 : M5) : MI n (mdAll f n m5).2 ∧ (mdAll f n m5).2.1 ≤ nHd f := by
  have := MI_run f n (nbN f 28 4) (nHd f) 0 (0, 0, m5) ⟨Nat.zero_le _, fun p hp => absurd hp (Nat.not_lt_zero _), fun p q _ hq => absurd hq (Nat.not_lt_zero _)⟩
  exact ⟨this.1, by have h2 := this.2; simp only [Nat.zero_add] at h2; exact h2⟩
