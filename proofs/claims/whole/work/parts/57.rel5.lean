/-! THE TWO SIDES COMPUTE THE SAME: the pages' bytes -/
theorem zf_lt {j x : Nat} (f : Nat → Int32) (h : x < j) : zf j f x = 0 := by
  unfold zf
  rw [if_pos h]
set_option maxRecDepth 100000 in
theorem lpB_eq (pb : Nat → Nat → Int32) (ic : Nat) (fr : Nat → Int32) (fx bx : Nat) : ∀ t j x, x < 4096 → lpB pb ic fr fx bx t j x = if ic ≤ j ∧ j < ic + t then (if (j - ic) * 4096 + x < bx then fr (fx + (j - ic) * 4096 + x) else 0) else pb j x := by
  intro t
  induction t with
  | zero => intro j x _; rw [lpB, if_neg (by omega)]
  | succ t ih =>
    intro j x hx
    rw [lpB]
    by_cases c : j = ic + t
    · rw [if_pos (show ic ≤ j ∧ j < ic + (t + 1) from by omega), show j - ic = t from by omega]
      subst c
      by_cases c1 : t * 4096 < bx
      · rw [if_pos c1, upr_eq]
        unfold lpZ
        rw [upr_eq]
        by_cases c2 : x < min (bx - t * 4096) 4096
        · have hm : min (bx - t * 4096) 4096 ≤ bx - t * 4096 := Nat.min_le_left _ _
          rw [pk_cpy_in (Nat.zero_le _) (by rw [Nat.zero_add]; exact c2), if_pos (show t * 4096 + x < bx from by omega), Nat.sub_zero]
        · rw [pk_cpy_out (Or.inr (by rw [Nat.zero_add]; exact Nat.le_of_not_lt c2)), zf_lt _ hx, if_neg (show ¬ t * 4096 + x < bx from by
            intro h9
            exact c2 (Nat.lt_min.mpr ⟨by omega, hx⟩))]
      · rw [if_neg c1]
        unfold lpZ
        rw [upr_eq, zf_lt _ hx, if_neg (show ¬ t * 4096 + x < bx from by omega)]
    · have e : (if t * 4096 < bx then upr (lpZ (lpB pb ic fr fx bx t) (ic + t)) (ic + t) (va_cpy fr (lpZ (lpB pb ic fr fx bx t) (ic + t) (ic + t)) (fx + t * 4096) 0 (min (bx - t * 4096) 4096)) else lpZ (lpB pb ic fr fx bx t) (ic + t)) j = lpB pb ic fr fx bx t j := by
        by_cases c1 : t * 4096 < bx
        · rw [if_pos c1, upr_ne c, lpZ, upr_ne c]
        · rw [if_neg c1, lpZ, upr_ne c]
      rw [e, ih j x hx]
      by_cases c2 : ic ≤ j ∧ j < ic + t
      · rw [if_pos c2, if_pos (show ic ≤ j ∧ j < ic + (t + 1) from by omega)]
      · rw [if_neg c2, if_neg (show ¬ (ic ≤ j ∧ j < ic + (t + 1)) from by omega)]
