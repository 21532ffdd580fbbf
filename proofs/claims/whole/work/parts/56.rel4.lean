/-! THE TWO SIDES COMPUTE THE SAME: the stack's bytes -/
theorem lcp_eq (g le : Nat → Int32) (b tp : Nat) : ∀ j x, lcp g le b tp j x = if tp ≤ x ∧ x < tp + j then le (b + (x - tp)) else g x := by
  intro j
  induction j with
  | zero => intro x; rw [lcp, if_neg (by omega)]
  | succ j ih =>
    intro x
    rw [lcp]
    by_cases c : x = tp + j
    · rw [c, pk_us, if_pos (by omega), show tp + j - tp = j from by omega]
    · rw [pk_un c, ih x]
      by_cases c2 : tp ≤ x ∧ x < tp + j
      · rw [if_pos c2, if_pos (by omega)]
      · rw [if_neg c2, if_neg (by omega)]
theorem wrN_congr {f g : Nat → Int32} {w : Int32} {k : Nat} (h : ∀ x, x < 4096 → f x = g x) : ∀ i x, x < 4096 → wrN f k w i x = wrN g k w i x := by
  intro i
  induction i with
  | zero => exact h
  | succ i ih =>
    intro x hx
    rw [wrN, wrN]
    by_cases c : x = k + i
    · rw [c, pk_us, pk_us]
    · rw [pk_un c, pk_un c]
      exact ih x hx
theorem sk_mk {f g ar le : Nat → Int32} {z : Nat → Nat} {P E t : Nat} (hE : E = t + 8192) (hfg : ∀ x, x < 4096 → f x = g x) (hal : AL ar le z) : ∀ q, q ≤ 32 → ∀ x, x < 4096 → skT f ar z P (nI (t + 4096)) q x = mkT g le z P E q x := by
  intro q
  induction q with
  | zero => intro _; exact hfg
  | succ q ih =>
    intro hq
    have ih := ih (by omega)
    rw [skT, mkT, nI_add, show E - 4096 + tpN z (q + 1) = t + 4096 + tpN z (q + 1) from by omega]
    apply wrN_congr
    intro x hx
    rw [lcp_eq]
    by_cases c : tpN z (q + 1) ≤ x ∧ x < tpN z (q + 1) + z q
    · rw [if_pos c, pk_cpy_in c.1 c.2]
      exact hal q (x - tpN z (q + 1)) (by omega) (by omega)
    · rw [if_neg c, pk_cpy_out (by omega)]
      exact ih x hx
theorem cpk_eq (f g : Nat → Int32) : ∀ k x, cpk f g k x = if x < k then f x else g x := by
  intro k
  induction k with
  | zero => intro x; rw [cpk, if_neg (Nat.not_lt_zero _)]
  | succ k ih =>
    intro x
    rw [cpk]
    by_cases c : x = k
    · rw [c, pk_us, if_pos (Nat.lt_succ_self _)]
    · rw [pk_un c, ih x]
      by_cases c2 : x < k
      · rw [if_pos c2, if_pos (by omega)]
      · rw [if_neg c2, if_neg (by omega)]
theorem cpn_eq (f g : Nat → Nat) : ∀ k x, cpn f g k x = if x < k then f x else g x := by
  intro k
  induction k with
  | zero => intro x; rw [cpn, if_neg (Nat.not_lt_zero _)]
  | succ k ih =>
    intro x
    rw [cpn]
    by_cases c : x = k
    · rw [c, upn_eq, if_pos (Nat.lt_succ_self _)]
    · rw [upn_ne _ _ c, ih x]
      by_cases c2 : x < k
      · rw [if_pos c2, if_pos (by omega)]
      · rw [if_neg c2, if_neg (by omega)]
/-- the pages' starts and rights behind the laying of a part -/
theorem lpS_eq (st : Nat → Int32) (ic ax : Nat) : ∀ t j, lpS st ic ax t j = if ic ≤ j ∧ j < ic + t then nI (ax + (j - ic) * 4096) else st j := by
  intro t
  induction t with
  | zero => intro j; rw [lpS, if_neg (by omega)]
  | succ t ih =>
    intro j
    rw [lpS]
    by_cases c : j = ic + t
    · rw [c, pk_us, if_pos (by omega), show ic + t - ic = t from by omega]
    · rw [pk_un c, ih j]
      by_cases c2 : ic ≤ j ∧ j < ic + t
      · rw [if_pos c2, if_pos (by omega)]
      · rw [if_neg c2, if_neg (by omega)]
theorem lpR_eq (rt : Nat → Int32) (ic : Nat) (r : Int32) : ∀ t j, lpR rt ic r t j = if ic ≤ j ∧ j < ic + t then r else rt j := by
  intro t
  induction t with
  | zero => intro j; rw [lpR, if_neg (by omega)]
  | succ t ih =>
    intro j
    rw [lpR]
    by_cases c : j = ic + t
    · rw [c, pk_us, if_pos (by omega)]
    · rw [pk_un c, ih j]
      by_cases c2 : ic ≤ j ∧ j < ic + t
      · rw [if_pos c2, if_pos (by omega)]
      · rw [if_neg c2, if_neg (by omega)]
