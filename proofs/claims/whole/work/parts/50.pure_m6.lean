def rm2 (k : Int32) : Int32 := if k ≤ 32 then k else 32
theorem mwC_le (n : Nat) (fr : Nat → Int32) (s : M5) (room : Int32) : mwC n fr s room ≤ 6 := by
  unfold mwC
  repeat' split
  all_goals omega
def cpk (f g : Nat → Int32) : Nat → Nat → Int32
  | 0 => g
  | k + 1 => upd (cpk f g k) k (f k)
def cpn (f g : Nat → Nat) : Nat → Nat → Nat
  | 0 => g
  | k + 1 => upn (cpn f g k) k (f k)
theorem zf_fit {j : Nat} {f : Nat → Int32} (h : sb_Fit f) : sb_Fit (zf j f) := by
  intro i
  unfold zf
  by_cases c : i < j
  · rw [if_pos c]; decide
  · rw [if_neg c]; exact h i
theorem wrN_fit {f : Nat → Int32} (h : sb_Fit f) (j : Nat) (w : Int32) (i : Nat) : sb_Fit (wrN f j w i) := by
  induction i with
  | zero => exact h
  | succ i ih => exact sb_fitU ih (pk_fb _)
theorem lcp_fit {g le : Nat → Int32} (hg : sb_Fit g) (hl : sb_Fit le) (b tp j : Nat) : sb_Fit (lcp g le b tp j) := by
  induction j with
  | zero => exact hg
  | succ j ih => exact sb_fitU ih (hl _)
theorem mkT_fit {f le : Nat → Int32} (hf : sb_Fit f) (hl : sb_Fit le) {z : Nat → Nat} {P E : Nat} (q : Nat) : sb_Fit (mkT f le z P E q) := by
  induction q with
  | zero => exact hf
  | succ q ih => exact wrN_fit (lcp_fit ih hl _ _ _) _ _ 4
