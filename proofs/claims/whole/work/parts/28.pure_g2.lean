theorem bI_and {a b : Prop} [Decidable a] [Decidable b] (h : a) : bI b = bI (a ∧ b) := by
  by_cases hb : b <;> simp [bI, h, hb]
set_option maxRecDepth 100000 in
theorem p_ppb {x t : Nat} (h : x * 4096 ≤ t + 8192) (h2 : t ≤ 1073733632) : x ≤ 262144 := by omega
