theorem jdC_le (n : Nat) (fr : Nat → Int32) (a : Nat) (z : Nat → Nat) (pf : Nat → Nat → Int32) (room : Nat) : jdC n fr a z pf room ≤ 6 := by
  unfold jdC
  repeat' split
  all_goals omega
theorem p_and16 {x : Nat} (h : x < 2 ^ 31) : nI x &&& (-16) = nI (x / 16 * 16) := by
  apply Int32.toBitVec_inj.mp
  apply BitVec.eq_of_toNat_eq
  rw [Int32.toBitVec_and, BitVec.toNat_and, pk_tn (by omega), pk_tn (by omega)]
  have h4 : (-16 : Int32).toBitVec.toNat = 2 ^ 32 - 16 := rfl
  rw [h4]
  apply Nat.eq_of_testBit_eq
  intro i
  have e : (2 ^ 32 - 16 : Nat) = (2 ^ 28 - 1) * 2 ^ 4 := rfl
  rw [Nat.testBit_and, e, Nat.testBit_mul_two_pow, Nat.testBit_two_pow_sub_one, show x / 16 * 16 = (x / 2 ^ 4) * 2 ^ 4 from rfl, Nat.testBit_mul_two_pow, Nat.testBit_div_two_pow]
  by_cases hi : 4 ≤ i
  · simp only [hi, decide_true, Bool.true_and]
    rw [show i - 4 + 4 = i from by omega]
    by_cases h3 : i - 4 < 28
    · simp [h3]
    · simp only [h3, decide_false, Bool.and_false]
      exact (Nat.testBit_lt_two_pow (Nat.lt_of_lt_of_le h (Nat.pow_le_pow_right (by decide) (by omega)))).symm
  · simp [hi]
theorem sp_neg : ∀ d : Nat, d < 133 → 0 < d → (Int32.ofInt (-(d : Int)) &&& (-16)) < 0 := by decide
/-- the stack has room, or its pointer comes out below 0 -/
theorem p_sp {z : Nat → Nat} {a : Nat} (ha : a ≤ 32) : (0 ≤ spOf z a → ∃ P, spOf z a = nI P ∧ P + 4 * (a + 1) ≤ tpN z a ∧ P = (tpN z a - 4 * (a + 1)) / 16 * 16) ∧ (¬ 0 ≤ spOf z a → tpN z a < 4 * (a + 1)) := by
  have ht := tpN_le z a
  by_cases c : 4 * (a + 1) ≤ tpN z a
  · have e : spOf z a = nI ((tpN z a - 4 * (a + 1)) / 16 * 16) := by
      unfold spOf
      rw [pk_sub c]
      exact p_and16 (by omega)
    refine ⟨fun _ => ⟨_, e, by omega, rfl⟩, fun h => absurd ?_ h⟩
    rw [e]
    exact nI_pos' (by omega)
  · refine ⟨fun h => absurd h ?_, fun _ => by omega⟩
    have hx : nI (tpN z a) - nI (4 * (a + 1)) = Int32.ofInt (-((4 * (a + 1) - tpN z a : Nat) : Int)) := by
      apply Int32.toInt_inj.mp
      rw [pk_sub_toInt (by omega) (by omega), Int32.toInt_ofInt, show Int32.size = 4294967296 from rfl, Int.bmod_eq_of_le (by omega) (by omega)]
      omega
    unfold spOf
    rw [hx]
    have := sp_neg (4 * (a + 1) - tpN z a) (by omega) (by omega)
    exact Int32.not_le.mpr this
