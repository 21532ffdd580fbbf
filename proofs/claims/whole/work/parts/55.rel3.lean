/-! THE TWO SIDES COMPUTE THE SAME: why, and the arguments' letters -/
theorem p_rm (k : Int32) {X : Nat} (h1 : 1 ≤ X) (h2 : X < 2 ^ 31) : nI X ≤ rm2 k ↔ X ≤ rmN k := by
  have h32 : (32 : Int32).toInt = 32 := rfl
  unfold rm2 rmN
  by_cases c : k ≤ 32
  · have c2 := c
    rw [Int32.le_iff_toInt_le, h32] at c2
    rw [if_pos c, Int32.le_iff_toInt_le, nI_toInt h2]
    by_cases c3 : k.toInt < 0
    · rw [if_pos c3]
      omega
    · rw [if_neg c3, if_neg (by omega)]
      omega
  · have c2 := c
    rw [Int32.le_iff_toInt_le, h32] at c2
    rw [if_neg c, Int32.le_iff_toInt_le, nI_toInt h2, h32, if_neg (by omega), if_pos (by omega)]
    omega
theorem jd_mw (n : Nat) (fr : Nat → Int32) (a : Nat) (z : Nat → Nat) (pf : Nat → Nat → Int32) (m5 : M5) (k : Int32) :
    (¬ mwC n fr m5 (rm2 k) = 0 → jdC n fr a z pf (rmN k) = mwC n fr m5 (rm2 k)) ∧ (mwC n fr m5 (rm2 k) = 0 → (0 ≤ spOf z a → jdC n fr a z pf (rmN k) = 0) ∧ (¬ 0 ≤ spOf z a → jdC n fr a z pf (rmN k) = 6) ∧ mwR n fr ∧ (mdAll fr n m5).1 = true ∧ (plAll fr n pf).2.2.2.1 ≤ rmN k) := by
  obtain ⟨e1, hPM⟩ := PM_all fr n pf m5
  have hpp : (plAll fr n pf).2.2.2.1 = 2 + wsum (mdAll fr n m5).2.2.2.2.2.2.1 (mdAll fr n m5).2.1 := hPM.2.2.1
  have hinv := plAll_inv fr n pf
  have hpb := p_ppb hinv.1 hinv.2
  unfold mwC jdC
  by_cases c1 : mk2 n fr
  · have d1 := (mk2_iff n fr).mp c1
    rw [if_neg (not_not_intro c1), if_neg (not_not_intro d1)]
    by_cases c2 : kd2 fr
    · have d2 := (kd2_iff fr).mp c2
      rw [if_neg (not_not_intro c2), if_neg (not_not_intro d2)]
      by_cases c3 : hin2 n fr
      · have d3 := (hin2_iff n fr).mp c3
        rw [if_neg (not_not_intro c3), if_neg (not_not_intro d3), e1]
        by_cases c4 : (mdAll fr n m5).1 = true
        · rw [if_neg (not_not_intro c4), if_neg (not_not_intro c4)]
          have hiff := p_rm k (X := 2 + wsum (mdAll fr n m5).2.2.2.2.2.2.1 (mdAll fr n m5).2.1) (by omega) (by omega)
          by_cases c5 : nI (2 + wsum (mdAll fr n m5).2.2.2.2.2.2.1 (mdAll fr n m5).2.1) ≤ rm2 k
          · have d5 : (plAll fr n pf).2.2.2.1 ≤ rmN k := by rw [hpp]; exact hiff.mp c5
            rw [if_neg (not_not_intro c5), if_neg (not_not_intro d5)]
            refine ⟨fun h => absurd rfl h, fun _ => ⟨fun h => ?_, fun h => ?_, ⟨c1, c2, c3⟩, c4, d5⟩⟩
            · rw [if_neg (not_not_intro h)]
            · rw [if_pos h]
          · have d5 : ¬ (plAll fr n pf).2.2.2.1 ≤ rmN k := by rw [hpp]; exact fun h => c5 (hiff.mpr h)
            rw [if_pos c5, if_pos d5]
            exact ⟨fun _ => rfl, fun h => by cases h⟩
        · rw [if_pos c4, if_pos c4]
          exact ⟨fun _ => rfl, fun h => by cases h⟩
      · have d3 : ¬ hdsIn fr n := fun h => c3 ((hin2_iff n fr).mpr h)
        rw [if_pos c3, if_pos d3]
        exact ⟨fun _ => rfl, fun h => by cases h⟩
    · have d2 : ¬ kindOK fr := fun h => c2 ((kd2_iff fr).mpr h)
      rw [if_pos c2, if_pos d2]
      exact ⟨fun _ => rfl, fun h => by cases h⟩
  · have d1 : ¬ (52 ≤ n ∧ marked fr) := fun h => c1 ((mk2_iff n fr).mpr h)
    rw [if_pos c1, if_pos d1]
    exact ⟨fun _ => rfl, fun h => by cases h⟩
/-- the letters that are there are the same: rows of 127 and rows of 128 -/
def AL (ar le : Nat → Int32) (z : Nat → Nat) : Prop := ∀ i j, i < 32 → j < z i → ar (i * 127 + j) = le (128 * i + j)
theorem AL_ex {ar le : Nat → Int32} {z : Nat → Nat} {b : Nat} {w : Int64} (hz : ∀ j, z j ≤ 127) (hb : b < 32) (hw : z b + ltN w 8 ≤ 127) (h : AL ar le z) : ∀ t, t ≤ 8 → AL (exA ar z b w t) (mxA le z b w t) (upn z b (z b + ltN w t)) := by
  intro t
  induction t with
  | zero =>
    intro _
    have e : upn z b (z b + ltN w 0) = z := upn_self z b
    rw [e]
    exact h
  | succ t ih =>
    intro ht i j hi hj
    have ih := ih (by omega)
    have hm := ltN_mono w (t + 1) (8 - (t + 1))
    rw [show t + 1 + (8 - (t + 1)) = 8 from by omega] at hm
    rw [exA, mxA]
    by_cases c : lby w t = 0
    · rw [if_pos c, if_pos c]
      rw [ltN, if_pos c] at hj
      exact ih i j hi hj
    · rw [if_neg c, if_neg c]
      rw [ltN, if_neg c] at hj hm
      by_cases cb : i = b
      · subst cb
        rw [upn_eq] at hj
        by_cases cj : j = z i + ltN w t
        · rw [cj, pk_us, pk_us]
        · rw [pk_un (show i * 127 + j ≠ i * 127 + (z i + ltN w t) from by omega), pk_un (show 128 * i + j ≠ 128 * i + (z i + ltN w t) from by omega)]
          exact ih i j hi (by rw [upn_eq]; omega)
      · rw [upn_ne _ _ cb] at hj
        have hzi := hz i
        rw [pk_un (show i * 127 + j ≠ b * 127 + (z b + ltN w t) from by omega), pk_un (show 128 * i + j ≠ 128 * b + (z b + ltN w t) from by omega)]
        exact ih i j hi (by rw [upn_ne _ _ cb]; exact hj)
theorem AL_letters {ar le : Nat → Int32} {z : Nat → Nat} {a : Nat} (w : Int64) (hz : ∀ j, z j ≤ 127) (ha : a ≤ 32) (h : AL ar le z) : AL (exFA a ar z w) (mxFA a le z w) (exFZ a z w) ∧ ∀ j, exFZ a z w j ≤ 127 := by
  unfold exFA mxFA exFZ
  by_cases c : 0 < a ∧ z (a - 1) + ltN w 8 ≤ 127
  · rw [if_pos c, if_pos c, if_pos c]
    refine ⟨AL_ex hz (by omega) c.2 h 8 (Nat.le_refl _), fun j => ?_⟩
    by_cases cj : j = a - 1
    · rw [cj, upn_eq]; exact c.2
    · rw [upn_ne _ _ cj]; exact hz j
  · rw [if_neg c, if_neg c, if_neg c]
    exact ⟨h, hz⟩
theorem AL_arg {ar le : Nat → Int32} {z : Nat → Nat} {a : Nat} (hz : ∀ j, z j ≤ 127) (h : AL ar le z) : AL ar le (agZ a z) ∧ ∀ j, agZ a z j ≤ 127 := by
  unfold agZ
  by_cases c : a < 32
  · rw [if_pos c]
    constructor
    · intro i j hi hj
      by_cases ci : i = a
      · rw [ci, upn_eq] at hj; omega
      · rw [upn_ne _ _ ci] at hj; exact h i j hi hj
    · intro j
      by_cases cj : j = a
      · rw [cj, upn_eq]; omega
      · rw [upn_ne _ _ cj]; exact hz j
  · rw [if_neg c]; exact ⟨h, hz⟩
