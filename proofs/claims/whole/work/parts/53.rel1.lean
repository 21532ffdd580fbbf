/-! THE TWO SIDES COMPUTE THE SAME: the file and the arguments -/
set_option maxRecDepth 100000 in
set_option maxHeartbeats 4000000 in
theorem fd_mf (n : Nat) (fr : Nat → Int32) (w1 w2 w3 w4 w5 : Int32) : mfF n fr w1 w2 w3 w4 w5 = fdF n fr w1 w2 w3 w4 w5 := by
  unfold mfF fdF
  by_cases c : n + 20 ≤ 65536
  · rw [if_pos c, if_pos c]
    funext j
    by_cases hj : n ≤ j ∧ j < n + 20
    · rcases (show j = n + 0 ∨ j = n + 1 ∨ j = n + 2 ∨ j = n + 3 ∨ j = n + 4 ∨ j = n + 5 ∨ j = n + 6 ∨ j = n + 7 ∨ j = n + 8 ∨ j = n + 9 ∨ j = n + 10 ∨ j = n + 11 ∨ j = n + 12 ∨ j = n + 13 ∨ j = n + 14 ∨ j = n + 15 ∨ j = n + 16 ∨ j = n + 17 ∨ j = n + 18 ∨ j = n + 19 by omega) with rfl | rfl | rfl | rfl | rfl | rfl | rfl | rfl | rfl | rfl | rfl | rfl | rfl | rfl | rfl | rfl | rfl | rfl | rfl | rfl <;> simp [apW, upd, Nat.add_assoc]
    · simp only [apW, upd]
      repeat rw [if_neg (by omega)]
  · rw [if_neg c, if_neg c]
theorem st_ms (n : Nat) (fr : Nat → Int32) (k b : Int32) : msF n fr k b = stF n fr k b := by
  unfold msF stF fbWr
  by_cases c : isB b
  · rw [if_pos c]
    by_cases c2 : 0 ≤ k.toInt ∧ k.toInt + ((1 : Nat) : Int) ≤ (n : Int)
    · rw [if_pos ⟨c, c2⟩, if_pos c2]
      show upd fr k.toInt.toNat b.toInt8.toInt32 = upd fr (k.toInt.toNat + 0) (b >>> ((8 * nI 0) &&& 31)).toInt8.toInt32
      rw [show (8 : Int32) * nI 0 = 0 from by decide, sb_shr0]
      rfl
    · rw [if_neg (fun h => c2 h.2), if_neg c2]
  · rw [if_neg (fun h => c h.1), if_neg c]
theorem pt_mp (n : Nat) (fr : Nat → Int32) (k kn w : Int32) : mpF n fr k kn w = ptF n fr k kn w := by
  unfold mpF ptF fbWr
  by_cases c : mOK kn
  · rw [if_pos c]
    by_cases c2 : 0 ≤ k.toInt ∧ k.toInt + ((tN kn : Nat) : Int) ≤ (n : Int)
    · rw [if_pos ⟨c, c2⟩, if_pos c2]
    · rw [if_neg (fun h => c2 h.2), if_neg c2]
  · rw [if_neg (fun h => c h.1), if_neg c]
theorem mk2_iff (n : Nat) (fr : Nat → Int32) : mk2 n fr ↔ (52 ≤ n ∧ marked fr) := by
  unfold mk2 marked
  simp only [nbN, Nat.zero_add, Nat.reduceAdd, Nat.mul_zero, Nat.add_zero]
  have h0 := b8_lt (fr 0)
  have h1 := b8_lt (fr 1)
  have h2 := b8_lt (fr 2)
  have h3 := b8_lt (fr 3)
  have h4 := b8_lt (fr 4)
  have h5 := b8_lt (fr 5)
  have h6 := b8_lt (fr 6)
  omega
theorem kd2_iff (fr : Nat → Int32) : kd2 fr ↔ kindOK fr := by
  unfold kd2 kindOK
  omega
theorem hin2_iff (n : Nat) (fr : Nat → Int32) : hin2 n fr ↔ hdsIn fr n := by
  unfold hin2 hdsIn nHd
  omega
theorem rg_fin : ∀ t, t < 8 → rgO (nI t) = mgO (nI t) := by decide
theorem sh_and (w : Int32) : (w >>> ((2 : Int32) &&& 31)) &&& 1 = ((w &&& 7) >>> ((2 : Int32) &&& 31)) &&& 1 := by
  apply Int32.toBitVec_inj.mp
  have e1 : ∀ x : Int32, ((x >>> ((2 : Int32) &&& 31)) &&& 1).toBitVec = (x.toBitVec.sshiftRight 2) &&& BitVec.ofNat 32 (2 ^ 1 - 1) := fun x => rfl
  have e2 : (w &&& 7).toBitVec = w.toBitVec &&& BitVec.ofNat 32 (2 ^ 3 - 1) := rfl
  rw [e1, e1, e2]
  apply BitVec.eq_of_getLsbD_eq
  intro i hi
  simp only [BitVec.getLsbD_and, BitVec.getLsbD_ofNat, Nat.testBit_two_pow_sub_one, BitVec.getLsbD_sshiftRight]
  by_cases h : i < 1
  · have : i = 0 := by omega
    subst this
    simp
  · simp [h]
theorem and_and7 (w m : Int32) (h : (7 : Int32) &&& m = m) : w &&& m = (w &&& 7) &&& m := by rw [Int32.and_assoc, h]
theorem rg_mg (w : Int32) : rgO w = mgO w := by
  have e : w &&& 7 = nI (w.toBitVec.toNat % 2 ^ 3) := pk_and w 3 (by decide)
  have h := rg_fin (w.toBitVec.toNat % 2 ^ 3) (Nat.mod_lt _ (by decide))
  rw [← e] at h
  have r1 : rgO w = rgO (w &&& 7) := by
    unfold rgO
    rw [and_and7 w 4 (by decide), and_and7 w 2 (by decide), and_and7 w 1 (by decide)]
  have r2 : mgO w = mgO (w &&& 7) := by
    unfold mgO
    rw [sh_and w, and_and7 w 2 (by decide), and_and7 w 1 (by decide)]
  rw [r1, r2, h]
