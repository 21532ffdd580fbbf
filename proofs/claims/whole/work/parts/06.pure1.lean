/-! THE FILE: what its methods compute -/
def apW (fr : Nat → Int32) (n : Nat) (w : Int32) : Nat → Int32 := upd (upd (upd (upd fr n (w >>> (24 &&& 31)).toInt8.toInt32) (n + 1) (w >>> (16 &&& 31)).toInt8.toInt32) (n + 1 + 1) (w >>> (8 &&& 31)).toInt8.toInt32) (n + 1 + 1 + 1) (w >>> (0 &&& 31)).toInt8.toInt32
def fbCut (n : Nat) (k : Int32) : Nat := if 0 ≤ k.toInt ∧ k.toInt ≤ (n : Int) then k.toInt.toNat else n
def wrN (fr : Nat → Int32) (j : Nat) (w : Int32) : Nat → Nat → Int32
  | 0 => fr
  | i + 1 => upd (wrN fr j w i) (j + i) (w >>> ((8 * nI i) &&& 31)).toInt8.toInt32
def fbWr (M n : Nat) (fr : Nat → Int32) (k w : Int32) : Nat → Int32 := if 0 ≤ k.toInt ∧ k.toInt + M ≤ (n : Int) then wrN fr k.toInt.toNat w M else fr
def numI (f : Nat → Int32) (j : Nat) : Nat → Int32
  | 0 => 0
  | i + 1 => (numI f (j + 1) i <<< ((8 : Int32) &&& 31)) ||| (f j &&& 255)
def fbNum (M n : Nat) (fr : Nat → Int32) (k : Int32) : Int32 := if 0 ≤ k.toInt ∧ k.toInt + M ≤ (n : Int) then numI fr k.toInt.toNat M else 0
def fbUns (n : Nat) (fr : Nat → Int32) (k : Int32) : Int64 := (fbNum 4 n fr k).toInt64 &&& 4294967295
theorem p_holds {f k : Int64} {n : Nat} (hn : n ≤ 65536) : (¬ f < 0 ∧ ¬ k < 0 ∧ ¬ lN n < f ∧ ¬ (lN n - f) < k) ↔ (0 ≤ f.toInt ∧ 0 ≤ k.toInt ∧ f.toInt + k.toInt ≤ (n : Int)) := by
  have h0 : (0 : Int64).toInt = 0 := rfl
  have hl : (lN n).toInt = n := lN_toInt (by omega)
  simp only [Int64.lt_iff_toInt_lt, h0, hl]
  by_cases hf : 0 ≤ f.toInt ∧ f.toInt ≤ n
  · have hs : (lN n - f).toInt = n - f.toInt := by
      rw [Int64.toInt_sub, hl]
      apply Int.bmod_eq_of_le <;> omega
    rw [hs]
    omega
  · constructor
    · intro h
      omega
    · intro h
      omega
theorem p_nneg {k : Int32} (h : 0 ≤ k.toInt) : ¬ k < 0 := by
  rw [Int32.lt_iff_toInt_lt]
  have h0 : (0 : Int32).toInt = 0 := rfl
  omega
theorem p_ofNat {k : Int32} (h : 0 ≤ k.toInt) : ∃ j : Nat, k = nI j ∧ (j : Int) = k.toInt := by
  obtain ⟨j, hj, e⟩ := nI_of (p_nneg h)
  exact ⟨j, e, by rw [e, nI_toInt hj]⟩
theorem p_at {M : Nat} {m : Int64} {k : Int32} {n : Nat} (hm : m.toInt = (M : Int)) (h : 0 ≤ k.toInt64.toInt ∧ 0 ≤ m.toInt ∧ k.toInt64.toInt + m.toInt ≤ (n : Int)) : ∃ j : Nat, k = nI j ∧ j + M ≤ n := by
  rw [Int32.toInt_toInt64, hm] at h
  obtain ⟨j, e, hj⟩ := p_ofNat h.1
  exact ⟨j, e, by omega⟩
theorem p_nat {M : Nat} {m : Int64} {k : Int32} {n : Nat} (hm : m.toInt = (M : Int)) (h : ¬ (0 ≤ k.toInt64.toInt ∧ 0 ≤ m.toInt ∧ k.toInt64.toInt + m.toInt ≤ (n : Int))) : ¬ (0 ≤ k.toInt ∧ k.toInt + M ≤ (n : Int)) := by
  rw [Int32.toInt_toInt64, hm] at h
  omega
theorem p_at1 {k : Int32} {n : Nat} (h : 0 ≤ k.toInt64.toInt ∧ 0 ≤ (1 : Int64).toInt ∧ k.toInt64.toInt + (1 : Int64).toInt ≤ (n : Int)) : ∃ j : Nat, k = nI j ∧ j + 1 ≤ n := p_at rfl h
theorem p_at2 {k : Int32} {n : Nat} (h : 0 ≤ k.toInt64.toInt ∧ 0 ≤ (2 : Int64).toInt ∧ k.toInt64.toInt + (2 : Int64).toInt ≤ (n : Int)) : ∃ j : Nat, k = nI j ∧ j + 2 ≤ n := p_at rfl h
theorem p_at4 {k : Int32} {n : Nat} (h : 0 ≤ k.toInt64.toInt ∧ 0 ≤ (4 : Int64).toInt ∧ k.toInt64.toInt + (4 : Int64).toInt ≤ (n : Int)) : ∃ j : Nat, k = nI j ∧ j + 4 ≤ n := p_at rfl h
theorem p_nat1 {k : Int32} {n : Nat} (h : ¬ (0 ≤ k.toInt64.toInt ∧ 0 ≤ (1 : Int64).toInt ∧ k.toInt64.toInt + (1 : Int64).toInt ≤ (n : Int))) : ¬ (0 ≤ k.toInt ∧ k.toInt + ((1 : Nat) : Int) ≤ (n : Int)) := p_nat (M := 1) rfl h
theorem p_nat2 {k : Int32} {n : Nat} (h : ¬ (0 ≤ k.toInt64.toInt ∧ 0 ≤ (2 : Int64).toInt ∧ k.toInt64.toInt + (2 : Int64).toInt ≤ (n : Int))) : ¬ (0 ≤ k.toInt ∧ k.toInt + ((2 : Nat) : Int) ≤ (n : Int)) := p_nat (M := 2) rfl h
theorem p_nat4 {k : Int32} {n : Nat} (h : ¬ (0 ≤ k.toInt64.toInt ∧ 0 ≤ (4 : Int64).toInt ∧ k.toInt64.toInt + (4 : Int64).toInt ≤ (n : Int))) : ¬ (0 ≤ k.toInt ∧ k.toInt + ((4 : Nat) : Int) ≤ (n : Int)) := p_nat (M := 4) rfl h
theorem p_in {k : Int32} {j M n : Nat} (e : k = nI j) (hj : j + M ≤ n) (hn : n ≤ 65536) : 0 ≤ k.toInt ∧ k.toInt + M ≤ (n : Int) := by
  rw [e, nI_toInt (by omega)]
  omega
