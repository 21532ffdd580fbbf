/-! THE IMAGE: what laying computes -/
def fdI (st : Nat → Int32) (b : Int32) : Nat → Nat → Option Nat
  | 0, _ => none
  | k + 1, j => if st j = b then some j else fdI st b k (j + 1)
def lpS (st : Nat → Int32) (ic ax : Nat) : Nat → Nat → Int32
  | 0 => st
  | t + 1 => upd (lpS st ic ax t) (ic + t) (nI (ax + t * 4096))
def lpR (rt : Nat → Int32) (ic : Nat) (r : Int32) : Nat → Nat → Int32
  | 0 => rt
  | t + 1 => upd (lpR rt ic r t) (ic + t) r
def lpZ (pb : Nat → Nat → Int32) (k : Nat) : Nat → Nat → Int32 := upr pb k (zf 4096 (pb k))
def lpB (pb : Nat → Nat → Int32) (ic : Nat) (fr : Nat → Int32) (fx bx : Nat) : Nat → Nat → Nat → Int32
  | 0 => pb
  | t + 1 => if t * 4096 < bx then upr (lpZ (lpB pb ic fr fx bx t) (ic + t)) (ic + t) (va_cpy fr (lpZ (lpB pb ic fr fx bx t) (ic + t) (ic + t)) (fx + t * 4096) 0 (min (bx - t * 4096) 4096)) else lpZ (lpB pb ic fr fx bx t) (ic + t)
theorem p_min {x : Nat} (h : x < 2 ^ 31) : (if (4096 : Int32) < nI x then (4096 : Int32) else nI x) = nI (min x 4096) := by
  by_cases c : 4096 < x
  · rw [if_pos (show (4096 : Int32) < nI x from (nI_ltI (a := 4096) (b := x) (by decide) h).mpr c), Nat.min_eq_right (by omega)]
    rfl
  · rw [if_neg (show ¬ (4096 : Int32) < nI x from fun h9 => c ((nI_ltI (a := 4096) (b := x) (by decide) h).mp h9)), Nat.min_eq_left (by omega)]
def skT (f : Nat → Int32) (ar : Nat → Int32) (z : Nat → Nat) (P : Nat) (s0 : Int32) : Nat → Nat → Int32
  | 0 => f
  | q + 1 => wrN (va_cpy ar (skT f ar z P s0 q) (q * 127) (tpN z (q + 1)) (z q)) (P + 4 * q) (s0 + nI (tpN z (q + 1))) 4
theorem upr_if (pb : Nat → Nat → Int32) (i : Nat) : upr pb i (pb i) = pb := upr_self pb i
