abbrev MS : Type := Nat × Nat × (Nat → Nat) × (Nat → Nat) × (Nat → Nat) × (Nat → Nat) × (Nat → Int32)
def mgO (w : Int32) : Int32 := ((8 + ((w >>> ((2 : Int32) &&& 31)) &&& 1)) + (w &&& 2)) + (4 * (w &&& 1))
def msPush (f : Nat → Int32) (q : Nat) (s : MS) : MS := (s.1 + 1, (hdA f q + hdS f q + 4095) / 4096 * 4096, upn s.2.2.1 s.1 (hdF f q), upn s.2.2.2.1 s.1 (hdA f q), upn s.2.2.2.2.1 s.1 (hdB f q), upn s.2.2.2.2.2.1 s.1 (hdS f q), upd s.2.2.2.2.2.2 s.1 (mgO (nI (hdW f q))))
def msStep (f : Nat → Int32) (n q : Nat) (s : MS) : MS := if hdSkip f q then s else if hdGood f n s.2.1 q then msPush f q s else s
theorem msStep_skip {f : Nat → Int32} {n q : Nat} {s : MS} (h : hdSkip f q) : msStep f n q s = s := by rw [msStep, if_pos h]
theorem msStep_good {f : Nat → Int32} {n q : Nat} {s : MS} (h : ¬ hdSkip f q) (h2 : hdGood f n s.2.1 q) : msStep f n q s = msPush f q s := by rw [msStep, if_neg h, if_pos h2]
theorem msStep_bad {f : Nat → Int32} {n q : Nat} {s : MS} (h2 : ¬ hdGood f n s.2.1 q) : msStep f n q s = s := by
  unfold msStep
  by_cases h1 : hdSkip f q
  · rw [if_pos h1]
  · rw [if_neg h1, if_neg h2]
def wsum (g : Nat → Nat) : Nat → Nat
  | 0 => 0
  | p + 1 => wsum g p + (g p + 4095) / 4096 * 4096 / 4096
