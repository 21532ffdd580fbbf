/-! THE TWO SIDES COMPUTE THE SAME: the image behind a load -/
theorem p_and4096 {x : Nat} (h : x < 2 ^ 31) : nI x &&& (-4096) = nI (x / 4096 * 4096) := by
  apply Int32.toBitVec_inj.mp
  apply BitVec.eq_of_toNat_eq
  have hle : x / 4096 * 4096 ≤ x := Nat.div_mul_le_self x 4096
  rw [Int32.toBitVec_and, BitVec.toNat_and, pk_tn (by omega), pk_tn (Nat.lt_of_le_of_lt hle (by omega))]
  have h4 : (-4096 : Int32).toBitVec.toNat = 2 ^ 32 - 4096 := rfl
  rw [h4]
  apply Nat.eq_of_testBit_eq
  intro i
  have e : (2 ^ 32 - 4096 : Nat) = (2 ^ 20 - 1) * 2 ^ 12 := rfl
  rw [Nat.testBit_and, e, Nat.testBit_mul_two_pow, Nat.testBit_two_pow_sub_one, show x / 4096 * 4096 = (x / 2 ^ 12) * 2 ^ 12 from rfl, Nat.testBit_mul_two_pow, Nat.testBit_div_two_pow]
  by_cases hi : 12 ≤ i
  · simp only [hi, decide_true, Bool.true_and]
    rw [show i - 12 + 12 = i from by omega]
    by_cases h3 : i - 12 < 20
    · simp [h3]
    · simp only [h3, decide_false, Bool.and_false]
      exact (Nat.testBit_lt_two_pow (Nat.lt_of_lt_of_le h (Nat.pow_le_pow_right (by decide) (by omega)))).symm
  · simp [hi]
theorem x_neg {x : Int32} (h : x.toInt < 0) : (x &&& (-4096)).toInt < 0 := by
  have h1 : x.toBitVec.msb = true := by
    rw [BitVec.msb_eq_toInt]
    exact decide_eq_true h
  have h2 : (x &&& (-4096)).toBitVec.msb = true := by
    rw [Int32.toBitVec_and, BitVec.msb_and, h1]
    rfl
  rw [BitVec.msb_eq_toInt] at h2
  exact of_decide_eq_true h2
theorem fdI_no {st : Nat → Int32} {b : Int32} : ∀ k i, (∀ j, i ≤ j → j < i + k → ¬ st j = b) → fdI st b k i = none := by
  intro k
  induction k with
  | zero => intro i _; rfl
  | succ k ih =>
    intro i h
    rw [fdI, if_neg (h i (Nat.le_refl _) (by omega))]
    exact ih (i + 1) (fun j h1 h2 => h j (by omega) (by omega))
theorem fdI_yes {st : Nat → Int32} {b : Int32} {j : Nat} : ∀ k i, i ≤ j → j < i + k → st j = b → (∀ q, i ≤ q → q < i + k → st q = b → q = j) → fdI st b k i = some j := by
  intro k
  induction k with
  | zero => intro i h1 h2; omega
  | succ k ih =>
    intro i h1 h2 h3 h4
    rw [fdI]
    by_cases c : st i = b
    · rw [if_pos c, h4 i (Nat.le_refl _) (by omega) c]
    · rw [if_neg c]
      have : i ≠ j := fun e => c (by rw [e]; exact h3)
      exact ih (i + 1) (by omega) (by omega) h3 (fun q q1 q2 => h4 q (by omega) (by omega))
theorem gs_ex (g : Nat → Nat) : ∀ c j, j < gsum g c → ∃ p t, p < c ∧ t < g p ∧ j = gsum g p + t := by
  intro c
  induction c with
  | zero => intro j h; exact absurd h (Nat.not_lt_zero _)
  | succ c ih =>
    intro j h
    by_cases d : j < gsum g c
    · obtain ⟨p, t, h1, h2, h3⟩ := ih j d
      exact ⟨p, t, Nat.lt_succ_of_lt h1, h2, h3⟩
    · have h' : j < gsum g c + g c := h
      exact ⟨c, j - gsum g c, Nat.lt_succ_self _, by omega, by omega⟩
theorem lyS_at (st : Nat → Int32) (pf : Nat → Nat → Int32) : ∀ q p t, p < q → t < tN (pf p 3) → lyS st pf q (gsum (ptG pf) p + t) = nI (tN (pf p 2) + t * 4096) := by
  intro q
  induction q with
  | zero => intro p t h; exact absurd h (Nat.not_lt_zero _)
  | succ q ih =>
    intro p t hp ht
    rw [lyS, lpS_eq]
    by_cases c : p = q
    · subst c
      rw [if_pos (by omega), show gsum (ptG pf) p + t - gsum (ptG pf) p = t from by omega]
    · have h1 := gsum_le (g := ptG pf) (show p < q from by omega)
      have h2 : ptG pf p = tN (pf p 3) := rfl
      rw [if_neg (by omega)]
      exact ih p t (by omega) ht
theorem lyR_at (rt : Nat → Int32) (pf : Nat → Nat → Int32) : ∀ q p t, p < q → t < tN (pf p 3) → lyR rt pf q (gsum (ptG pf) p + t) = pf p 4 := by
  intro q
  induction q with
  | zero => intro p t h; exact absurd h (Nat.not_lt_zero _)
  | succ q ih =>
    intro p t hp ht
    rw [lyR, lpR_eq]
    by_cases c : p = q
    · subst c
      rw [if_pos (by omega)]
    · have h1 := gsum_le (g := ptG pf) (show p < q from by omega)
      have h2 : ptG pf p = tN (pf p 3) := rfl
      rw [if_neg (by omega)]
      exact ih p t (by omega) ht
theorem lyB_at (pb : Nat → Nat → Int32) (fr : Nat → Int32) (pf : Nat → Nat → Int32) : ∀ q p t x, p < q → t < tN (pf p 3) → x < 4096 → lyB pb fr pf q (gsum (ptG pf) p + t) x = if t * 4096 + x < tN (pf p 1) then fr (tN (pf p 0) + t * 4096 + x) else 0 := by
  intro q
  induction q with
  | zero => intro p t x h; exact absurd h (Nat.not_lt_zero _)
  | succ q ih =>
    intro p t x hp ht hx
    rw [lyB, lpB_eq _ _ _ _ _ _ _ _ hx]
    by_cases c : p = q
    · subst c
      rw [if_pos (show gsum (ptG pf) p ≤ gsum (ptG pf) p + t ∧ gsum (ptG pf) p + t < gsum (ptG pf) p + tN (pf p 3) from by omega), show gsum (ptG pf) p + t - gsum (ptG pf) p = t from by omega]
    · have h1 := gsum_le (g := ptG pf) (show p < q from by omega)
      have h2 : ptG pf p = tN (pf p 3) := rfl
      rw [if_neg (show ¬ (gsum (ptG pf) q ≤ gsum (ptG pf) p + t ∧ gsum (ptG pf) p + t < gsum (ptG pf) q + tN (pf q 3)) from by omega)]
      exact ih p t x (by omega) ht hx
/-- the parts that were found, as the class's plan tells them -/
def IM1 (c en n : Nat) (F A B S : Nat → Nat) (W : Nat → Int32) (pf : Nat → Nat → Int32) : Prop := MI n (c, en, F, A, B, S, W) ∧ en % 4096 = 0 ∧ n ≤ 65536 ∧ ∀ p, p < c → tN (pf p 0) = F p ∧ tN (pf p 1) = B p ∧ tN (pf p 2) = A p ∧ tN (pf p 3) = (S p + 4095) / 4096 ∧ pf p 4 = W p
abbrev ST2 (st : Nat → Int32) (pf : Nat → Nat → Int32) (c en : Nat) : Nat → Int32 := upd (upd (lyS st pf c) (gsum (ptG pf) c) (nI en)) (gsum (ptG pf) c + 1) (nI (en + 4096))
theorem ST2_1 (st : Nat → Int32) (pf : Nat → Nat → Int32) (c en : Nat) : ST2 st pf c en (gsum (ptG pf) c + 1) = nI (en + 4096) := pk_us
theorem ST2_0 (st : Nat → Int32) (pf : Nat → Nat → Int32) (c en : Nat) : ST2 st pf c en (gsum (ptG pf) c) = nI en := (pk_un (Nat.ne_of_lt (Nat.lt_succ_self _))).trans pk_us
theorem ST2_lt (st : Nat → Int32) (pf : Nat → Nat → Int32) (c en : Nat) {j : Nat} (h : j < gsum (ptG pf) c) : ST2 st pf c en j = lyS st pf c j := (pk_un (by omega)).trans (pk_un (by omega))
section IM
variable {c en n : Nat} {F A B S : Nat → Nat} {W : Nat → Int32} {pf : Nat → Nat → Int32}
theorem im_at (h : IM1 c en n F A B S W pf) (st : Nat → Int32) {p t : Nat} (hp : p < c) (ht : t < (S p + 4095) / 4096) : gsum (ptG pf) p + t < gsum (ptG pf) c ∧ ST2 st pf c en (gsum (ptG pf) p + t) = nI (A p + t * 4096) := by
  obtain ⟨h0, h1, h2, h3, h4⟩ := h.2.2.2 p hp
  have g1 := gsum_le (g := ptG pf) hp
  have g2 : ptG pf p = (S p + 4095) / 4096 := h3
  rw [← h3] at ht
  have hlt : gsum (ptG pf) p + t < gsum (ptG pf) c := by omega
  refine ⟨hlt, ?_⟩
  rw [ST2_lt st pf c en hlt, lyS_at st pf c p t hp ht, h2]
theorem im_ex (h : IM1 c en n F A B S W pf) {j : Nat} (hj : j < gsum (ptG pf) c) : ∃ p t, p < c ∧ t < (S p + 4095) / 4096 ∧ j = gsum (ptG pf) p + t := by
  obtain ⟨p, t, h1, h2, h3⟩ := gs_ex _ c j hj
  have h4 : ptG pf p = (S p + 4095) / 4096 := (h.2.2.2 p h1).2.2.2.1
  exact ⟨p, t, h1, by omega, h3⟩
set_option maxRecDepth 100000 in
theorem p_page {A S en t : Nat} (h1 : A % 4096 = 0) (h6 : (A + S + 4095) / 4096 * 4096 ≤ en) (ht : t < (S + 4095) / 4096) : A + t * 4096 + 4096 ≤ en := by omega
theorem im_end (h : IM1 c en n F A B S W pf) {p t : Nat} (hp : p < c) (ht : t < (S p + 4095) / 4096) : A p + t * 4096 + 4096 ≤ en := by
  obtain ⟨a1, _, _, _, _, a6⟩ := h.1.2.1 p hp
  exact p_page a1 a6 ht
theorem im_val (h : IM1 c en n F A B S W pf) (st : Nat → Int32) {j : Nat} (hj : j < gsum (ptG pf) c + 1 + 1) : ∃ v, ST2 st pf c en j = nI v ∧ v % 4096 = 0 ∧ v ≤ 1073737728 := by
  have hen : en ≤ 1073733632 := h.1.1
  have he0 := h.2.1
  by_cases c1 : j = gsum (ptG pf) c + 1
  · exact ⟨en + 4096, by rw [c1, ST2_1], by omega, by omega⟩
  · by_cases c2 : j = gsum (ptG pf) c
    · exact ⟨en, by rw [c2, ST2_0], he0, by omega⟩
    · obtain ⟨p, t, hp, ht, e⟩ := im_ex h (show j < gsum (ptG pf) c from by omega)
      have h2 := im_end h hp ht
      have h3 := (im_at h st hp ht).2
      have h4 : A p % 4096 = 0 := (h.1.2.1 p hp).1
      exact ⟨A p + t * 4096, by rw [e]; exact h3, by omega, by omega⟩
theorem im_lt (h : IM1 c en n F A B S W pf) (st : Nat → Int32) {i j : Nat} (hij : i < j) (hj : j < gsum (ptG pf) c + 1 + 1) : tN (ST2 st pf c en i) < tN (ST2 st pf c en j) := by
  have hen : en ≤ 1073733632 := h.1.1
  by_cases d1 : i = gsum (ptG pf) c
  · have d2 : j = gsum (ptG pf) c + 1 := by omega
    rw [d2, ST2_1, d1, ST2_0, tN_nI (by omega), tN_nI (by omega)]
    omega
  · obtain ⟨p, t, hp, ht, e⟩ := im_ex h (show i < gsum (ptG pf) c from by omega)
    have b1 := im_end h hp ht
    rw [e, (im_at h st hp ht).2, tN_nI (by omega)]
    by_cases d2 : j = gsum (ptG pf) c + 1
    · rw [d2, ST2_1, tN_nI (by omega)]
      omega
    · by_cases d3 : j = gsum (ptG pf) c
      · rw [d3, ST2_0, tN_nI (by omega)]
        omega
      · obtain ⟨q, u, hq, hu, e2⟩ := im_ex h (show j < gsum (ptG pf) c from by omega)
        have b2 := im_end h hq hu
        rw [e2, (im_at h st hq hu).2, tN_nI (by omega)]
        have g1 : ptG pf p = (S p + 4095) / 4096 := (h.2.2.2 p hp).2.2.2.1
        have g2 : ptG pf q = (S q + 4095) / 4096 := (h.2.2.2 q hq).2.2.2.1
        rcases Nat.lt_trichotomy p q with o | o | o
        · have a1 := (h.1.2.1 p hp).1
          have a2 := h.1.2.2 p q o hq
          have := p_page (A := A p) (S := S p) (en := A q) a1 a2 ht
          omega
        · subst o
          omega
        · have := gsum_le (g := ptG pf) o
          omega
theorem im_yes (h : IM1 c en n F A B S W pf) (st : Nat → Int32) {j X : Nat} (hj : j < gsum (ptG pf) c + 1 + 1) (hX : X < 2 ^ 31) (e : ST2 st pf c en j = nI (X / 4096 * 4096)) : fdI (ST2 st pf c en) (nI X &&& (-4096)) (gsum (ptG pf) c + 1 + 1) 0 = some j := by
  rw [p_and4096 hX]
  refine fdI_yes _ _ (Nat.zero_le _) (by omega) e (fun q _ h2 h3 => ?_)
  rcases Nat.lt_trichotomy q j with o | o | o
  · have := im_lt h st o hj
    rw [e, h3] at this
    omega
  · exact o
  · have := im_lt h st o (show q < gsum (ptG pf) c + 1 + 1 from by omega)
    rw [e, h3] at this
    omega
theorem im_no (h : IM1 c en n F A B S W pf) (st : Nat → Int32) {X : Nat} (hX : X < 2 ^ 31) (h1 : ∀ p, p < c → ¬ (A p ≤ X ∧ X < (A p + S p + 4095) / 4096 * 4096)) (h2 : ¬ (en ≤ X ∧ X < en + 8192)) : fdI (ST2 st pf c en) (nI X &&& (-4096)) (gsum (ptG pf) c + 1 + 1) 0 = none := by
  rw [p_and4096 hX]
  have hle : X / 4096 * 4096 ≤ X := Nat.div_mul_le_self X 4096
  have hlt : X < X / 4096 * 4096 + 4096 := by omega
  have hen : en ≤ 1073733632 := h.1.1
  refine fdI_no _ _ (fun j _ hj e => ?_)
  by_cases d1 : j = gsum (ptG pf) c + 1
  · rw [d1, ST2_1, nI_eq (by omega) (by omega)] at e
    omega
  · by_cases d2 : j = gsum (ptG pf) c
    · rw [d2, ST2_0, nI_eq (by omega) (by omega)] at e
      omega
    · obtain ⟨p, t, hp, ht, e2⟩ := im_ex h (show j < gsum (ptG pf) c from by omega)
      have b := im_end h hp ht
      rw [e2, (im_at h st hp ht).2, nI_eq (by omega) (by omega)] at e
      have a1 := (h.1.2.1 p hp).1
      have b3 := p_page (A := A p) (S := S p) (en := (A p + S p + 4095) / 4096 * 4096) a1 (Nat.le_refl _) ht
      exact h1 p hp (by omega)
theorem im_neg (h : IM1 c en n F A B S W pf) (st : Nat → Int32) {x : Int32} (hx : x.toInt < 0) : fdI (ST2 st pf c en) (x &&& (-4096)) (gsum (ptG pf) c + 1 + 1) 0 = none := by
  refine fdI_no _ _ (fun j _ hj e => ?_)
  obtain ⟨v, h1, _, h3⟩ := im_val h st (show j < gsum (ptG pf) c + 1 + 1 from by omega)
  have h4 := x_neg hx
  rw [← e, h1, nI_toInt (by omega)] at h4
  omega
theorem psI_hit {x : Int32} {p : Nat} : ∀ c, p < c → inP A S x p → (∀ q, q < c → inP A S x q → q = p) → psI A S x c = nI p := by
  intro c
  induction c with
  | zero => intro h; omega
  | succ c ih =>
    intro hp hi hu
    rw [psI]
    by_cases d : inP A S x c
    · rw [if_pos d, hu c (Nat.lt_succ_self _) d]
    · rw [if_neg d]
      have : p ≠ c := fun e => d (by rw [← e]; exact hi)
      exact ih (by omega) hi (fun q h1 h2 => hu q (by omega) h2)
theorem psI_miss {x : Int32} : ∀ c, (∀ q, q < c → ¬ inP A S x q) → psI A S x c = -1 := by
  intro c
  induction c with
  | zero => intro _; rfl
  | succ c ih =>
    intro h
    rw [psI, if_neg (h c (Nat.lt_succ_self _))]
    exact ih (fun q hq => h q (by omega))
theorem im_uniq (h : IM1 c en n F A B S W pf) {x : Int32} {p q : Nat} (hp : p < c) (hq : q < c) (h1 : inP A S x p) (h2 : inP A S x q) : q = p := by
  obtain ⟨a1, a2⟩ := h1
  obtain ⟨b1, b2⟩ := h2
  rcases Nat.lt_trichotomy p q with o | o | o
  · have := h.1.2.2 p q o hq
    have : (((A p + S p + 4095) / 4096 * 4096 : Nat) : Int) ≤ (A q : Int) := Int.ofNat_le.mpr this
    omega
  · exact o.symm
  · have := h.1.2.2 q p o hp
    have : (((A q + S q + 4095) / 4096 * 4096 : Nat) : Int) ≤ (A p : Int) := Int.ofNat_le.mpr this
    omega
set_option maxRecDepth 100000 in
theorem p_off {A S X : Nat} (h1 : A % 4096 = 0) (h2 : A ≤ X) (h3 : X < (A + S + 4095) / 4096 * 4096) : (X - A) / 4096 < (S + 4095) / 4096 ∧ X / 4096 * 4096 = A + (X - A) / 4096 * 4096 ∧ X - X / 4096 * 4096 < 4096 ∧ (X - A) / 4096 * 4096 + (X - X / 4096 * 4096) = X - A := by omega
set_option maxRecDepth 100000 in
theorem p_off2 {E X : Nat} (h1 : E % 4096 = 0) (h2 : E ≤ X) (h3 : X < E + 4096) : X / 4096 * 4096 = E := by omega
theorem rdB_at {f : Nat → Int32} {X Y : Nat} (h1 : Y ≤ X) (h2 : X - Y < 4096) : rdB f (nI X - nI Y) = f (X - Y) &&& 255 := by
  unfold rdB
  rw [pk_sub h1, nI_toInt (by omega), if_pos (by omega)]
  rfl
/-- what is at an address, and its rights: the same on both sides -/
theorem at_rel (h : IM1 c en n F A B S W pf) (hc : c ≤ 8) (st : Nat → Int32) {PB : Nat → Nat → Int32} {fr tk yk : Nat → Int32} {pg : Nat} (hpg : ¬ pg = 0)
    (hB1 : ∀ p t x, p < c → t < (S p + 4095) / 4096 → x < 4096 → PB (gsum (ptG pf) p + t) x = if t * 4096 + x < B p then fr (F p + t * 4096 + x) else 0)
    (hB2 : ∀ x, x < 4096 → PB (gsum (ptG pf) c) x = 0) (hB3 : ∀ x, x < 4096 → PB (gsum (ptG pf) c + 1) x = yk x) (htk : ∀ x, x < n → tk x = fr x) (x : Int32) :
    atO (ST2 st pf c en) PB (gsum (ptG pf) c + 1 + 1) x = mAtO c F A B S tk pg (en + 8192) yk x := by
  have hen : en ≤ 1073733632 := h.1.1
  have he0 := h.2.1
  have hm1 : (-1 : Int32) < 0 := by decide
  unfold atO mAtO
  by_cases hx : x.toInt < 0
  · rw [im_neg h st hx, psI_miss c (fun q hq hi => by have := hi.1; omega), if_pos hm1]
    have h0 : nrO pg (en + 8192) x = 0 := by
      unfold nrO
      rw [if_neg hpg, if_neg (by omega), if_neg (by omega)]
    rw [h0, if_neg (by decide)]
    rfl
  · obtain ⟨X, hX, rfl⟩ := nI_of (p_nneg (k := x) (by omega))
    have eX : (nI X).toInt = (X : Int) := nI_toInt hX
    have hle : X / 4096 * 4096 ≤ X := Nat.div_mul_le_self X 4096
    by_cases hin : ∃ p, p < c ∧ inP A S (nI X) p
    · obtain ⟨p, hp, hi⟩ := hin
      have hi1 : A p ≤ X := by have := hi.1; rw [eX] at this; omega
      have hi2 : X < (A p + S p + 4095) / 4096 * 4096 := by have := hi.2; rw [eX] at this; omega
      obtain ⟨a1, a2, a3, a4, a5, a6⟩ := h.1.2.1 p hp
      obtain ⟨o1, o2, o3, o4⟩ := p_off (A := A p) (S := S p) a1 hi1 hi2
      obtain ⟨g1, g2⟩ := im_at h st hp o1
      rw [im_yes h st (show gsum (ptG pf) p + (X - A p) / 4096 < gsum (ptG pf) c + 1 + 1 from by omega) hX (by rw [g2, o2]), psI_hit c hp hi (fun q hq h9 => im_uniq h hp hq hi h9), if_neg (nI_pos (by omega)), tN_nI (by omega), eX, Int.toNat_natCast]
      show rdB (PB (gsum (ptG pf) p + (X - A p) / 4096)) (nI X - ST2 st pf c en (gsum (ptG pf) p + (X - A p) / 4096)) = _
      rw [g2, ← o2, rdB_at hle o3, hB1 p _ _ hp o1 o3, o4]
      have a4' : F p + B p ≤ n := a4
      by_cases d : X - A p < B p
      · rw [if_pos d, if_neg (show ¬ B p ≤ X - A p from by omega), htk _ (show F p + (X - A p) < n from by omega), Nat.add_assoc, o4]
      · rw [if_neg d, if_pos (show B p ≤ X - A p from by omega)]
        rfl
    · have hmiss : ∀ q, q < c → ¬ inP A S (nI X) q := fun q hq h9 => hin ⟨q, hq, h9⟩
      rw [psI_miss c hmiss, if_pos hm1]
      by_cases d1 : en ≤ X ∧ X < en + 4096
      · have e1 := p_off2 he0 d1.1 d1.2
        have e2 : ST2 st pf c en (gsum (ptG pf) c) = nI en := ST2_0 st pf c en
        rw [im_yes h st (show gsum (ptG pf) c < gsum (ptG pf) c + 1 + 1 from by omega) hX (by rw [e2, e1])]
        have h0 : nrO pg (en + 8192) (nI X) = 1 := by
          unfold nrO
          rw [if_neg hpg, eX, if_neg (by omega), if_pos (by omega)]
        rw [h0, if_neg (by decide)]
        show rdB (PB (gsum (ptG pf) c)) (nI X - ST2 st pf c en (gsum (ptG pf) c)) = _
        rw [e2, rdB_at d1.1 (by omega), hB2 _ (by omega)]
        rfl
      · by_cases d2 : en + 4096 ≤ X ∧ X < en + 4096 + 4096
        · have e1 := p_off2 (E := en + 4096) (by omega) d2.1 d2.2
          have e2 : ST2 st pf c en (gsum (ptG pf) c + 1) = nI (en + 4096) := ST2_1 st pf c en
          rw [im_yes h st (show gsum (ptG pf) c + 1 < gsum (ptG pf) c + 1 + 1 from by omega) hX (by rw [e2, e1])]
          have h0 : nrO pg (en + 8192) (nI X) = 2 := by
            unfold nrO
            rw [if_neg hpg, eX, if_pos (by omega)]
          rw [h0, if_pos rfl, eX, Int.toNat_natCast, show en + 8192 - 4096 = en + 4096 from by omega]
          show rdB (PB (gsum (ptG pf) c + 1)) (nI X - ST2 st pf c en (gsum (ptG pf) c + 1)) = _
          rw [e2, rdB_at d2.1 (by omega), hB3 _ (by omega)]
        · rw [im_no h st hX (fun p hp h9 => hmiss p hp (by unfold inP; rw [eX]; omega)) (by omega)]
          have h0 : nrO pg (en + 8192) (nI X) = 0 := by
            unfold nrO
            rw [if_neg hpg, eX, if_neg (by omega), if_neg (by omega)]
          rw [h0, if_neg (by decide)]
          rfl
theorem fl_rel (h : IM1 c en n F A B S W pf) (hc : c ≤ 8) (st : Nat → Int32) {RT : Nat → Int32} {pg : Nat} (hpg : ¬ pg = 0)
    (hR1 : ∀ p t, p < c → t < (S p + 4095) / 4096 → RT (gsum (ptG pf) p + t) = W p)
    (hR2 : RT (gsum (ptG pf) c) = 3) (hR3 : RT (gsum (ptG pf) c + 1) = 11) (x : Int32) :
    flO (ST2 st pf c en) RT (gsum (ptG pf) c + 1 + 1) x = mFlO c A S W pg (en + 8192) x := by
  have hen : en ≤ 1073733632 := h.1.1
  have he0 := h.2.1
  have hm1 : (-1 : Int32) < 0 := by decide
  unfold flO mFlO
  by_cases hx : x.toInt < 0
  · rw [im_neg h st hx, psI_miss c (fun q hq hi => by have := hi.1; omega), if_pos hm1]
    have h0 : nrO pg (en + 8192) x = 0 := by
      unfold nrO
      rw [if_neg hpg, if_neg (by omega), if_neg (by omega)]
    rw [h0, if_neg (by decide), if_neg (by decide)]
  · obtain ⟨X, hX, rfl⟩ := nI_of (p_nneg (k := x) (by omega))
    have eX : (nI X).toInt = (X : Int) := nI_toInt hX
    by_cases hin : ∃ p, p < c ∧ inP A S (nI X) p
    · obtain ⟨p, hp, hi⟩ := hin
      have hi1 : A p ≤ X := by have := hi.1; rw [eX] at this; omega
      have hi2 : X < (A p + S p + 4095) / 4096 * 4096 := by have := hi.2; rw [eX] at this; omega
      obtain ⟨a1, a2, a3, a4, a5, a6⟩ := h.1.2.1 p hp
      obtain ⟨o1, o2, o3, o4⟩ := p_off (A := A p) (S := S p) a1 hi1 hi2
      obtain ⟨g1, g2⟩ := im_at h st hp o1
      rw [im_yes h st (show gsum (ptG pf) p + (X - A p) / 4096 < gsum (ptG pf) c + 1 + 1 from by omega) hX (by rw [g2, o2]), psI_hit c hp hi (fun q hq h9 => im_uniq h hp hq hi h9), if_neg (nI_pos (by omega)), tN_nI (by omega)]
      exact hR1 p _ hp o1
    · have hmiss : ∀ q, q < c → ¬ inP A S (nI X) q := fun q hq h9 => hin ⟨q, hq, h9⟩
      rw [psI_miss c hmiss, if_pos hm1]
      by_cases d1 : en ≤ X ∧ X < en + 4096
      · have e1 := p_off2 he0 d1.1 d1.2
        have e2 : ST2 st pf c en (gsum (ptG pf) c) = nI en := ST2_0 st pf c en
        rw [im_yes h st (show gsum (ptG pf) c < gsum (ptG pf) c + 1 + 1 from by omega) hX (by rw [e2, e1])]
        have h0 : nrO pg (en + 8192) (nI X) = 1 := by
          unfold nrO
          rw [if_neg hpg, eX, if_neg (by omega), if_pos (by omega)]
        rw [h0, if_neg (by decide), if_pos rfl]
        exact hR2
      · by_cases d2 : en + 4096 ≤ X ∧ X < en + 4096 + 4096
        · have e1 := p_off2 (E := en + 4096) (by omega) d2.1 d2.2
          have e2 : ST2 st pf c en (gsum (ptG pf) c + 1) = nI (en + 4096) := ST2_1 st pf c en
          rw [im_yes h st (show gsum (ptG pf) c + 1 < gsum (ptG pf) c + 1 + 1 from by omega) hX (by rw [e2, e1])]
          have h0 : nrO pg (en + 8192) (nI X) = 2 := by
            unfold nrO
            rw [if_neg hpg, eX, if_pos (by omega)]
          rw [h0, if_pos rfl]
          exact hR3
        · rw [im_no h st hX (fun p hp h9 => hmiss p hp (by unfold inP; rw [eX]; omega)) (by omega)]
          have h0 : nrO pg (en + 8192) (nI X) = 0 := by
            unfold nrO
            rw [if_neg hpg, eX, if_neg (by omega), if_neg (by omega)]
          rw [h0, if_neg (by decide), if_neg (by decide)]
end IM
