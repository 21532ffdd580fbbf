/-! THE TWO SIDES COMPUTE THE SAME: a load, and what holds between the calls -/
theorem cpn_lt (f g : Nat → Nat) {k x : Nat} (h : x < k) : cpn f g k x = f x := by rw [cpn_eq, if_pos h]
theorem cpk_lt (f g : Nat → Int32) {k x : Nat} (h : x < k) : cpk f g k x = f x := by rw [cpk_eq, if_pos h]
theorem IM1_cp {c en n : Nat} {F A B S : Nat → Nat} {W : Nat → Int32} {pf : Nat → Nat → Int32} (h : IM1 c en n F A B S W pf) (gF gA gB gS : Nat → Nat) (gW : Nat → Int32) : IM1 c en n (cpn F gF c) (cpn A gA c) (cpn B gB c) (cpn S gS c) (cpk W gW c) pf := by
  obtain ⟨⟨m1, m2, m3⟩, h2, h3, h4⟩ := h
  refine ⟨⟨m1, fun p hp => ?_, fun p q hpq hq => ?_⟩, h2, h3, fun p hp => ?_⟩
  · show cpn A gA c p % 4096 = 0 ∧ cpn A gA c p + cpn S gS c p ≤ 1073733632 ∧ cpn B gB c p ≤ cpn S gS c p ∧ cpn F gF c p + cpn B gB c p ≤ n ∧ 0 < cpn S gS c p ∧ (cpn A gA c p + cpn S gS c p + 4095) / 4096 * 4096 ≤ en
    rw [cpn_lt A gA hp, cpn_lt S gS hp, cpn_lt B gB hp, cpn_lt F gF hp]
    exact m2 p hp
  · show (cpn A gA c p + cpn S gS c p + 4095) / 4096 * 4096 ≤ cpn A gA c q
    have hq' : q < c := hq
    rw [cpn_lt A gA (Nat.lt_trans hpq hq'), cpn_lt S gS (Nat.lt_trans hpq hq'), cpn_lt A gA hq']
    exact m3 p q hpq hq
  · rw [cpn_lt A gA hp, cpn_lt S gS hp, cpn_lt B gB hp, cpn_lt F gF hp, cpk_lt W gW hp]
    exact h4 p hp
/-- the images of both sides answer the same, whatever is asked -/
def RIM (ic : Nat) (ie ip iz ia : Int32) (st rt : Nat → Int32) (pb : Nat → Nat → Int32) (pg : Nat) (ye ys : Int32) (yt yg yp : Nat) (tk : Nat → Int32) (gF gA gB gS : Nat → Nat) (gW yk : Nat → Int32) : Prop :=
  (∀ x, atO st pb ic x = mAtO yp gF gA gB gS tk pg yt yk x) ∧ (∀ x, flO st rt ic x = mFlO yp gA gS gW pg yt x) ∧ (∀ x, abO ie ip iz ia ic x = mabO pg ye ys yt yg x) ∧ ic ≤ 32 ∧ yp ≤ 8 ∧ (∀ k, k < yp → gA k + gS k ≤ 1073733632) ∧ (∀ k, k < yp → gF k + gB k ≤ 65536) ∧ pg ≤ 32 ∧ (pg = 0 ∨ 8192 ≤ yt) ∧ yt ≤ 1073741824
theorem ab_out {x : Int32} (h : x.toInt < 0 ∨ 4 < x.toInt) : x < 0 ∨ ¬ x ≤ 4 := by
  have h4 : (4 : Int32).toInt = 4 := rfl
  have h0 : (0 : Int32).toInt = 0 := rfl
  rw [Int32.lt_iff_toInt_lt, Int32.le_iff_toInt_le, h4, h0]
  omega
theorem RIM_0 : RIM 0 0 0 0 0 (fun _ => 0) (fun _ => 0) (fun _ _ => 0) 0 0 0 0 0 0 (fun _ => 0) (fun _ => 0) (fun _ => 0) (fun _ => 0) (fun _ => 0) (fun _ => 0) (fun _ => 0) := by
  have hm1 : (-1 : Int32) < 0 := by decide
  have h0 : ∀ x, nrO 0 0 x = 0 := fun x => by unfold nrO; rw [if_pos rfl]
  refine ⟨fun x => ?_, fun x => ?_, fun x => ?_, by decide, by decide, fun k hk => absurd hk (Nat.not_lt_zero _), fun k hk => absurd hk (Nat.not_lt_zero _), by decide, Or.inl rfl, by decide⟩
  · unfold atO mAtO
    rw [show psI (fun _ => 0) (fun _ => 0) x 0 = -1 from rfl, if_pos hm1, h0, if_neg (by decide)]
    rfl
  · unfold flO mFlO
    rw [show psI (fun _ => 0) (fun _ => 0) x 0 = -1 from rfl, if_pos hm1, h0, if_neg (by decide), if_neg (by decide)]
    rfl
  · unfold abO mabO
    rcases sw5 x with rfl | rfl | rfl | rfl | rfl | h
    · decide
    · decide
    · decide
    · decide
    · decide
    · rw [if_pos (ab_out h), if_neg (sw5d h (by decide)), if_neg (sw5d h (by decide)), if_neg (sw5d h (by decide)), if_neg (sw5d h (by decide)), if_neg (sw5d h (by decide))]
theorem ms_en {f : Nat → Int32} {n q : Nat} {t : MS} (h : t.2.1 % 4096 = 0) : (msStep f n q t).2.1 % 4096 = 0 := by
  unfold msStep
  by_cases c1 : hdSkip f q
  · rw [if_pos c1]; exact h
  · rw [if_neg c1]
    by_cases c2 : hdGood f n t.2.1 q
    · rw [if_pos c2]
      exact Nat.mul_mod_left _ _
    · rw [if_neg c2]; exact h
theorem md_en (f : Nat → Int32) (n b : Nat) : ∀ (k j : Nat) (t : MS), t.2.1 % 4096 = 0 → (mdRun f n b k j t).2.2.1 % 4096 = 0 := by
  intro k
  induction k with
  | zero => intro j t h; exact h
  | succ k ih =>
    intro j t h
    unfold mdRun
    by_cases c : hdSkip f (b + 32 * j) ∨ hdGood f n t.2.1 (b + 32 * j)
    · rw [if_pos c]
      exact ih (j + 1) _ (ms_en h)
    · rw [if_neg c]
      exact h
theorem gs_ws {pf : Nat → Nat → Int32} {S : Nat → Nat} {c : Nat} (h : ∀ p, p < c → tN (pf p 3) = (S p + 4095) / 4096) : ∀ q, q ≤ c → gsum (ptG pf) q = wsum S q := by
  intro q
  induction q with
  | zero => intro _; rfl
  | succ q ih =>
    intro hq
    rw [gsum, wsum, ih (by omega), Nat.mul_div_cancel _ (by decide), show ptG pf q = tN (pf q 3) from rfl, h q (by omega)]
set_option maxRecDepth 100000 in
theorem load_ok {n : Nat} {fr : Nat → Int32} {a : Nat} {z : Nat → Nat} (pf : Nat → Nat → Int32) (m5 : M5) {k : Int32} (hn : n ≤ 65536) (ha : a ≤ 32) (h0 : mwC n fr m5 (rm2 k) = 0) (hsp0 : 0 ≤ spOf z a) :
    ∃ (c en pp P : Nat) (pf2 : Nat → Nat → Int32) (F A B S : Nat → Nat) (W : Nat → Int32), (plAll fr n pf).2 = (c, en, pp, pf2) ∧ mwP n fr m5 = (c, en, F, A, B, S, W) ∧ jdC n fr a z pf (rmN k) = 0 ∧ rch n fr ∧ c ≤ 8 ∧ gsum (ptG pf2) c + 2 ≤ 32 ∧ (∀ p, p < c → tN (pf2 p 0) + tN (pf2 p 1) ≤ n) ∧ spOf z a = nI P ∧ P + 4 * (a + 1) ≤ tpN z a ∧ en ≤ 1073733632 ∧ (∀ i, i < c → S i ≤ 1073733632) ∧ IM1 c en n F A B S W pf2 ∧ gsum (ptG pf2) c = wsum S c := by
  obtain ⟨j1, -, hR, hall, hroom⟩ := (jd_mw n fr a z pf m5 k).2 h0
  obtain ⟨-, hPM⟩ := PM_all fr n pf m5
  obtain ⟨hMI, hcnt⟩ := MI_all fr n m5
  have hen := md_en fr n (nbN fr 28 4) (nHd fr) 0 (0, 0, m5) rfl
  have hmp : mwP n fr m5 = (mdAll fr n m5).2 := by rw [mwP, if_pos hR]
  have hrch : rch n fr := ⟨(mk2_iff n fr).mp hR.1, (kd2_iff fr).mp hR.2.1, (hin2_iff n fr).mp hR.2.2⟩
  have h8 : nHd fr ≤ 8 := hrch.2.1.2.2.2.2
  have hr32 := rmN_le k
  have hen' : (mdAll fr n m5).2.2.1 % 4096 = 0 := hen
  obtain ⟨P, hP1, hP2, -⟩ := (p_sp (z := z) ha).1 hsp0
  rw [hmp]
  rcases hpl : (plAll fr n pf).2 with ⟨c0, en0, pp, pf2⟩
  rcases hmd : (mdAll fr n m5).2 with ⟨c, en, F, A, B, S, W⟩
  rw [hpl, hmd] at hPM
  rw [hmd] at hMI hcnt hen'
  rw [hpl] at hroom
  obtain ⟨e1, e2, e3, e4⟩ := hPM
  have e1 : c0 = c := e1
  have e2 : en0 = en := e2
  have e3 : pp = 2 + wsum S c := e3
  have hroom : pp ≤ rmN k := hroom
  have hcnt : c ≤ nHd fr := hcnt
  subst e1; subst e2
  have hT : ∀ p, p < c0 → tN (pf2 p 0) = F p ∧ tN (pf2 p 1) = B p ∧ tN (pf2 p 2) = A p ∧ tN (pf2 p 3) = (S p + 4095) / 4096 ∧ pf2 p 4 = W p := by
    intro p hp
    obtain ⟨q0, q1, q2, q3, q4⟩ := e4 p hp
    obtain ⟨b1, b2, b3, b4, b5, b6⟩ := hMI.2.1 p hp
    have q0 : pf2 p 0 = nI (F p) := q0
    have q1 : pf2 p 1 = nI (B p) := q1
    have q2 : pf2 p 2 = nI (A p) := q2
    have q3 : pf2 p 3 = nI ((S p + 4096 - 1) / 4096) := q3
    have b2 : A p + S p ≤ 1073733632 := b2
    have b3 : B p ≤ S p := b3
    have b4 : F p + B p ≤ n := b4
    rw [q0, q1, q2, q3, tN_nI (by omega), tN_nI (by omega), tN_nI (by omega), tN_nI (by omega)]
    exact ⟨rfl, rfl, rfl, rfl, q4⟩
  have hgw := gs_ws (pf := pf2) (S := S) (c := c0) (fun p hp => (hT p hp).2.2.2.1) c0 (Nat.le_refl _)
  refine ⟨c0, en0, pp, P, pf2, F, A, B, S, W, rfl, rfl, j1 hsp0, hrch, by omega, by omega, fun p hp => ?_, hP1, hP2, hMI.1, fun i hi => ?_, ⟨hMI, hen', hn, hT⟩, hgw⟩
  · rw [(hT p hp).1, (hT p hp).2.1]
    exact (hMI.2.1 p hp).2.2.2.1
  · have b2 : A i + S i ≤ 1073733632 := (hMI.2.1 i hi).2.1
    omega
/-- the image behind a load -/
abbrev PB2 (pb : Nat → Nat → Int32) (fr : Nat → Int32) (pf : Nat → Nat → Int32) (c : Nat) (ar : Nat → Int32) (z : Nat → Nat) (P : Nat) (s0 : Int32) (a : Nat) : Nat → Nat → Int32 := upr (lpZ (lpZ (lyB pb fr pf c) (gsum (ptG pf) c)) (gsum (ptG pf) c + 1)) (gsum (ptG pf) c + 1) (skT ((lpZ (lpZ (lyB pb fr pf c) (gsum (ptG pf) c)) (gsum (ptG pf) c + 1)) (gsum (ptG pf) c + 1)) ar z P s0 a)
abbrev RT2 (rt : Nat → Int32) (pf : Nat → Nat → Int32) (c : Nat) : Nat → Int32 := upd (upd (lyR rt pf c) (gsum (ptG pf) c) 3) (gsum (ptG pf) c + 1) 11
theorem load_rim {n a c en P : Nat} {fr ar le sk : Nat → Int32} {z : Nat → Nat} {pf : Nat → Nat → Int32} {F A B S : Nat → Nat} {W : Nat → Int32} (st rt : Nat → Int32) (pb : Nat → Nat → Int32) (tk : Nat → Int32) (gF gA gB gS : Nat → Nat) (gW yk : Nat → Int32) (w24 : Int32)
    (h : IM1 c en n F A B S W pf) (hc : c ≤ 8) (hsum : gsum (ptG pf) c + 2 ≤ 32) (hgw : gsum (ptG pf) c = wsum S c) (ha : a ≤ 32) (hal : AL ar le z) :
    RIM (gsum (ptG pf) c + 1 + 1) w24 (ST2 st pf c en (gsum (ptG pf) c + 1) + nI P) (nI (en + 8192)) (nI a) (ST2 st pf c en) (RT2 rt pf c) (PB2 pb fr pf c ar z P (ST2 st pf c en (gsum (ptG pf) c + 1)) a)
      (2 + wsum S c) w24 (nI (en + 8192 - 4096 + P)) (en + 8192) a c (cpk fr tk n) (cpn F gF c) (cpn A gA c) (cpn B gB c) (cpn S gS c) (cpk W gW c) (cpk (mkT (zf 4096 sk) le z P (en + 8192) a) yk 4096) := by
  have h' := IM1_cp h gF gA gB gS gW
  have hen : en ≤ 1073733632 := h.1.1
  have hpg : ¬ 2 + wsum S c = 0 := by omega
  refine ⟨fun x => ?_, fun x => ?_, fun x => ?_, by omega, hc, fun k hk => (h'.1.2.1 k hk).2.1, fun k hk => Nat.le_trans (h'.1.2.1 k hk).2.2.2.1 h.2.2.1, by omega, Or.inr (by omega), by omega⟩
  · refine at_rel (fr := fr) h' hc st hpg (fun p t x hp ht hx => ?_) (fun x hx => ?_) (fun x hx => ?_) (fun x hx => cpk_lt fr tk hx) x
    · have hlt := (im_at h' st hp ht).1
      obtain ⟨e0, e1, e2, e3, e4⟩ := h'.2.2.2 p hp
      rw [← e3] at ht
      rw [← e0, ← e1, ← lyB_at pb fr pf c p t x hp ht hx]
      show upr _ _ _ _ x = _
      rw [upr_ne (by omega), lpZ, upr_ne (by omega), lpZ, upr_ne (by omega)]
    · show upr _ _ _ _ x = _
      rw [upr_ne (by omega), lpZ, upr_ne (by omega), lpZ, upr_eq, zf_lt _ hx]
    · show upr _ _ _ _ x = _
      rw [upr_eq, cpk_lt _ _ hx, ST2_1]
      refine sk_mk rfl (fun x hx => ?_) hal a ha x hx
      rw [lpZ, upr_eq, zf_lt _ hx, zf_lt _ hx]
  · refine fl_rel h' hc st hpg (fun p t hp ht => ?_) ?_ ?_ x
    · have hlt := (im_at h' st hp ht).1
      obtain ⟨e0, e1, e2, e3, e4⟩ := h'.2.2.2 p hp
      rw [← e3] at ht
      show upd _ _ _ _ = _
      rw [pk_un (by omega), pk_un (by omega), lyR_at rt pf c p t hp ht, e4]
    · show upd _ _ _ _ = _
      rw [pk_un (by omega), pk_us]
    · exact pk_us
  · have ep : ST2 st pf c en (gsum (ptG pf) c + 1) + nI P = nI (en + 8192 - 4096 + P) := by rw [ST2_1, nI_add, show en + 8192 - 4096 = en + 4096 from by omega]
    rw [ep, hgw, show wsum S c + 1 + 1 = 2 + wsum S c from by omega]
    unfold abO mabO
    rcases sw5 x with rfl | rfl | rfl | rfl | rfl | hx
    · rw [if_pos rfl, if_neg (by decide), if_neg hpg, if_pos rfl]
    · rw [if_neg (by decide), if_pos rfl, if_neg (by decide), if_neg hpg, if_neg (by decide), if_pos rfl]
    · rw [if_neg (by decide), if_neg (by decide), if_pos rfl, if_neg (by decide), if_neg hpg, if_neg (by decide), if_neg (by decide), if_pos rfl]
    · rw [if_neg (by decide), if_neg (by decide), if_neg (by decide), if_pos rfl, if_neg (by decide), if_neg hpg, if_neg (by decide), if_neg (by decide), if_neg (by decide), if_pos rfl]
    · rw [if_neg (by decide), if_neg (by decide), if_neg (by decide), if_neg (by decide), if_pos rfl, if_neg (by decide), if_neg hpg, if_neg (by decide), if_neg (by decide), if_neg (by decide), if_neg (by decide)]
    · rw [if_pos (ab_out hx), if_neg (sw5d hx (by decide)), if_neg (sw5d hx (by decide)), if_neg (sw5d hx (by decide)), if_neg (sw5d hx (by decide)), if_neg (sw5d hx (by decide))]
/-! bytes stay bytes -/
theorem apW_fit {fr : Nat → Int32} {n : Nat} {w : Int32} (h : sb_Fit fr) : sb_Fit (apW fr n w) := sb_fitU (sb_fitU (sb_fitU (sb_fitU h (pk_fb _)) (pk_fb _)) (pk_fb _)) (pk_fb _)
theorem fdF_fit {fr : Nat → Int32} {n : Nat} {w1 w2 w3 w4 w5 : Int32} (h : sb_Fit fr) : sb_Fit (fdF n fr w1 w2 w3 w4 w5) := by
  unfold fdF
  by_cases c : n + 20 ≤ 65536
  · rw [if_pos c]; exact apW_fit (apW_fit (apW_fit (apW_fit (apW_fit h))))
  · rw [if_neg c]; exact h
theorem fbWr_fit {fr : Nat → Int32} {M n : Nat} {k w : Int32} (h : sb_Fit fr) : sb_Fit (fbWr M n fr k w) := by
  unfold fbWr
  by_cases c : 0 ≤ k.toInt ∧ k.toInt + M ≤ (n : Int)
  · rw [if_pos c]; exact wrN_fit h _ _ _
  · rw [if_neg c]; exact h
theorem stF_fit {fr : Nat → Int32} {n : Nat} {k b : Int32} (h : sb_Fit fr) : sb_Fit (stF n fr k b) := by
  unfold stF
  by_cases c : isB b
  · rw [if_pos c]; exact fbWr_fit h
  · rw [if_neg c]; exact h
theorem ptF_fit {fr : Nat → Int32} {n : Nat} {k kn w : Int32} (h : sb_Fit fr) : sb_Fit (ptF n fr k kn w) := by
  unfold ptF
  by_cases c : mOK kn
  · rw [if_pos c]; exact fbWr_fit h
  · rw [if_neg c]; exact h
theorem exA_fit {ar : Nat → Int32} {z : Nat → Nat} {b : Nat} {w : Int64} (h : sb_Fit ar) (t : Nat) : sb_Fit (exA ar z b w t) := by
  induction t with
  | zero => exact h
  | succ t ih =>
    rw [exA]
    by_cases c : lby w t = 0
    · rw [if_pos c]; exact ih
    · rw [if_neg c]; exact sb_fitU ih (pk_fb _)
theorem mxA_fit {le : Nat → Int32} {z : Nat → Nat} {b : Nat} {w : Int64} (h : sb_Fit le) (t : Nat) : sb_Fit (mxA le z b w t) := by
  induction t with
  | zero => exact h
  | succ t ih =>
    rw [mxA]
    by_cases c : lby w t = 0
    · rw [if_pos c]; exact ih
    · rw [if_neg c]; exact sb_fitU ih (pk_fb _)
theorem exFA_fit {a : Nat} {ar : Nat → Int32} {z : Nat → Nat} {w : Int64} (h : sb_Fit ar) : sb_Fit (exFA a ar z w) := by
  unfold exFA
  by_cases c : 0 < a ∧ z (a - 1) + ltN w 8 ≤ 127
  · rw [if_pos c]; exact exA_fit h 8
  · rw [if_neg c]; exact h
theorem mxFA_fit {a : Nat} {le : Nat → Int32} {z : Nat → Nat} {w : Int64} (h : sb_Fit le) : sb_Fit (mxFA a le z w) := by
  unfold mxFA
  by_cases c : 0 < a ∧ z (a - 1) + ltN w 8 ≤ 127
  · rw [if_pos c]; exact mxA_fit h 8
  · rw [if_neg c]; exact h
theorem zero_fit : sb_Fit (fun _ => 0) := fun _ => (show fits .byte (.int 0) = true from by decide)
theorem fdN_le {n : Nat} (h : n ≤ 65536) : fdN n ≤ 65536 := by
  unfold fdN
  split <;> omega
theorem fbCut_le {n : Nat} {k : Int32} (h : n ≤ 65536) : fbCut n k ≤ 65536 := by
  unfold fbCut
  split <;> omega
theorem agN_le {a : Nat} (h : a ≤ 32) : agN a ≤ 32 := by
  unfold agN
  split <;> omega
/-- what holds between the calls -/
def LR (n a : Nat) (fr ar le sk : Nat → Int32) (z : Nat → Nat) : Prop := n ≤ 65536 ∧ a ≤ 32 ∧ (∀ j, z j ≤ 127) ∧ sb_Fit fr ∧ sb_Fit ar ∧ sb_Fit le ∧ sb_Fit sk ∧ AL ar le z
theorem LR_0 : LR 0 0 (fun _ => 0) (fun _ => 0) (fun _ => 0) (fun _ => 0) (fun _ => 0) := ⟨by decide, by decide, fun _ => Nat.zero_le _, zero_fit, zero_fit, zero_fit, zero_fit, fun _ _ _ _ => rfl⟩
