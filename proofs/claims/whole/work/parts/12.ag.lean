set_option maxHeartbeats 4000000 in
set_option maxRecDepth 100000 in
theorem c_ag_open (l : Launch) (dC : Nat → ClassId) (dI : Nat → Nat → Nat) (ad : Nat → Nat) (ck : Nat → ClassId) (rf : Int32) (n : Nat) (fr : Nat → Int32) (a : Nat) (ar : Nat → Int32) (z : Nat → Nat) (pc : Nat) (pe : Int32) (pt pp : Nat) (pf : Nat → Nat → Int32) (ic : Nat) (ie ip iz ia : Int32) (st rt : Nat → Int32) (pb : Nat → Nat → Int32) (ha : a ≤ 32) (sz : Nat) : Met l y_AG_open w_AG_open { frames := 0, cells := 0, slots := 0, locals := 0 } (va_Pc [.ref (ad 3)] (xP (dC, dI) (tyG ck) (wsG ad ck rf n fr a ar z pc pe pt pp pf ic ie ip iz ia st rt pb) sz)) (xQi (dC, dI) (tyG ck) (va_A (wsG ad ck rf n fr a ar z pc pe pt pp pf ic ie ip iz ia st rt pb) sz) (wsG ad ck rf n fr (agN a) ar (agZ a z) pc pe pt pp pf ic ie ip iz ia st rt pb) (fun r => r = bI (a < 32))) 0 0 (va_A (wsG ad ck rf n fr a ar z pc pe pt pp pf ic ie ip iz ia st rt pb) sz) := by
  refine xof (cc := b_AG_open) (maxL := 1) (ret := (some .boolean)) (own := R_AG) (Qc := fun A => (xQi (dC, dI) (tyG ck) A (wsG ad ck rf n fr (agN a) ar (agZ a z) pc pe pt pp pf ic ie ip iz ia st rt pb) (fun r => r = bI (a < 32)))) (by decide) rfl rfl (Nat.le_of_ble_eq_true rfl) ?_ sz
  intro p e s m below meth c A C hnm hK hP hD hA hN hZ hS ls hl
  obtain ⟨hx, hb, hr, hml, hown, hts, hlocks⟩ := C
  have hl : lv_has ls 1 [(0, .ref (ad 3))] := hl
  refine lv_aload_n hx hb d_AG_open_0 rfl (lv_at hl 0 rfl) ?_
  refine va_get (D := (dC, dI)) (ci := 0) (v := .int (nI a)) (C := R_AG) (T := T_AG) (N := 3) hx hb hts i_AG hown hK hP 3 rfl rfl 2 (by decide) (hts _ wd_58) (fun _ h9 => h9) rfl d_AG_open_1 ?_
  refine lv_aload_n hx hb d_AG_open_4 rfl (lv_at hl 0 rfl) ?_
  refine va_get (D := (dC, dI)) (ci := 0) (v := .ref (ad 5)) (C := R_AG) (T := T_AG) (N := 3) hx hb hts i_AG hown hK hP 3 rfl rfl 1 (by decide) (hts _ wd_57) (fun _ h9 => h9) rfl d_AG_open_5 ?_
  refine va_alen (v := 32) hx hb hK hP 5 1 rfl rfl rfl d_AG_open_8 ?_
  refine lv_icmp_lt (tgt := 14) hx hb d_AG_open_9 (by decide) (fun c_1 => ?_) (fun c_1 => ?_)
  · skip
    have c_1 : a < 32 := (nI_ltI (a := a) (b := 32) (by omega) (by omega)).mp c_1
    refine lv_aload_n hx hb d_AG_open_14 rfl (lv_at hl 0 rfl) ?_
    refine va_get (D := (dC, dI)) (ci := 0) (v := .ref (ad 5)) (C := R_AG) (T := T_AG) (N := 3) hx hb hts i_AG hown hK hP 3 rfl rfl 1 (by decide) (hts _ wd_57) (fun _ h9 => h9) rfl d_AG_open_15 ?_
    refine lv_aload_n hx hb d_AG_open_18 rfl (lv_at hl 0 rfl) ?_
    refine va_get (D := (dC, dI)) (ci := 0) (v := .int (nI a)) (C := R_AG) (T := T_AG) (N := 3) hx hb hts i_AG hown hK hP 3 rfl rfl 2 (by decide) (hts _ wd_58) (fun _ h9 => h9) rfl d_AG_open_19 ?_
    refine lv_iconst (v := 0) hx hb d_AG_open_22 (by decide) ?_
    refine xiast (k := a) (ws1 := wsG ad ck rf n fr a ar (upn z a 0) pc pe pt pp pf ic ie ip iz ia st rt pb) hx hb hK hP hD hS 5 1 rfl rfl (rfl) (by omega) (by decide) wsG_putZ d_AG_open_23 (fun H locs hP hD hS => ?_)
    refine lv_aload_n hx hb d_AG_open_24 rfl (lv_at hl 0 rfl) ?_
    refine lv_dup hx hb d_AG_open_25 rfl ?_
    refine va_get (D := (dC, dI)) (ci := 0) (v := .int (nI a)) (C := R_AG) (T := T_AG) (N := 3) hx hb hts i_AG hown hK hP 3 rfl rfl 2 (by decide) (hts _ wd_58) (fun _ h9 => h9) rfl d_AG_open_26 ?_
    refine lv_iconst (v := 1) hx hb d_AG_open_29 (by decide) ?_
    refine lv_iadd hx hb d_AG_open_30 ?_
    refine xtopi (y := nI (a + 1)) (nI_add (a) (1)) ?_
    refine va_put (D := (dC, dI)) (ci := 0) (v := .int (nI (a + 1))) (ty := .int) (C := R_AG) (T := T_AG) (N := 3) hx hb hts i_AG t_AG k_AG n_AG hown hK hP hD hS 3 rfl rfl 2 (by decide) (hts _ wd_58) (fun _ h9 => h9) rfl (by decide +kernel) rfl rfl (Nat.le_of_ble_eq_true rfl) d_AG_open_31 (fun H locs hP hD hS => ?_)
    have hP : va_P (dC, dI) vwCl (wsG ad ck rf n fr (a + 1) ar (upn z a 0) pc pe pt pp pf ic ie ip iz ia st rt pb) H := hP
    have hD : va_D A (wsG ad ck rf n fr (a + 1) ar (upn z a 0) pc pe pt pp pf ic ie ip iz ia st rt pb) := hD
    refine lv_iconst (v := 1) hx hb d_AG_open_34 (by decide) ?_
    have hw9 : wsG ad ck rf n fr (a + 1) ar (upn z a 0) pc pe pt pp pf ic ie ip iz ia st rt pb = wsG ad ck rf n fr (agN a) ar (agZ a z) pc pe pt pp pf ic ie ip iz ia st rt pb := by simp only [agN, agZ]; rw [if_pos c_1, if_pos c_1]
    rw [hw9] at hP hD
    exact xreti (v := 1) hx hb hr hlocks hK hP hD hS (rfl) (bI_1 c_1) d_AG_open_35
  · skip
    have c_1 : ¬ (a < 32) := fun h9 => c_1 ((nI_ltI (a := a) (b := 32) (by omega) (by omega)).mpr h9)
    refine lv_iconst (v := 0) hx hb d_AG_open_12 (by decide) ?_
    have hw9 : wsG ad ck rf n fr a ar z pc pe pt pp pf ic ie ip iz ia st rt pb = wsG ad ck rf n fr (agN a) ar (agZ a z) pc pe pt pp pf ic ie ip iz ia st rt pb := by simp only [agN, agZ]; rw [if_neg c_1, if_neg c_1]
    rw [hw9] at hP hD
    exact xreti (v := 0) hx hb hr hlocks hK hP hD hS (rfl) (bI_0 c_1) d_AG_open_13
set_option maxHeartbeats 4000000 in
set_option maxRecDepth 100000 in
theorem c_ag_lettersIn (l : Launch) (dC : Nat → ClassId) (dI : Nat → Nat → Nat) (ad : Nat → Nat) (ck : Nat → ClassId) (rf : Int32) (n : Nat) (fr : Nat → Int32) (a : Nat) (ar : Nat → Int32) (z : Nat → Nat) (pc : Nat) (pe : Int32) (pt pp : Nat) (pf : Nat → Nat → Int32) (ic : Nat) (ie ip iz ia : Int32) (st rt : Nat → Int32) (pb : Nat → Nat → Int32) (w : Int64) (sz : Nat) : Met l y_AG_lettersIn w_AG_lettersIn { frames := 0, cells := 0, slots := 0, locals := 0 } (va_Pc [.long w] (xP (dC, dI) (tyG ck) (wsG ad ck rf n fr a ar z pc pe pt pp pf ic ie ip iz ia st rt pb) sz)) (xQi (dC, dI) (tyG ck) (va_A (wsG ad ck rf n fr a ar z pc pe pt pp pf ic ie ip iz ia st rt pb) sz) (wsG ad ck rf n fr a ar z pc pe pt pp pf ic ie ip iz ia st rt pb) (fun r => r = nI (ltN w 8))) 0 0 (va_A (wsG ad ck rf n fr a ar z pc pe pt pp pf ic ie ip iz ia st rt pb) sz) := by
  refine xof (cc := b_AG_lettersIn) (maxL := 4) (ret := (some .int)) (own := R_AG) (Qc := fun A => (xQi (dC, dI) (tyG ck) A (wsG ad ck rf n fr a ar z pc pe pt pp pf ic ie ip iz ia st rt pb) (fun r => r = nI (ltN w 8)))) (by decide) rfl rfl (Nat.le_of_ble_eq_true rfl) ?_ sz
  intro p e s m below meth c A C hnm hK hP hD hA hN hZ hS ls hl
  obtain ⟨hx, hb, hr, hml, hown, hts, hlocks⟩ := C
  have hl : lv_has ls 4 [(0, .long w)] := hl
  refine lv_iconst (v := 0) hx hb d_AG_lettersIn_0 (by decide) ?_
  refine lv_istore_n (lv' := [(2, .int 0), (0, .long w)]) hx hb d_AG_lettersIn_1 rfl hl (by decide) rfl (fun ls hl => ?_)
  refine lv_bipush (v := 56) hx hb d_AG_lettersIn_2 (by decide) ?_
  refine lv_istore_n (lv' := [(3, .int 56), (2, .int 0), (0, .long w)]) hx hb d_AG_lettersIn_4 rfl hl (by decide) rfl (fun ls hl => ?_)
  have lp5 : ∀ (fu5 : Nat) (t : Nat), (8 - t < fu5) → (t ≤ 8) → ∀ (H : Heap) (locs : List Loc), va_P (dC, dI) vwCl (wsG ad ck rf n fr a ar z pc pe pt pp pf ic ie ip iz ia st rt pb) H → va_D A (wsG ad ck rf n fr a ar z pc pe pt pp pf ic ie ip iz ia st rt pb) → va_S A s.heap H locs → ∀ ls : Array Slot, lv_has ls 4 [(0, .long w), (2, .int (nI (ltN w t))), (3, .int (shv t))] → W p l e { frames := 0, cells := 0, slots := 0, locals := 0 } s m [.long w].toArray below meth c H locs 0 0 (MQ below (xQi (dC, dI) (tyG ck) A (wsG ad ck rf n fr a ar z pc pe pt pp pf ic ie ip iz ia st rt pb) (fun r => r = nI (ltN w 8))) [.long w].toArray s 0 0 A) (F0 m 5 ls []) := by
    intro fu5
    induction fu5 with
    | zero => intro t hfu5; exact absurd hfu5 (Nat.not_lt_zero _)
    | succ fu5 ih5 =>
      intro t hfu5 ht H locs hP hD hS ls hl
      refine lv_iload_n hx hb d_AG_lettersIn_5 rfl (lv_at hl 2 rfl) ?_
      refine lv_if_lt (tgt := 26) hx hb d_AG_lettersIn_6 (by decide) (fun c_1 => ?_) (fun c_1 => ?_)
      · skip
        have h8 : t = 8 := shv_neg ht c_1
        refine lv_iload_n hx hb d_AG_lettersIn_26 rfl (lv_at hl 1 rfl) ?_
        exact xreti (v := nI (ltN w t)) hx hb hr hlocks hK hP hD hS (rfl) (by rw [h8]) d_AG_lettersIn_27
      · skip
        have h8 : t < 8 := shv_pos ht c_1
        refine lv_lload_n hx hb d_AG_lettersIn_9 rfl (lv_at hl 0 rfl) ?_
        refine lv_iload_n hx hb d_AG_lettersIn_10 rfl (lv_at hl 2 rfl) ?_
        refine lv_lshr hx hb d_AG_lettersIn_11 rfl ?_
        refine lv_l2i hx hb d_AG_lettersIn_12 rfl ?_
        refine lv_i2b hx hb d_AG_lettersIn_13 rfl ?_
        refine lv_if_eq (tgt := 20) hx hb d_AG_lettersIn_14 (by decide) (fun c_2 => ?_) (fun c_2 => ?_)
        · skip
          refine lv_iinc (v := shv (t + 1)) (lv' := [(3, .int (shv (t + 1))), (0, .long w), (2, .int (nI (ltN w t)))]) hx hb d_AG_lettersIn_20 hl (k := 2) rfl (shv_step h8) (by decide) rfl (fun ls hl => ?_)
          refine lv_goto (tgt := 5) hx hb d_AG_lettersIn_23 (by decide) ?_
          have e9 : ltN w t = ltN w (t + 1) := by rw [ltN, if_pos (show lby w t = 0 from c_2)]
          rw [e9] at hl
          exact ih5 (t + 1) (by omega) (by omega) _ _ hP hD hS _ (lv_sub hl [1, 2, 0] rfl)
        · skip
          refine lv_iinc (v := nI ((ltN w t) + 1)) (lv' := [(2, .int (nI ((ltN w t) + 1))), (0, .long w), (3, .int (shv t))]) hx hb d_AG_lettersIn_17 hl (k := 1) rfl (nI_1 _) (by decide) rfl (fun ls hl => ?_)
          refine lv_iinc (v := shv (t + 1)) (lv' := [(3, .int (shv (t + 1))), (2, .int (nI ((ltN w t) + 1))), (0, .long w)]) hx hb d_AG_lettersIn_20 hl (k := 2) rfl (shv_step h8) (by decide) rfl (fun ls hl => ?_)
          refine lv_goto (tgt := 5) hx hb d_AG_lettersIn_23 (by decide) ?_
          have e9 : ltN w t + 1 = ltN w (t + 1) := by rw [ltN, if_neg (show ¬ lby w t = 0 from c_2)]
          rw [e9] at hl
          exact ih5 (t + 1) (by omega) (by omega) _ _ hP hD hS _ (lv_sub hl [2, 1, 0] rfl)
  exact lp5 ((8 - 0) + 1) 0 (Nat.lt_succ_self _) (by omega) _ _ hP hD hS _ (lv_sub hl [2, 1, 0] rfl)
set_option maxHeartbeats 4000000 in
set_option maxRecDepth 100000 in
theorem c_ag_placeBelow (l : Launch) (dC : Nat → ClassId) (dI : Nat → Nat → Nat) (ad : Nat → Nat) (ck : Nat → ClassId) (rf : Int32) (n : Nat) (fr : Nat → Int32) (a : Nat) (ar : Nat → Int32) (z : Nat → Nat) (pc : Nat) (pe : Int32) (pt pp : Nat) (pf : Nat → Nat → Int32) (ic : Nat) (ie ip iz ia : Int32) (st rt : Nat → Int32) (pb : Nat → Nat → Int32) (t i : Nat) (hi : i < 32) (ht : t ≤ 4096) (hti : z i + 1 ≤ t) (sz : Nat) : Met l y_AG_placeBelow w_AG_placeBelow { frames := 0, cells := 0, slots := 0, locals := 0 } (va_Pc [.ref (ad 3), .int (nI t), .int (nI i)] (xP (dC, dI) (tyG ck) (wsG ad ck rf n fr a ar z pc pe pt pp pf ic ie ip iz ia st rt pb) sz)) (xQi (dC, dI) (tyG ck) (va_A (wsG ad ck rf n fr a ar z pc pe pt pp pf ic ie ip iz ia st rt pb) sz) (wsG ad ck rf n fr a ar z pc pe pt pp pf ic ie ip iz ia st rt pb) (fun r => r = nI ((t - z i - 1) / 4 * 4))) 0 0 (va_A (wsG ad ck rf n fr a ar z pc pe pt pp pf ic ie ip iz ia st rt pb) sz) := by
  refine xof (cc := b_AG_placeBelow) (maxL := 4) (ret := (some .int)) (own := R_AG) (Qc := fun A => (xQi (dC, dI) (tyG ck) A (wsG ad ck rf n fr a ar z pc pe pt pp pf ic ie ip iz ia st rt pb) (fun r => r = nI ((t - z i - 1) / 4 * 4)))) (by decide) rfl rfl (Nat.le_of_ble_eq_true rfl) ?_ sz
  intro p e s m below meth c A C hnm hK hP hD hA hN hZ hS ls hl
  obtain ⟨hx, hb, hr, hml, hown, hts, hlocks⟩ := C
  have hl : lv_has ls 4 [(0, .ref (ad 3)), (1, .int (nI t)), (2, .int (nI i))] := hl
  refine lv_iload_n hx hb d_AG_placeBelow_0 rfl (lv_at hl 2 rfl) ?_
  refine lv_if_lt (tgt := 22) hx hb d_AG_placeBelow_1 (by decide) (fun c_1 => ?_) (fun c_1 => ?_)
  · skip
    have c_1 : i < 0 := (nI_ltI (a := i) (b := 0) (by omega) (by omega)).mp c_1
    exact absurd c_1 (Nat.not_lt_zero _)
  · skip
    have c_1 : ¬ (i < 0) := fun h9 => c_1 ((nI_ltI (a := i) (b := 0) (by omega) (by omega)).mpr h9)
    refine lv_iload_n hx hb d_AG_placeBelow_4 rfl (lv_at hl 2 rfl) ?_
    refine lv_aload_n hx hb d_AG_placeBelow_5 rfl (lv_at hl 0 rfl) ?_
    refine va_get (D := (dC, dI)) (ci := 0) (v := .ref (ad 5)) (C := R_AG) (T := T_AG) (N := 3) hx hb hts i_AG hown hK hP 3 rfl rfl 1 (by decide) (hts _ wd_57) (fun _ h9 => h9) rfl d_AG_placeBelow_6 ?_
    refine va_alen (v := 32) hx hb hK hP 5 1 rfl rfl rfl d_AG_placeBelow_9 ?_
    refine lv_icmp_ge (tgt := 22) hx hb d_AG_placeBelow_10 (by decide) (fun c_2 => ?_) (fun c_2 => ?_)
    · skip
      have c_2 : 32 ≤ i := (nI_leI (a := 32) (b := i) (by omega) (by omega)).mp c_2
      exact absurd c_2 (by omega)
    · skip
      have c_2 : ¬ (32 ≤ i) := fun h9 => c_2 ((nI_leI (a := 32) (b := i) (by omega) (by omega)).mpr h9)
      refine lv_aload_n hx hb d_AG_placeBelow_13 rfl (lv_at hl 0 rfl) ?_
      refine va_get (D := (dC, dI)) (ci := 0) (v := .ref (ad 5)) (C := R_AG) (T := T_AG) (N := 3) hx hb hts i_AG hown hK hP 3 rfl rfl 1 (by decide) (hts _ wd_57) (fun _ h9 => h9) rfl d_AG_placeBelow_14 ?_
      refine lv_iload_n hx hb d_AG_placeBelow_17 rfl (lv_at hl 2 rfl) ?_
      refine xiald (k := i) hx hb hK hP 5 1 rfl rfl (rfl) (by omega) (by decide) d_AG_placeBelow_18 ?_
      refine lv_goto (tgt := 23) hx hb d_AG_placeBelow_19 (by decide) ?_
      refine lv_istore_n (lv' := [(3, .int (nI (z i))), (0, .ref (ad 3)), (1, .int (nI t)), (2, .int (nI i))]) hx hb d_AG_placeBelow_23 rfl hl (by decide) rfl (fun ls hl => ?_)
      refine lv_iload_n hx hb d_AG_placeBelow_24 rfl (lv_at hl 2 rfl) ?_
      refine lv_iload_n hx hb d_AG_placeBelow_25 rfl (lv_at hl 0 rfl) ?_
      refine lv_isub hx hb d_AG_placeBelow_26 ?_
      refine xtopi (y := nI (t - (z i))) (pk_sub (a := t) (b := z i) (by omega)) ?_
      refine lv_iconst (v := 1) hx hb d_AG_placeBelow_27 (by decide) ?_
      refine lv_isub hx hb d_AG_placeBelow_28 ?_
      refine xtopi (y := nI ((t - (z i)) - 1)) (pk_sub (a := t - (z i)) (b := 1) (by omega)) ?_
      refine lv_bipush (v := (-4)) hx hb d_AG_placeBelow_29 (by decide) ?_
      refine lv_iand hx hb d_AG_placeBelow_31 ?_
      exact xreti (v := (nI ((t - (z i)) - 1)) &&& (-4)) hx hb hr hlocks hK hP hD hS (rfl) (p_and4 (by omega)) d_AG_placeBelow_32
set_option maxHeartbeats 4000000 in
set_option maxRecDepth 100000 in
theorem c_ag_stackPointer (l : Launch) (dC : Nat → ClassId) (dI : Nat → Nat → Nat) (ad : Nat → Nat) (ck : Nat → ClassId) (rf : Int32) (n : Nat) (fr : Nat → Int32) (a : Nat) (ar : Nat → Int32) (z : Nat → Nat) (pc : Nat) (pe : Int32) (pt pp : Nat) (pf : Nat → Nat → Int32) (ic : Nat) (ie ip iz ia : Int32) (st rt : Nat → Int32) (pb : Nat → Nat → Int32) (ha : a ≤ 32) (hz : ∀ j, z j ≤ 127) (sz : Nat) : Met l y_AG_stackPointer w_AG_stackPointer { frames := 1, cells := 0, slots := 0, locals := 23 } (va_Pc [.ref (ad 3)] (xP (dC, dI) (tyG ck) (wsG ad ck rf n fr a ar z pc pe pt pp pf ic ie ip iz ia st rt pb) sz)) (xQi (dC, dI) (tyG ck) (va_A (wsG ad ck rf n fr a ar z pc pe pt pp pf ic ie ip iz ia st rt pb) sz) (wsG ad ck rf n fr a ar z pc pe pt pp pf ic ie ip iz ia st rt pb) (fun r => r = spOf z a)) 0 0 (va_A (wsG ad ck rf n fr a ar z pc pe pt pp pf ic ie ip iz ia st rt pb) sz) := by
  refine xof (cc := b_AG_stackPointer) (maxL := 3) (ret := (some .int)) (own := R_AG) (Qc := fun A => (xQi (dC, dI) (tyG ck) A (wsG ad ck rf n fr a ar z pc pe pt pp pf ic ie ip iz ia st rt pb) (fun r => r = spOf z a))) (by decide) rfl rfl (Nat.le_of_ble_eq_true rfl) ?_ sz
  intro p e s m below meth c A C hnm hK hP hD hA hN hZ hS ls hl
  obtain ⟨hx, hb, hr, hml, hown, hts, hlocks⟩ := C
  have hl : lv_has ls 3 [(0, .ref (ad 3))] := hl
  refine lv_sipush (v := 4096) hx hb d_AG_stackPointer_0 (by decide) ?_
  refine lv_istore_n (lv' := [(1, .int 4096), (0, .ref (ad 3))]) hx hb d_AG_stackPointer_3 rfl hl (by decide) rfl (fun ls hl => ?_)
  refine lv_iconst (v := 0) hx hb d_AG_stackPointer_4 (by decide) ?_
  refine lv_istore_n (lv' := [(2, .int 0), (1, .int 4096), (0, .ref (ad 3))]) hx hb d_AG_stackPointer_5 rfl hl (by decide) rfl (fun ls hl => ?_)
  have lp6 : ∀ (fu6 : Nat) (i : Nat), (a - i < fu6) → (i ≤ a) → ∀ (H : Heap) (locs : List Loc), va_P (dC, dI) vwCl (wsG ad ck rf n fr a ar z pc pe pt pp pf ic ie ip iz ia st rt pb) H → va_D A (wsG ad ck rf n fr a ar z pc pe pt pp pf ic ie ip iz ia st rt pb) → va_S A s.heap H locs → ∀ ls : Array Slot, lv_has ls 3 [(0, .ref (ad 3)), (1, .int (nI (tpN z i))), (2, .int (nI i))] → W p l e { frames := 1, cells := 0, slots := 0, locals := 23 } s m [.ref (ad 3)].toArray below meth c H locs 0 0 (MQ below (xQi (dC, dI) (tyG ck) A (wsG ad ck rf n fr a ar z pc pe pt pp pf ic ie ip iz ia st rt pb) (fun r => r = spOf z a)) [.ref (ad 3)].toArray s 0 0 A) (F0 m 6 ls []) := by
    intro fu6
    induction fu6 with
    | zero => intro i hfu6; exact absurd hfu6 (Nat.not_lt_zero _)
    | succ fu6 ih6 =>
      intro i hfu6 hi H locs hP hD hS ls hl
      refine lv_iload_n hx hb d_AG_stackPointer_6 rfl (lv_at hl 2 rfl) ?_
      refine lv_aload_n hx hb d_AG_stackPointer_7 rfl (lv_at hl 0 rfl) ?_
      refine va_get (D := (dC, dI)) (ci := 0) (v := .int (nI a)) (C := R_AG) (T := T_AG) (N := 3) hx hb hts i_AG hown hK hP 3 rfl rfl 2 (by decide) (hts _ wd_58) (fun _ h9 => h9) rfl d_AG_stackPointer_8 ?_
      refine lv_icmp_ge (tgt := 27) hx hb d_AG_stackPointer_11 (by decide) (fun c_1 => ?_) (fun c_1 => ?_)
      · skip
        have c_1 : a ≤ i := (nI_leI (a := a) (b := i) (by omega) (by omega)).mp c_1
        have hia : i = a := by omega
        refine lv_iload_n hx hb d_AG_stackPointer_27 rfl (lv_at hl 1 rfl) ?_
        refine lv_iconst (v := 4) hx hb d_AG_stackPointer_28 (by decide) ?_
        refine lv_aload_n hx hb d_AG_stackPointer_29 rfl (lv_at hl 0 rfl) ?_
        refine va_get (D := (dC, dI)) (ci := 0) (v := .int (nI a)) (C := R_AG) (T := T_AG) (N := 3) hx hb hts i_AG hown hK hP 3 rfl rfl 2 (by decide) (hts _ wd_58) (fun _ h9 => h9) rfl d_AG_stackPointer_30 ?_
        refine lv_iconst (v := 1) hx hb d_AG_stackPointer_33 (by decide) ?_
        refine lv_iadd hx hb d_AG_stackPointer_34 ?_
        refine xtopi (y := nI (a + 1)) (nI_add (a) (1)) ?_
        refine lv_imul hx hb d_AG_stackPointer_35 ?_
        refine xtopi (y := nI (4 * (a + 1))) (pk_mul (4) (a + 1)) ?_
        refine lv_isub hx hb d_AG_stackPointer_36 ?_
        refine lv_bipush (v := (-16)) hx hb d_AG_stackPointer_37 (by decide) ?_
        refine lv_iand hx hb d_AG_stackPointer_39 ?_
        exact xreti (v := ((nI (tpN z i)) - (nI (4 * (a + 1)))) &&& (-16)) hx hb hr hlocks hK hP hD hS (rfl) (by rw [hia]; rfl) d_AG_stackPointer_40
      · skip
        have c_1 : ¬ (a ≤ i) := fun h9 => c_1 ((nI_leI (a := a) (b := i) (by omega) (by omega)).mpr h9)
        have htp := tpN_ge hz i; have hzi := hz i; have htl := tpN_le z i
        refine lv_aload_n hx hb d_AG_stackPointer_14 rfl (lv_at hl 0 rfl) ?_
        refine lv_iload_n hx hb d_AG_stackPointer_15 rfl (lv_at hl 1 rfl) ?_
        refine lv_iload_n hx hb d_AG_stackPointer_16 rfl (lv_at hl 2 rfl) ?_
        refine xcalli (va_runV (As := [.int (nI (tpN z i)), .int (nI i)]) (rest := []) ⟨hx, hb, hml, hown, hts⟩ (c_ag_placeBelow l dC dI ad ck rf n fr a ar z pc pe pt pp pf ic ie ip iz ia st rt pb (tpN z i) i (by omega) (by omega) (by omega) H.size) (cwV 2 hts (xgV wd_315 wd_316 wd_317 wd_17 wd_318) rfl rfl rfl (by decide +kernel) ⟨Nat.le_of_ble_eq_true rfl, Nat.le_of_ble_eq_true rfl⟩) (xpreV (q0 := 3) hK hN hZ hA hS hP hD rfl rfl) rfl rfl hl.1 rfl (lv_room (Nat.le_of_ble_eq_true rfl)) d_AG_stackPointer_17 ⟨Nat.zero_le _, Nat.zero_le _⟩) hD hS hA (fun r_2 H locs hr_2 hP hD hS => ?_)
        subst hr_2
        refine lv_istore_n (lv' := [(1, .int (nI ((tpN z i - z i - 1) / 4 * 4))), (0, .ref (ad 3)), (2, .int (nI i))]) hx hb d_AG_stackPointer_20 rfl hl (by decide) rfl (fun ls hl => ?_)
        refine lv_iinc (v := nI (i + 1)) (lv' := [(2, .int (nI (i + 1))), (1, .int (nI ((tpN z i - z i - 1) / 4 * 4))), (0, .ref (ad 3))]) hx hb d_AG_stackPointer_21 hl (k := 2) rfl (nI_1 _) (by decide) rfl (fun ls hl => ?_)
        refine lv_goto (tgt := 6) hx hb d_AG_stackPointer_24 (by decide) ?_
        exact ih6 (i + 1) (by omega) (by omega) _ _ hP hD hS _ (lv_sub hl [2, 1, 0] rfl)
  exact lp6 ((a - 0) + 1) 0 (Nat.lt_succ_self _) (by omega) _ _ hP hD hS _ (lv_sub hl [2, 1, 0] rfl)
set_option maxHeartbeats 4000000 in
set_option maxRecDepth 100000 in
theorem c_ag_extend (l : Launch) (dC : Nat → ClassId) (dI : Nat → Nat → Nat) (ad : Nat → Nat) (ck : Nat → ClassId) (rf : Int32) (n : Nat) (fr : Nat → Int32) (a : Nat) (ar : Nat → Int32) (z : Nat → Nat) (pc : Nat) (pe : Int32) (pt pp : Nat) (pf : Nat → Nat → Int32) (ic : Nat) (ie ip iz ia : Int32) (st rt : Nat → Int32) (pb : Nat → Nat → Int32) (w : Int64) (ha : a ≤ 32) (hz : ∀ j, z j ≤ 127) (sz : Nat) : Met l y_AG_extend w_AG_extend { frames := 1, cells := 0, slots := 0, locals := 23 } (va_Pc [.ref (ad 3), .long w] (xP (dC, dI) (tyG ck) (wsG ad ck rf n fr a ar z pc pe pt pp pf ic ie ip iz ia st rt pb) sz)) (xQi (dC, dI) (tyG ck) (va_A (wsG ad ck rf n fr a ar z pc pe pt pp pf ic ie ip iz ia st rt pb) sz) (wsG ad ck rf n fr a (exFA a ar z w) (exFZ a z w) pc pe pt pp pf ic ie ip iz ia st rt pb) (fun r => r = bI (0 < a ∧ z (a - 1) + ltN w 8 ≤ 127))) 0 0 (va_A (wsG ad ck rf n fr a ar z pc pe pt pp pf ic ie ip iz ia st rt pb) sz) := by
  refine xof (cc := b_AG_extend) (maxL := 6) (ret := (some .boolean)) (own := R_AG) (Qc := fun A => (xQi (dC, dI) (tyG ck) A (wsG ad ck rf n fr a (exFA a ar z w) (exFZ a z w) pc pe pt pp pf ic ie ip iz ia st rt pb) (fun r => r = bI (0 < a ∧ z (a - 1) + ltN w 8 ≤ 127)))) (by decide) rfl rfl (Nat.le_of_ble_eq_true rfl) ?_ sz
  intro p e s m below meth c A C hnm hK hP hD hA hN hZ hS ls hl
  obtain ⟨hx, hb, hr, hml, hown, hts, hlocks⟩ := C
  have hl : lv_has ls 6 [(0, .ref (ad 3)), (1, .long w)] := hl
  refine lv_aload_n hx hb d_AG_extend_0 rfl (lv_at hl 0 rfl) ?_
  refine va_get (D := (dC, dI)) (ci := 0) (v := .int (nI a)) (C := R_AG) (T := T_AG) (N := 3) hx hb hts i_AG hown hK hP 3 rfl rfl 2 (by decide) (hts _ wd_58) (fun _ h9 => h9) rfl d_AG_extend_1 ?_
  refine lv_iconst (v := 1) hx hb d_AG_extend_4 (by decide) ?_
  refine lv_isub hx hb d_AG_extend_5 ?_
  rcases Nat.eq_zero_or_pos a with h0 | h0
  · skip
    refine xtopi (y := (-1)) (by rw [h0]; decide) ?_
    refine lv_istore_n (lv' := [(3, .int (-1)), (0, .ref (ad 3)), (1, .long w)]) hx hb d_AG_extend_6 rfl hl (by decide) rfl (fun ls hl => ?_)
    refine lv_iload_n hx hb d_AG_extend_7 rfl (lv_at hl 0 rfl) ?_
    refine lv_if_lt (tgt := 36) hx hb d_AG_extend_8 (by decide) (fun c_1 => ?_) (fun c_1 => ?_)
    · skip
      refine lv_iconst (v := 0) hx hb d_AG_extend_36 (by decide) ?_
      have hw9 : wsG ad ck rf n fr a ar z pc pe pt pp pf ic ie ip iz ia st rt pb = wsG ad ck rf n fr a (exFA a ar z w) (exFZ a z w) pc pe pt pp pf ic ie ip iz ia st rt pb := by rw [exFA, exFZ, if_neg (show ¬ (0 < a ∧ z (a - 1) + ltN w 8 ≤ 127) from by omega), if_neg (show ¬ (0 < a ∧ z (a - 1) + ltN w 8 ≤ 127) from by omega)]
      rw [hw9] at hP hD
      exact xreti (v := 0) hx hb hr hlocks hK hP hD hS (rfl) (bI_0 (by omega)) d_AG_extend_37
    · exact absurd c_1 (by decide)
  · skip
    refine xtopi (y := nI (a - 1)) (pk_sub (a := a) (b := 1) (by omega)) ?_
    have hzb := hz (a - 1)
    have hl8 := ltN_le w 8
    refine lv_istore_n (lv' := [(3, .int (nI (a - 1))), (0, .ref (ad 3)), (1, .long w)]) hx hb d_AG_extend_6 rfl hl (by decide) rfl (fun ls hl => ?_)
    refine lv_iload_n hx hb d_AG_extend_7 rfl (lv_at hl 0 rfl) ?_
    refine lv_if_lt (tgt := 36) hx hb d_AG_extend_8 (by decide) (fun c_2 => ?_) (fun c_2 => ?_)
    · skip
      have c_2 : a - 1 < 0 := (nI_ltI (a := a - 1) (b := 0) (by omega) (by omega)).mp c_2
      exact absurd c_2 (Nat.not_lt_zero _)
    · skip
      have c_2 : ¬ (a - 1 < 0) := fun h9 => c_2 ((nI_ltI (a := a - 1) (b := 0) (by omega) (by omega)).mpr h9)
      refine lv_iload_n hx hb d_AG_extend_11 rfl (lv_at hl 0 rfl) ?_
      refine lv_aload_n hx hb d_AG_extend_12 rfl (lv_at hl 1 rfl) ?_
      refine va_get (D := (dC, dI)) (ci := 0) (v := .ref (ad 5)) (C := R_AG) (T := T_AG) (N := 3) hx hb hts i_AG hown hK hP 3 rfl rfl 1 (by decide) (hts _ wd_57) (fun _ h9 => h9) rfl d_AG_extend_13 ?_
      refine va_alen (v := 32) hx hb hK hP 5 1 rfl rfl rfl d_AG_extend_16 ?_
      refine lv_icmp_ge (tgt := 36) hx hb d_AG_extend_17 (by decide) (fun c_3 => ?_) (fun c_3 => ?_)
      · skip
        have c_3 : 32 ≤ a - 1 := (nI_leI (a := 32) (b := a - 1) (by omega) (by omega)).mp c_3
        exact absurd c_3 (by omega)
      · skip
        have c_3 : ¬ (32 ≤ a - 1) := fun h9 => c_3 ((nI_leI (a := 32) (b := a - 1) (by omega) (by omega)).mpr h9)
        refine lv_aload_n hx hb d_AG_extend_20 rfl (lv_at hl 1 rfl) ?_
        refine va_get (D := (dC, dI)) (ci := 0) (v := .ref (ad 5)) (C := R_AG) (T := T_AG) (N := 3) hx hb hts i_AG hown hK hP 3 rfl rfl 1 (by decide) (hts _ wd_57) (fun _ h9 => h9) rfl d_AG_extend_21 ?_
        refine lv_iload_n hx hb d_AG_extend_24 rfl (lv_at hl 0 rfl) ?_
        refine xiald (k := a - 1) hx hb hK hP 5 1 rfl rfl (rfl) (by omega) (by decide) d_AG_extend_25 ?_
        refine lv_lload_n hx hb d_AG_extend_26 rfl (lv_at hl 2 rfl) ?_
        refine xcalli (va_runS (As := [.long w]) (rest := [.int (nI (z (a - 1)))]) ⟨hx, hb, hml, hown, hts⟩ (c_ag_lettersIn l dC dI ad ck rf n fr a ar z pc pe pt pp pf ic ie ip iz ia st rt pb w s.heap.size) (cwS 1 hts (xgS wd_248 wd_249 wd_17 wd_250) rfl rfl rfl (by decide +kernel) ⟨Nat.le_of_ble_eq_true rfl, Nat.le_of_ble_eq_true rfl⟩) (xpreS hK hN hZ hA hS hP hD) rfl rfl hl.1 rfl (lv_room (Nat.le_of_ble_eq_true rfl)) d_AG_extend_27 ⟨Nat.zero_le _, Nat.zero_le _⟩) hD hS hA (fun r_4 H locs hr_4 hP hD hS => ?_)
        subst hr_4
        refine lv_iadd hx hb d_AG_extend_30 ?_
        refine xtopi (y := nI ((z (a - 1)) + (ltN w 8))) (nI_add (z (a - 1)) (ltN w 8)) ?_
        refine lv_bipush (v := 127) hx hb d_AG_extend_31 (by decide) ?_
        refine lv_icmp_le (tgt := 38) hx hb d_AG_extend_33 (by decide) (fun c_5 => ?_) (fun c_5 => ?_)
        · skip
          have c_5 : (z (a - 1)) + (ltN w 8) ≤ 127 := (nI_leI (a := (z (a - 1)) + (ltN w 8)) (b := 127) (by omega) (by omega)).mp c_5
          refine lv_bipush (v := 56) hx hb d_AG_extend_38 (by decide) ?_
          refine lv_istore (lv' := [(4, .int 56), (3, .int (nI (a - 1))), (0, .ref (ad 3)), (1, .long w)]) hx hb d_AG_extend_40 hl (by decide) rfl (fun ls hl => ?_)
          have lp42 : ∀ (fu42 : Nat) (t : Nat), (8 - t < fu42) → (t ≤ 8) → ∀ (H : Heap) (locs : List Loc), va_P (dC, dI) vwCl (wsG ad ck rf n fr a (exA ar z (a - 1) w t) (upn z (a - 1) (z (a - 1) + ltN w t)) pc pe pt pp pf ic ie ip iz ia st rt pb) H → va_D A (wsG ad ck rf n fr a (exA ar z (a - 1) w t) (upn z (a - 1) (z (a - 1) + ltN w t)) pc pe pt pp pf ic ie ip iz ia st rt pb) → va_S A s.heap H locs → ∀ ls : Array Slot, lv_has ls 6 [(0, .ref (ad 3)), (1, .long w), (3, .int (nI (a - 1))), (4, .int (shv t))] → W p l e { frames := 1, cells := 0, slots := 0, locals := 23 } s m [.ref (ad 3), .long w].toArray below meth c H locs 0 0 (MQ below (xQi (dC, dI) (tyG ck) A (wsG ad ck rf n fr a (exFA a ar z w) (exFZ a z w) pc pe pt pp pf ic ie ip iz ia st rt pb) (fun r => r = bI (0 < a ∧ z (a - 1) + ltN w 8 ≤ 127))) [.ref (ad 3), .long w].toArray s 0 0 A) (F0 m 42 ls []) := by
            intro fu42
            induction fu42 with
            | zero => intro t hfu42; exact absurd hfu42 (Nat.not_lt_zero _)
            | succ fu42 ih42 =>
              intro t hfu42 ht H locs hP hD hS ls hl
              refine lv_iload hx hb d_AG_extend_42 (lv_at hl 3 rfl) ?_
              refine lv_if_lt (tgt := 94) hx hb d_AG_extend_44 (by decide) (fun c_6 => ?_) (fun c_6 => ?_)
              · skip
                have h8 : t = 8 := shv_neg ht c_6
                refine lv_iconst (v := 1) hx hb d_AG_extend_94 (by decide) ?_
                have hw9 : wsG ad ck rf n fr a (exA ar z (a - 1) w t) (upn z (a - 1) (z (a - 1) + ltN w t)) pc pe pt pp pf ic ie ip iz ia st rt pb = wsG ad ck rf n fr a (exFA a ar z w) (exFZ a z w) pc pe pt pp pf ic ie ip iz ia st rt pb := by rw [exFA, exFZ, if_pos (show 0 < a ∧ z (a - 1) + ltN w 8 ≤ 127 from ⟨h0, by omega⟩), if_pos (show 0 < a ∧ z (a - 1) + ltN w 8 ≤ 127 from ⟨h0, by omega⟩), h8]
                rw [hw9] at hP hD
                exact xreti (v := 1) hx hb hr hlocks hK hP hD hS (rfl) (bI_1 ⟨h0, by omega⟩) d_AG_extend_95
              · skip
                have h8 : t < 8 := shv_pos ht c_6
                have hzt : upn z (a - 1) (z (a - 1) + ltN w t) (a - 1) = z (a - 1) + ltN w t := upn_eq _ _ _
                refine lv_lload_n hx hb d_AG_extend_47 rfl (lv_at hl 1 rfl) ?_
                refine lv_iload hx hb d_AG_extend_48 (lv_at hl 3 rfl) ?_
                refine lv_lshr hx hb d_AG_extend_50 rfl ?_
                refine lv_l2i hx hb d_AG_extend_51 rfl ?_
                refine lv_i2b hx hb d_AG_extend_52 rfl ?_
                refine lv_istore (lv' := [(5, .int (((w >>> ((shv t).toInt64 &&& 63)).toInt32).toInt8.toInt32)), (0, .ref (ad 3)), (1, .long w), (3, .int (nI (a - 1))), (4, .int (shv t))]) hx hb d_AG_extend_53 hl (by decide) rfl (fun ls hl => ?_)
                refine lv_iload hx hb d_AG_extend_55 (lv_at hl 0 rfl) ?_
                refine lv_if_eq (tgt := 88) hx hb d_AG_extend_57 (by decide) (fun c_7 => ?_) (fun c_7 => ?_)
                · skip
                  refine lv_iinc (v := shv (t + 1)) (lv' := [(4, .int (shv (t + 1))), (5, .int (((w >>> ((shv t).toInt64 &&& 63)).toInt32).toInt8.toInt32)), (0, .ref (ad 3)), (1, .long w), (3, .int (nI (a - 1)))]) hx hb d_AG_extend_88 hl (k := 4) rfl (shv_step h8) (by decide) rfl (fun ls hl => ?_)
                  refine lv_goto (tgt := 42) hx hb d_AG_extend_91 (by decide) ?_
                  have hc9 : lby w t = 0 := c_7
                  have hw9 : wsG ad ck rf n fr a (exA ar z (a - 1) w t) (upn z (a - 1) (z (a - 1) + ltN w t)) pc pe pt pp pf ic ie ip iz ia st rt pb = wsG ad ck rf n fr a (exA ar z (a - 1) w (t + 1)) (upn z (a - 1) (z (a - 1) + ltN w (t + 1))) pc pe pt pp pf ic ie ip iz ia st rt pb := by rw [exA, ltN, if_pos hc9, if_pos hc9]
                  rw [hw9] at hP hD
                  exact ih42 (t + 1) (by omega) (by omega) _ _ hP hD hS _ (lv_sub hl [2, 3, 4, 0] rfl)
                · skip
                  have hc8 : ¬ lby w t = 0 := c_7
                  have hm8 := ltN_mono w (t + 1) (8 - (t + 1))
                  rw [show t + 1 + (8 - (t + 1)) = 8 from by omega, ltN, if_neg hc8] at hm8
                  refine lv_aload_n hx hb d_AG_extend_60 rfl (lv_at hl 1 rfl) ?_
                  refine va_get (D := (dC, dI)) (ci := 0) (v := .ref (ad 4)) (C := R_AG) (T := T_AG) (N := 3) hx hb hts i_AG hown hK hP 3 rfl rfl 0 (by decide) (hts _ wd_56) (fun _ h9 => h9) rfl d_AG_extend_61 ?_
                  refine lv_iload_n hx hb d_AG_extend_64 rfl (lv_at hl 3 rfl) ?_
                  refine lv_bipush (v := 127) hx hb d_AG_extend_65 (by decide) ?_
                  refine lv_imul hx hb d_AG_extend_67 ?_
                  refine xtopi (y := nI ((a - 1) * 127)) (pk_mul (a - 1) (127)) ?_
                  refine lv_aload_n hx hb d_AG_extend_68 rfl (lv_at hl 1 rfl) ?_
                  refine va_get (D := (dC, dI)) (ci := 0) (v := .ref (ad 5)) (C := R_AG) (T := T_AG) (N := 3) hx hb hts i_AG hown hK hP 3 rfl rfl 1 (by decide) (hts _ wd_57) (fun _ h9 => h9) rfl d_AG_extend_69 ?_
                  refine lv_iload_n hx hb d_AG_extend_72 rfl (lv_at hl 3 rfl) ?_
                  refine xiald (k := a - 1) hx hb hK hP 5 1 rfl rfl (rfl) (by omega) (by decide) d_AG_extend_73 ?_
                  refine lv_iadd hx hb d_AG_extend_74 ?_
                  refine xtopi (y := nI (((a - 1) * 127) + ((upn z (a - 1) (z (a - 1) + ltN w t)) (a - 1)))) (nI_add ((a - 1) * 127) ((upn z (a - 1) (z (a - 1) + ltN w t)) (a - 1))) ?_
                  refine lv_iload hx hb d_AG_extend_75 (lv_at hl 0 rfl) ?_
                  refine xbast (k := ((a - 1) * 127) + ((upn z (a - 1) (z (a - 1) + ltN w t)) (a - 1))) (x' := ((w >>> ((shv t).toInt64 &&& 63)).toInt32).toInt8.toInt32) (ws1 := wsG ad ck rf n fr a (upd (exA ar z (a - 1) w t) (((a - 1) * 127) + ((upn z (a - 1) (z (a - 1) + ltN w t)) (a - 1))) (((w >>> ((shv t).toInt64 &&& 63)).toInt32).toInt8.toInt32)) (upn z (a - 1) (z (a - 1) + ltN w t)) pc pe pt pp pf ic ie ip iz ia st rt pb) hx hb hK hP hD hS 4 0 rfl rfl (rfl) (by omega) (by decide) (pk_vb _) rfl d_AG_extend_77 (fun H locs hP hD hS => ?_)
                  refine lv_aload_n hx hb d_AG_extend_78 rfl (lv_at hl 1 rfl) ?_
                  refine va_get (D := (dC, dI)) (ci := 0) (v := .ref (ad 5)) (C := R_AG) (T := T_AG) (N := 3) hx hb hts i_AG hown hK hP 3 rfl rfl 1 (by decide) (hts _ wd_57) (fun _ h9 => h9) rfl d_AG_extend_79 ?_
                  refine lv_iload_n hx hb d_AG_extend_82 rfl (lv_at hl 3 rfl) ?_
                  refine lv_dup2_11 hx hb d_AG_extend_83 rfl rfl ?_
                  refine xiald (k := a - 1) hx hb hK hP 5 1 rfl rfl (rfl) (by omega) (by decide) d_AG_extend_84 ?_
                  refine lv_iconst (v := 1) hx hb d_AG_extend_85 (by decide) ?_
                  refine lv_iadd hx hb d_AG_extend_86 ?_
                  refine xtopi (y := nI (((upn z (a - 1) (z (a - 1) + ltN w t)) (a - 1)) + 1)) (nI_add ((upn z (a - 1) (z (a - 1) + ltN w t)) (a - 1)) (1)) ?_
                  refine xiast (k := a - 1) (ws1 := wsG ad ck rf n fr a (upd (exA ar z (a - 1) w t) (((a - 1) * 127) + ((upn z (a - 1) (z (a - 1) + ltN w t)) (a - 1))) (((w >>> ((shv t).toInt64 &&& 63)).toInt32).toInt8.toInt32)) (upn (upn z (a - 1) (z (a - 1) + ltN w t)) (a - 1) (((upn z (a - 1) (z (a - 1) + ltN w t)) (a - 1)) + 1)) pc pe pt pp pf ic ie ip iz ia st rt pb) hx hb hK hP hD hS 5 1 rfl rfl (rfl) (by omega) (by decide) wsG_putZ d_AG_extend_87 (fun H locs hP hD hS => ?_)
                  refine lv_iinc (v := shv (t + 1)) (lv' := [(4, .int (shv (t + 1))), (5, .int (((w >>> ((shv t).toInt64 &&& 63)).toInt32).toInt8.toInt32)), (0, .ref (ad 3)), (1, .long w), (3, .int (nI (a - 1)))]) hx hb d_AG_extend_88 hl (k := 4) rfl (shv_step h8) (by decide) rfl (fun ls hl => ?_)
                  refine lv_goto (tgt := 42) hx hb d_AG_extend_91 (by decide) ?_
                  have hc9 : ¬ lby w t = 0 := c_7
                  have hw9 : wsG ad ck rf n fr a (upd (exA ar z (a - 1) w t) (((a - 1) * 127) + ((upn z (a - 1) (z (a - 1) + ltN w t)) (a - 1))) (((w >>> ((shv t).toInt64 &&& 63)).toInt32).toInt8.toInt32)) (upn (upn z (a - 1) (z (a - 1) + ltN w t)) (a - 1) (((upn z (a - 1) (z (a - 1) + ltN w t)) (a - 1)) + 1)) pc pe pt pp pf ic ie ip iz ia st rt pb = wsG ad ck rf n fr a (exA ar z (a - 1) w (t + 1)) (upn z (a - 1) (z (a - 1) + ltN w (t + 1))) pc pe pt pp pf ic ie ip iz ia st rt pb := by rw [exA, ltN, if_neg hc9, if_neg hc9, hzt, upn_upn, Nat.add_assoc]; rfl
                  rw [hw9] at hP hD
                  exact ih42 (t + 1) (by omega) (by omega) _ _ hP hD hS _ (lv_sub hl [2, 3, 4, 0] rfl)
          have ez0 : upn z (a - 1) (z (a - 1) + ltN w 0) = z := upn_self z (a - 1)
          have hP : va_P (dC, dI) vwCl (wsG ad ck rf n fr a ar (upn z (a - 1) (z (a - 1) + ltN w 0)) pc pe pt pp pf ic ie ip iz ia st rt pb) H := by rw [ez0]; exact hP
          have hD : va_D A (wsG ad ck rf n fr a ar (upn z (a - 1) (z (a - 1) + ltN w 0)) pc pe pt pp pf ic ie ip iz ia st rt pb) := by rw [ez0]; exact hD
          exact lp42 ((8 - 0) + 1) 0 (Nat.lt_succ_self _) (by omega) _ _ hP hD hS _ (lv_sub hl [2, 3, 1, 0] rfl)
        · skip
          have c_5 : ¬ ((z (a - 1)) + (ltN w 8) ≤ 127) := fun h9 => c_5 ((nI_leI (a := (z (a - 1)) + (ltN w 8)) (b := 127) (by omega) (by omega)).mpr h9)
          refine lv_iconst (v := 0) hx hb d_AG_extend_36 (by decide) ?_
          have hw9 : wsG ad ck rf n fr a ar z pc pe pt pp pf ic ie ip iz ia st rt pb = wsG ad ck rf n fr a (exFA a ar z w) (exFZ a z w) pc pe pt pp pf ic ie ip iz ia st rt pb := by rw [exFA, exFZ, if_neg (show ¬ (0 < a ∧ z (a - 1) + ltN w 8 ≤ 127) from by omega), if_neg (show ¬ (0 < a ∧ z (a - 1) + ltN w 8 ≤ 127) from by omega)]
          rw [hw9] at hP hD
          exact xreti (v := 0) hx hb hr hlocks hK hP hD hS (rfl) (bI_0 (by omega)) d_AG_extend_37
