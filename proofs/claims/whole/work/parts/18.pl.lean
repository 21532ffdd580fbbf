set_option maxHeartbeats 4000000 in
set_option maxRecDepth 100000 in
theorem c_pl_headerCount (l : Launch) (dC : Nat → ClassId) (dI : Nat → Nat → Nat) (ad : Nat → Nat) (ck : Nat → ClassId) (rf : Int32) (n : Nat) (fr : Nat → Int32) (a : Nat) (ar : Nat → Int32) (z : Nat → Nat) (pc : Nat) (pe : Int32) (pt pp : Nat) (pf : Nat → Nat → Int32) (ic : Nat) (ie ip iz ia : Int32) (st rt : Nat → Int32) (pb : Nat → Nat → Int32) (h52 : 52 ≤ n) (hn : n ≤ 65536) (sz : Nat) : Met l y_PL_headerCount w_PL_headerCount { frames := 2, cells := 0, slots := 0, locals := 48 } (va_Pc [.ref (ad 1)] (xP (dC, dI) (tyG ck) (wsG ad ck rf n fr a ar z pc pe pt pp pf ic ie ip iz ia st rt pb) sz)) (xQi (dC, dI) (tyG ck) (va_A (wsG ad ck rf n fr a ar z pc pe pt pp pf ic ie ip iz ia st rt pb) sz) (wsG ad ck rf n fr a ar z pc pe pt pp pf ic ie ip iz ia st rt pb) (fun r => r = nI (nHd fr))) 0 0 (va_A (wsG ad ck rf n fr a ar z pc pe pt pp pf ic ie ip iz ia st rt pb) sz) := by
  refine xof (cc := b_PL_headerCount) (maxL := 1) (ret := (some .int)) (own := R_PL) (Qc := fun A => (xQi (dC, dI) (tyG ck) A (wsG ad ck rf n fr a ar z pc pe pt pp pf ic ie ip iz ia st rt pb) (fun r => r = nI (nHd fr)))) (by decide) rfl rfl (Nat.le_of_ble_eq_true rfl) ?_ sz
  intro p e s m below meth c A C hnm hK hP hD hA hN hZ hS ls hl
  obtain ⟨hx, hb, hr, hml, hown, hts, hlocks⟩ := C
  have hl : lv_has ls 1 [(0, .ref (ad 1))] := hl
  refine lv_aload_n hx hb d_PL_headerCount_0 rfl (lv_at hl 0 rfl) ?_
  refine lv_bipush (v := 44) hx hb d_PL_headerCount_1 (by decide) ?_
  refine lv_iconst (v := 2) hx hb d_PL_headerCount_3 (by decide) ?_
  refine xcalli (va_runV (As := [.int 44, .int 2]) (rest := []) ⟨hx, hb, hml, hown, hts⟩ (c_fb_number2 l dC dI ad ck rf n fr a ar z pc pe pt pp pf ic ie ip iz ia st rt pb 44 hn s.heap.size) (cwV 2 hts (xgV wd_277 wd_278 wd_279 wd_16 wd_280) rfl rfl rfl (by decide +kernel) ⟨Nat.le_of_ble_eq_true rfl, Nat.le_of_ble_eq_true rfl⟩) (xpreV (q0 := 1) hK hN hZ hA hS hP hD rfl rfl) rfl rfl hl.1 rfl (lv_room (Nat.le_of_ble_eq_true rfl)) d_PL_headerCount_4 ⟨Nat.zero_le _, Nat.zero_le _⟩) hD hS hA (fun r_1 H locs hr_1 hP hD hS => ?_)
  subst hr_1
  refine xtopi (y := nI (nbN fr 44 2)) (p_num (q := 44) (by omega) hn) ?_
  exact xreti (v := nI (nbN fr 44 2)) hx hb hr hlocks hK hP hD hS (rfl) (rfl) d_PL_headerCount_7
set_option maxHeartbeats 4000000 in
set_option maxRecDepth 100000 in
theorem c_pl_rightsOf (l : Launch) (dC : Nat → ClassId) (dI : Nat → Nat → Nat) (ad : Nat → Nat) (ck : Nat → ClassId) (rf : Int32) (n : Nat) (fr : Nat → Int32) (a : Nat) (ar : Nat → Int32) (z : Nat → Nat) (pc : Nat) (pe : Int32) (pt pp : Nat) (pf : Nat → Nat → Int32) (ic : Nat) (ie ip iz ia : Int32) (st rt : Nat → Int32) (pb : Nat → Nat → Int32) (w : Int32) (sz : Nat) : Met l y_PL_rightsOf w_PL_rightsOf { frames := 0, cells := 0, slots := 0, locals := 0 } (va_Pc [.int w] (xP (dC, dI) (tyG ck) (wsG ad ck rf n fr a ar z pc pe pt pp pf ic ie ip iz ia st rt pb) sz)) (xQi (dC, dI) (tyG ck) (va_A (wsG ad ck rf n fr a ar z pc pe pt pp pf ic ie ip iz ia st rt pb) sz) (wsG ad ck rf n fr a ar z pc pe pt pp pf ic ie ip iz ia st rt pb) (fun r => r = rgO w)) 0 0 (va_A (wsG ad ck rf n fr a ar z pc pe pt pp pf ic ie ip iz ia st rt pb) sz) := by
  refine xof (cc := b_PL_rightsOf) (maxL := 1) (ret := (some .int)) (own := R_PL) (Qc := fun A => (xQi (dC, dI) (tyG ck) A (wsG ad ck rf n fr a ar z pc pe pt pp pf ic ie ip iz ia st rt pb) (fun r => r = rgO w))) (by decide) rfl rfl (Nat.le_of_ble_eq_true rfl) ?_ sz
  intro p e s m below meth c A C hnm hK hP hD hA hN hZ hS ls hl
  obtain ⟨hx, hb, hr, hml, hown, hts, hlocks⟩ := C
  have hl : lv_has ls 1 [(0, .int w)] := hl
  refine lv_bipush (v := 8) hx hb d_PL_rightsOf_0 (by decide) ?_
  refine lv_iload_n hx hb d_PL_rightsOf_2 rfl (lv_at hl 0 rfl) ?_
  refine lv_iconst (v := 4) hx hb d_PL_rightsOf_3 (by decide) ?_
  refine lv_iand hx hb d_PL_rightsOf_4 ?_
  refine lv_if_eq (tgt := 12) hx hb d_PL_rightsOf_5 (by decide) (fun c_1 => ?_) (fun c_1 => ?_)
  · skip
    refine lv_iconst (v := 0) hx hb d_PL_rightsOf_12 (by decide) ?_
    refine lv_ior hx hb d_PL_rightsOf_13 ?_
    refine lv_iload_n hx hb d_PL_rightsOf_14 rfl (lv_at hl 0 rfl) ?_
    refine lv_iconst (v := 2) hx hb d_PL_rightsOf_15 (by decide) ?_
    refine lv_iand hx hb d_PL_rightsOf_16 ?_
    refine lv_if_eq (tgt := 24) hx hb d_PL_rightsOf_17 (by decide) (fun c_2 => ?_) (fun c_2 => ?_)
    · skip
      refine lv_iconst (v := 0) hx hb d_PL_rightsOf_24 (by decide) ?_
      refine lv_ior hx hb d_PL_rightsOf_25 ?_
      refine lv_iload_n hx hb d_PL_rightsOf_26 rfl (lv_at hl 0 rfl) ?_
      refine lv_iconst (v := 1) hx hb d_PL_rightsOf_27 (by decide) ?_
      refine lv_iand hx hb d_PL_rightsOf_28 ?_
      refine lv_if_eq (tgt := 36) hx hb d_PL_rightsOf_29 (by decide) (fun c_3 => ?_) (fun c_3 => ?_)
      · skip
        refine lv_iconst (v := 0) hx hb d_PL_rightsOf_36 (by decide) ?_
        refine lv_ior hx hb d_PL_rightsOf_37 ?_
        exact xreti (v := ((8 ||| 0) ||| 0) ||| 0) hx hb hr hlocks hK hP hD hS (rfl) (by rw [rgO, if_pos c_1, if_pos c_2, if_pos c_3]) d_PL_rightsOf_38
      · skip
        refine lv_iconst (v := 4) hx hb d_PL_rightsOf_32 (by decide) ?_
        refine lv_goto (tgt := 37) hx hb d_PL_rightsOf_33 (by decide) ?_
        refine lv_ior hx hb d_PL_rightsOf_37 ?_
        exact xreti (v := ((8 ||| 0) ||| 0) ||| 4) hx hb hr hlocks hK hP hD hS (rfl) (by rw [rgO, if_pos c_1, if_pos c_2, if_neg c_3]) d_PL_rightsOf_38
    · skip
      refine lv_iconst (v := 2) hx hb d_PL_rightsOf_20 (by decide) ?_
      refine lv_goto (tgt := 25) hx hb d_PL_rightsOf_21 (by decide) ?_
      refine lv_ior hx hb d_PL_rightsOf_25 ?_
      refine lv_iload_n hx hb d_PL_rightsOf_26 rfl (lv_at hl 0 rfl) ?_
      refine lv_iconst (v := 1) hx hb d_PL_rightsOf_27 (by decide) ?_
      refine lv_iand hx hb d_PL_rightsOf_28 ?_
      refine lv_if_eq (tgt := 36) hx hb d_PL_rightsOf_29 (by decide) (fun c_4 => ?_) (fun c_4 => ?_)
      · skip
        refine lv_iconst (v := 0) hx hb d_PL_rightsOf_36 (by decide) ?_
        refine lv_ior hx hb d_PL_rightsOf_37 ?_
        exact xreti (v := ((8 ||| 0) ||| 2) ||| 0) hx hb hr hlocks hK hP hD hS (rfl) (by rw [rgO, if_pos c_1, if_neg c_2, if_pos c_4]) d_PL_rightsOf_38
      · skip
        refine lv_iconst (v := 4) hx hb d_PL_rightsOf_32 (by decide) ?_
        refine lv_goto (tgt := 37) hx hb d_PL_rightsOf_33 (by decide) ?_
        refine lv_ior hx hb d_PL_rightsOf_37 ?_
        exact xreti (v := ((8 ||| 0) ||| 2) ||| 4) hx hb hr hlocks hK hP hD hS (rfl) (by rw [rgO, if_pos c_1, if_neg c_2, if_neg c_4]) d_PL_rightsOf_38
  · skip
    refine lv_iconst (v := 1) hx hb d_PL_rightsOf_8 (by decide) ?_
    refine lv_goto (tgt := 13) hx hb d_PL_rightsOf_9 (by decide) ?_
    refine lv_ior hx hb d_PL_rightsOf_13 ?_
    refine lv_iload_n hx hb d_PL_rightsOf_14 rfl (lv_at hl 0 rfl) ?_
    refine lv_iconst (v := 2) hx hb d_PL_rightsOf_15 (by decide) ?_
    refine lv_iand hx hb d_PL_rightsOf_16 ?_
    refine lv_if_eq (tgt := 24) hx hb d_PL_rightsOf_17 (by decide) (fun c_5 => ?_) (fun c_5 => ?_)
    · skip
      refine lv_iconst (v := 0) hx hb d_PL_rightsOf_24 (by decide) ?_
      refine lv_ior hx hb d_PL_rightsOf_25 ?_
      refine lv_iload_n hx hb d_PL_rightsOf_26 rfl (lv_at hl 0 rfl) ?_
      refine lv_iconst (v := 1) hx hb d_PL_rightsOf_27 (by decide) ?_
      refine lv_iand hx hb d_PL_rightsOf_28 ?_
      refine lv_if_eq (tgt := 36) hx hb d_PL_rightsOf_29 (by decide) (fun c_6 => ?_) (fun c_6 => ?_)
      · skip
        refine lv_iconst (v := 0) hx hb d_PL_rightsOf_36 (by decide) ?_
        refine lv_ior hx hb d_PL_rightsOf_37 ?_
        exact xreti (v := ((8 ||| 1) ||| 0) ||| 0) hx hb hr hlocks hK hP hD hS (rfl) (by rw [rgO, if_neg c_1, if_pos c_5, if_pos c_6]) d_PL_rightsOf_38
      · skip
        refine lv_iconst (v := 4) hx hb d_PL_rightsOf_32 (by decide) ?_
        refine lv_goto (tgt := 37) hx hb d_PL_rightsOf_33 (by decide) ?_
        refine lv_ior hx hb d_PL_rightsOf_37 ?_
        exact xreti (v := ((8 ||| 1) ||| 0) ||| 4) hx hb hr hlocks hK hP hD hS (rfl) (by rw [rgO, if_neg c_1, if_pos c_5, if_neg c_6]) d_PL_rightsOf_38
    · skip
      refine lv_iconst (v := 2) hx hb d_PL_rightsOf_20 (by decide) ?_
      refine lv_goto (tgt := 25) hx hb d_PL_rightsOf_21 (by decide) ?_
      refine lv_ior hx hb d_PL_rightsOf_25 ?_
      refine lv_iload_n hx hb d_PL_rightsOf_26 rfl (lv_at hl 0 rfl) ?_
      refine lv_iconst (v := 1) hx hb d_PL_rightsOf_27 (by decide) ?_
      refine lv_iand hx hb d_PL_rightsOf_28 ?_
      refine lv_if_eq (tgt := 36) hx hb d_PL_rightsOf_29 (by decide) (fun c_7 => ?_) (fun c_7 => ?_)
      · skip
        refine lv_iconst (v := 0) hx hb d_PL_rightsOf_36 (by decide) ?_
        refine lv_ior hx hb d_PL_rightsOf_37 ?_
        exact xreti (v := ((8 ||| 1) ||| 2) ||| 0) hx hb hr hlocks hK hP hD hS (rfl) (by rw [rgO, if_neg c_1, if_neg c_5, if_pos c_7]) d_PL_rightsOf_38
      · skip
        refine lv_iconst (v := 4) hx hb d_PL_rightsOf_32 (by decide) ?_
        refine lv_goto (tgt := 37) hx hb d_PL_rightsOf_33 (by decide) ?_
        refine lv_ior hx hb d_PL_rightsOf_37 ?_
        exact xreti (v := ((8 ||| 1) ||| 2) ||| 4) hx hb hr hlocks hK hP hD hS (rfl) (by rw [rgO, if_neg c_1, if_neg c_5, if_neg c_7]) d_PL_rightsOf_38
set_option maxHeartbeats 4000000 in
set_option maxRecDepth 100000 in
theorem c_pl_isOfOurKind (l : Launch) (dC : Nat → ClassId) (dI : Nat → Nat → Nat) (ad : Nat → Nat) (ck : Nat → ClassId) (rf : Int32) (n : Nat) (fr : Nat → Int32) (a : Nat) (ar : Nat → Int32) (z : Nat → Nat) (pc : Nat) (pe : Int32) (pt pp : Nat) (pf : Nat → Nat → Int32) (ic : Nat) (ie ip iz ia : Int32) (st rt : Nat → Int32) (pb : Nat → Nat → Int32) (h52 : 52 ≤ n) (hn : n ≤ 65536) (sz : Nat) : Met l y_PL_isOfOurKind w_PL_isOfOurKind { frames := 3, cells := 0, slots := 0, locals := 76 } (va_Pc [.ref (ad 6), .ref (ad 1)] (xP (dC, dI) (tyG ck) (wsG ad ck rf n fr a ar z pc pe pt pp pf ic ie ip iz ia st rt pb) sz)) (xQi (dC, dI) (tyG ck) (va_A (wsG ad ck rf n fr a ar z pc pe pt pp pf ic ie ip iz ia st rt pb) sz) (wsG ad ck rf n fr a ar z pc pe pt pp pf ic ie ip iz ia st rt pb) (fun r => r = bI (kindOK fr))) 0 0 (va_A (wsG ad ck rf n fr a ar z pc pe pt pp pf ic ie ip iz ia st rt pb) sz) := by
  refine xof (cc := b_PL_isOfOurKind) (maxL := 2) (ret := (some .boolean)) (own := R_PL) (Qc := fun A => (xQi (dC, dI) (tyG ck) A (wsG ad ck rf n fr a ar z pc pe pt pp pf ic ie ip iz ia st rt pb) (fun r => r = bI (kindOK fr)))) (by decide) rfl rfl (Nat.le_of_ble_eq_true rfl) ?_ sz
  intro p e s m below meth c A C hnm hK hP hD hA hN hZ hS ls hl
  obtain ⟨hx, hb, hr, hml, hown, hts, hlocks⟩ := C
  have hl : lv_has ls 2 [(0, .ref (ad 6)), (1, .ref (ad 1))] := hl
  have b1 := nbN_lt2 fr 16
  have b2 := nbN_lt2 fr 18
  have b3 := nbN_lt2 fr 42
  have b4 := nbN_lt2 fr 44
  refine lv_aload_n hx hb d_PL_isOfOurKind_0 rfl (lv_at hl 1 rfl) ?_
  refine lv_bipush (v := 16) hx hb d_PL_isOfOurKind_1 (by decide) ?_
  refine lv_iconst (v := 2) hx hb d_PL_isOfOurKind_3 (by decide) ?_
  refine xcalli (va_runV (As := [.int 16, .int 2]) (rest := []) ⟨hx, hb, hml, hown, hts⟩ (c_fb_number2 l dC dI ad ck rf n fr a ar z pc pe pt pp pf ic ie ip iz ia st rt pb 16 hn s.heap.size) (cwV 2 hts (xgV wd_277 wd_278 wd_279 wd_16 wd_280) rfl rfl rfl (by decide +kernel) ⟨Nat.le_of_ble_eq_true rfl, Nat.le_of_ble_eq_true rfl⟩) (xpreV (q0 := 1) hK hN hZ hA hS hP hD rfl rfl) rfl rfl hl.1 rfl (lv_room (Nat.le_of_ble_eq_true rfl)) d_PL_isOfOurKind_4 ⟨Nat.zero_le _, Nat.zero_le _⟩) hD hS hA (fun r_1 H locs hr_1 hP hD hS => ?_)
  subst hr_1
  refine xtopi (y := nI (nbN fr 16 2)) (p_num (q := 16) (by omega) hn) ?_
  refine lv_iconst (v := 2) hx hb d_PL_isOfOurKind_7 (by decide) ?_
  refine lv_icmp_ne (tgt := 60) hx hb d_PL_isOfOurKind_8 (by decide) (fun c_2 => ?_) (fun c_2 => ?_)
  · skip
    have c_2 : ¬ (nbN fr 16 2 = 2) := fun h9 => c_2 ((nI_eq (a := nbN fr 16 2) (b := 2) (by omega) (by omega)).mpr h9)
    refine lv_iconst (v := 0) hx hb d_PL_isOfOurKind_60 (by decide) ?_
    exact xreti (v := 0) hx hb hr hlocks hK hP hD hS (rfl) (bI_0 (fun h9 => absurd h9.1 (c_2))) d_PL_isOfOurKind_61
  · skip
    have c_2 : nbN fr 16 2 = 2 := (nI_eq (a := nbN fr 16 2) (b := 2) (by omega) (by omega)).mp c_2
    refine lv_aload_n hx hb d_PL_isOfOurKind_11 rfl (lv_at hl 1 rfl) ?_
    refine lv_bipush (v := 18) hx hb d_PL_isOfOurKind_12 (by decide) ?_
    refine lv_iconst (v := 2) hx hb d_PL_isOfOurKind_14 (by decide) ?_
    refine xcalli (va_runV (As := [.int 18, .int 2]) (rest := []) ⟨hx, hb, hml, hown, hts⟩ (c_fb_number2 l dC dI ad ck rf n fr a ar z pc pe pt pp pf ic ie ip iz ia st rt pb 18 hn H.size) (cwV 2 hts (xgV wd_277 wd_278 wd_279 wd_16 wd_280) rfl rfl rfl (by decide +kernel) ⟨Nat.le_of_ble_eq_true rfl, Nat.le_of_ble_eq_true rfl⟩) (xpreV (q0 := 1) hK hN hZ hA hS hP hD rfl rfl) rfl rfl hl.1 rfl (lv_room (Nat.le_of_ble_eq_true rfl)) d_PL_isOfOurKind_15 ⟨Nat.zero_le _, Nat.zero_le _⟩) hD hS hA (fun r_3 H locs hr_3 hP hD hS => ?_)
    subst hr_3
    refine xtopi (y := nI (nbN fr 18 2)) (p_num (q := 18) (by omega) hn) ?_
    refine lv_sipush (v := 243) hx hb d_PL_isOfOurKind_18 (by decide) ?_
    refine lv_icmp_ne (tgt := 60) hx hb d_PL_isOfOurKind_21 (by decide) (fun c_4 => ?_) (fun c_4 => ?_)
    · skip
      have c_4 : ¬ (nbN fr 18 2 = 243) := fun h9 => c_4 ((nI_eq (a := nbN fr 18 2) (b := 243) (by omega) (by omega)).mpr h9)
      refine lv_iconst (v := 0) hx hb d_PL_isOfOurKind_60 (by decide) ?_
      exact xreti (v := 0) hx hb hr hlocks hK hP hD hS (rfl) (bI_0 (fun h9 => absurd h9.2.1 (c_4))) d_PL_isOfOurKind_61
    · skip
      have c_4 : nbN fr 18 2 = 243 := (nI_eq (a := nbN fr 18 2) (b := 243) (by omega) (by omega)).mp c_4
      refine lv_aload_n hx hb d_PL_isOfOurKind_24 rfl (lv_at hl 1 rfl) ?_
      refine lv_bipush (v := 20) hx hb d_PL_isOfOurKind_25 (by decide) ?_
      refine lv_iconst (v := 4) hx hb d_PL_isOfOurKind_27 (by decide) ?_
      refine xcalli (va_runV (As := [.int 20, .int 4]) (rest := []) ⟨hx, hb, hml, hown, hts⟩ (c_fb_number4 l dC dI ad ck rf n fr a ar z pc pe pt pp pf ic ie ip iz ia st rt pb 20 hn H.size) (cwV 2 hts (xgV wd_277 wd_278 wd_279 wd_16 wd_280) rfl rfl rfl (by decide +kernel) ⟨Nat.le_of_ble_eq_true rfl, Nat.le_of_ble_eq_true rfl⟩) (xpreV (q0 := 1) hK hN hZ hA hS hP hD rfl rfl) rfl rfl hl.1 rfl (lv_room (Nat.le_of_ble_eq_true rfl)) d_PL_isOfOurKind_28 ⟨Nat.zero_le _, Nat.zero_le _⟩) hD hS hA (fun r_5 H locs hr_5 hP hD hS => ?_)
      subst hr_5
      refine xtopi (y := nI (nbN fr 20 4)) (p_num (q := 20) (by omega) hn) ?_
      refine lv_iconst (v := 1) hx hb d_PL_isOfOurKind_31 (by decide) ?_
      refine lv_icmp_ne (tgt := 60) hx hb d_PL_isOfOurKind_32 (by decide) (fun c_6 => ?_) (fun c_6 => ?_)
      · skip
        have c_6 : ¬ nbN fr 20 4 = 1 := fun h9 => c_6 (by rw [h9]; rfl)
        refine lv_iconst (v := 0) hx hb d_PL_isOfOurKind_60 (by decide) ?_
        exact xreti (v := 0) hx hb hr hlocks hK hP hD hS (rfl) (bI_0 (fun h9 => absurd h9.2.2.1 (c_6))) d_PL_isOfOurKind_61
      · skip
        have c_6 := nI_inj32 (b := 1) (nbN_lt4 _ _) (by decide) c_6
        refine lv_aload_n hx hb d_PL_isOfOurKind_35 rfl (lv_at hl 1 rfl) ?_
        refine lv_bipush (v := 42) hx hb d_PL_isOfOurKind_36 (by decide) ?_
        refine lv_iconst (v := 2) hx hb d_PL_isOfOurKind_38 (by decide) ?_
        refine xcalli (va_runV (As := [.int 42, .int 2]) (rest := []) ⟨hx, hb, hml, hown, hts⟩ (c_fb_number2 l dC dI ad ck rf n fr a ar z pc pe pt pp pf ic ie ip iz ia st rt pb 42 hn H.size) (cwV 2 hts (xgV wd_277 wd_278 wd_279 wd_16 wd_280) rfl rfl rfl (by decide +kernel) ⟨Nat.le_of_ble_eq_true rfl, Nat.le_of_ble_eq_true rfl⟩) (xpreV (q0 := 1) hK hN hZ hA hS hP hD rfl rfl) rfl rfl hl.1 rfl (lv_room (Nat.le_of_ble_eq_true rfl)) d_PL_isOfOurKind_39 ⟨Nat.zero_le _, Nat.zero_le _⟩) hD hS hA (fun r_7 H locs hr_7 hP hD hS => ?_)
        subst hr_7
        refine xtopi (y := nI (nbN fr 42 2)) (p_num (q := 42) (by omega) hn) ?_
        refine lv_bipush (v := 32) hx hb d_PL_isOfOurKind_42 (by decide) ?_
        refine lv_icmp_ne (tgt := 60) hx hb d_PL_isOfOurKind_44 (by decide) (fun c_8 => ?_) (fun c_8 => ?_)
        · skip
          have c_8 : ¬ (nbN fr 42 2 = 32) := fun h9 => c_8 ((nI_eq (a := nbN fr 42 2) (b := 32) (by omega) (by omega)).mpr h9)
          refine lv_iconst (v := 0) hx hb d_PL_isOfOurKind_60 (by decide) ?_
          exact xreti (v := 0) hx hb hr hlocks hK hP hD hS (rfl) (bI_0 (fun h9 => absurd h9.2.2.2.1 (c_8))) d_PL_isOfOurKind_61
        · skip
          have c_8 : nbN fr 42 2 = 32 := (nI_eq (a := nbN fr 42 2) (b := 32) (by omega) (by omega)).mp c_8
          refine lv_aload_n hx hb d_PL_isOfOurKind_47 rfl (lv_at hl 1 rfl) ?_
          refine xcalli (va_runS (As := [.ref (ad 1)]) (rest := []) ⟨hx, hb, hml, hown, hts⟩ (c_pl_headerCount l dC dI ad ck rf n fr a ar z pc pe pt pp pf ic ie ip iz ia st rt pb h52 hn H.size) (cwS 1 hts (xgS wd_285 wd_286 wd_18 wd_287) rfl rfl rfl (by decide +kernel) ⟨Nat.le_of_ble_eq_true rfl, Nat.le_of_ble_eq_true rfl⟩) (xpreS hK hN hZ hA hS hP hD) rfl rfl hl.1 rfl (lv_room (Nat.le_of_ble_eq_true rfl)) d_PL_isOfOurKind_48 ⟨Nat.zero_le _, Nat.zero_le _⟩) hD hS hA (fun r_9 H locs hr_9 hP hD hS => ?_)
          subst hr_9
          refine lv_bipush (v := 8) hx hb d_PL_isOfOurKind_51 (by decide) ?_
          refine lv_icmp_gt (tgt := 60) hx hb d_PL_isOfOurKind_53 (by decide) (fun c_10 => ?_) (fun c_10 => ?_)
          · skip
            have c_10 : 8 < nbN fr 44 2 := (nI_ltI (a := 8) (b := nbN fr 44 2) (by omega) (by omega)).mp c_10
            refine lv_iconst (v := 0) hx hb d_PL_isOfOurKind_60 (by decide) ?_
            exact xreti (v := 0) hx hb hr hlocks hK hP hD hS (rfl) (bI_0 (fun h9 => absurd h9.2.2.2.2 (by omega))) d_PL_isOfOurKind_61
          · skip
            have c_10 : ¬ (8 < nbN fr 44 2) := fun h9 => c_10 ((nI_ltI (a := 8) (b := nbN fr 44 2) (by omega) (by omega)).mpr h9)
            refine lv_iconst (v := 1) hx hb d_PL_isOfOurKind_56 (by decide) ?_
            refine lv_goto (tgt := 61) hx hb d_PL_isOfOurKind_57 (by decide) ?_
            exact xreti (v := 1) hx hb hr hlocks hK hP hD hS (rfl) (bI_1 ⟨c_2, c_4, c_6, c_8, by omega⟩) d_PL_isOfOurKind_61
set_option maxHeartbeats 4000000 in
set_option maxRecDepth 100000 in
theorem c_pl_hasAllHeaders (l : Launch) (dC : Nat → ClassId) (dI : Nat → Nat → Nat) (ad : Nat → Nat) (ck : Nat → ClassId) (rf : Int32) (n : Nat) (fr : Nat → Int32) (a : Nat) (ar : Nat → Int32) (z : Nat → Nat) (pc : Nat) (pe : Int32) (pt pp : Nat) (pf : Nat → Nat → Int32) (ic : Nat) (ie ip iz ia : Int32) (st rt : Nat → Int32) (pb : Nat → Nat → Int32) (hk8 : nbN fr 44 2 ≤ 8) (h52 : 52 ≤ n) (hn : n ≤ 65536) (sz : Nat) : Met l y_PL_hasAllHeaders w_PL_hasAllHeaders { frames := 3, cells := 0, slots := 0, locals := 77 } (va_Pc [.ref (ad 6), .ref (ad 1)] (xP (dC, dI) (tyG ck) (wsG ad ck rf n fr a ar z pc pe pt pp pf ic ie ip iz ia st rt pb) sz)) (xQi (dC, dI) (tyG ck) (va_A (wsG ad ck rf n fr a ar z pc pe pt pp pf ic ie ip iz ia st rt pb) sz) (wsG ad ck rf n fr a ar z pc pe pt pp pf ic ie ip iz ia st rt pb) (fun r => r = bI (hdsIn fr n))) 0 0 (va_A (wsG ad ck rf n fr a ar z pc pe pt pp pf ic ie ip iz ia st rt pb) sz) := by
  refine xof (cc := b_PL_hasAllHeaders) (maxL := 3) (ret := (some .boolean)) (own := R_PL) (Qc := fun A => (xQi (dC, dI) (tyG ck) A (wsG ad ck rf n fr a ar z pc pe pt pp pf ic ie ip iz ia st rt pb) (fun r => r = bI (hdsIn fr n)))) (by decide) rfl rfl (Nat.le_of_ble_eq_true rfl) ?_ sz
  intro p e s m below meth c A C hnm hK hP hD hA hN hZ hS ls hl
  obtain ⟨hx, hb, hr, hml, hown, hts, hlocks⟩ := C
  have hl : lv_has ls 3 [(0, .ref (ad 6)), (1, .ref (ad 1))] := hl
  have b1 := nbN_lt4 fr 28
  refine lv_aload_n hx hb d_PL_hasAllHeaders_0 rfl (lv_at hl 1 rfl) ?_
  refine xcalli (va_runS (As := [.ref (ad 1)]) (rest := []) ⟨hx, hb, hml, hown, hts⟩ (c_pl_headerCount l dC dI ad ck rf n fr a ar z pc pe pt pp pf ic ie ip iz ia st rt pb h52 hn s.heap.size) (cwS 1 hts (xgS wd_285 wd_286 wd_18 wd_287) rfl rfl rfl (by decide +kernel) ⟨Nat.le_of_ble_eq_true rfl, Nat.le_of_ble_eq_true rfl⟩) (xpreS hK hN hZ hA hS hP hD) rfl rfl hl.1 rfl (lv_room (Nat.le_of_ble_eq_true rfl)) d_PL_hasAllHeaders_1 ⟨Nat.zero_le _, Nat.zero_le _⟩) hD hS hA (fun r_1 H locs hr_1 hP hD hS => ?_)
  subst hr_1
  refine lv_istore_n (lv' := [(2, .int (nI (nbN fr 44 2))), (0, .ref (ad 6)), (1, .ref (ad 1))]) hx hb d_PL_hasAllHeaders_4 rfl hl (by decide) rfl (fun ls hl => ?_)
  refine lv_iload_n hx hb d_PL_hasAllHeaders_5 rfl (lv_at hl 0 rfl) ?_
  refine lv_if_eq (tgt := 27) hx hb d_PL_hasAllHeaders_6 (by decide) (fun c_2 => ?_) (fun c_2 => ?_)
  · skip
    have c_2 : nbN fr 44 2 = 0 := (nI_eq (a := nbN fr 44 2) (b := 0) (by omega) (by omega)).mp c_2
    refine lv_iconst (v := 1) hx hb d_PL_hasAllHeaders_27 (by decide) ?_
    refine lv_goto (tgt := 32) hx hb d_PL_hasAllHeaders_28 (by decide) ?_
    exact xreti (v := 1) hx hb hr hlocks hK hP hD hS (rfl) (bI_1 (Or.inl c_2)) d_PL_hasAllHeaders_32
  · skip
    have c_2 : ¬ (nbN fr 44 2 = 0) := fun h9 => c_2 ((nI_eq (a := nbN fr 44 2) (b := 0) (by omega) (by omega)).mpr h9)
    refine lv_aload_n hx hb d_PL_hasAllHeaders_9 rfl (lv_at hl 2 rfl) ?_
    refine lv_aload_n hx hb d_PL_hasAllHeaders_10 rfl (lv_at hl 2 rfl) ?_
    refine lv_bipush (v := 28) hx hb d_PL_hasAllHeaders_11 (by decide) ?_
    refine xcalll (va_runV (As := [.int 28]) (rest := [.ref (ad 1)]) ⟨hx, hb, hml, hown, hts⟩ (c_fb_unsigned l dC dI ad ck rf n fr a ar z pc pe pt pp pf ic ie ip iz ia st rt pb 28 hn H.size) (cwV 1 hts (xgV wd_292 wd_293 wd_294 wd_16 wd_295) rfl rfl rfl (by decide +kernel) ⟨Nat.le_of_ble_eq_true rfl, Nat.le_of_ble_eq_true rfl⟩) (xpreV (q0 := 1) hK hN hZ hA hS hP hD rfl rfl) rfl rfl hl.1 rfl (lv_room (Nat.le_of_ble_eq_true rfl)) d_PL_hasAllHeaders_13 ⟨Nat.zero_le _, Nat.zero_le _⟩) hD hS hA (fun r_3 H locs hr_3 hP hD hS => ?_)
    subst hr_3
    refine xtopl (y := lN (nbN fr 28 4)) (p_uns (q := 28) (by omega) hn) ?_
    refine lv_iload_n hx hb d_PL_hasAllHeaders_16 rfl (lv_at hl 0 rfl) ?_
    refine lv_bipush (v := 32) hx hb d_PL_hasAllHeaders_17 (by decide) ?_
    refine lv_imul hx hb d_PL_hasAllHeaders_19 ?_
    refine xtopi (y := nI ((nbN fr 44 2) * 32)) (pk_mul (nbN fr 44 2) (32)) ?_
    refine lv_i2l hx hb d_PL_hasAllHeaders_20 rfl ?_
    refine xtopl (y := lN ((nbN fr 44 2) * 32)) (nI_l (n := (nbN fr 44 2) * 32) (by omega)) ?_
    refine xcalli (va_runV (As := [.long (lN (nbN fr 28 4)), .long (lN ((nbN fr 44 2) * 32))]) (rest := []) ⟨hx, hb, hml, hown, hts⟩ (c_fb_holds l dC dI ad ck rf n fr a ar z pc pe pt pp pf ic ie ip iz ia st rt pb (lN (nbN fr 28 4)) (lN ((nbN fr 44 2) * 32)) hn H.size) (cwV 2 hts (xgV wd_274 wd_221 wd_222 wd_16 wd_223) rfl rfl rfl (by decide +kernel) ⟨Nat.le_of_ble_eq_true rfl, Nat.le_of_ble_eq_true rfl⟩) (xpreV (q0 := 1) hK hN hZ hA hS hP hD rfl rfl) rfl rfl hl.1 rfl (lv_room (Nat.le_of_ble_eq_true rfl)) d_PL_hasAllHeaders_21 ⟨Nat.zero_le _, Nat.zero_le _⟩) hD hS hA (fun r_4 H locs hr_4 hP hD hS => ?_)
    subst hr_4
    refine lv_if_eq (tgt := 31) hx hb d_PL_hasAllHeaders_24 (by decide) (fun c_5 => ?_) (fun c_5 => ?_)
    · skip
      have c_5 := bI_f c_5
      have c_5 : ¬ (nbN fr 28 4 + nbN fr 44 2 * 32 ≤ n) := fun h9 => c_5 ((p_hl (by omega) (by omega)).mpr h9)
      refine lv_iconst (v := 0) hx hb d_PL_hasAllHeaders_31 (by decide) ?_
      exact xreti (v := 0) hx hb hr hlocks hK hP hD hS (rfl) (bI_0 (fun h9 => h9.elim c_2 c_5)) d_PL_hasAllHeaders_32
    · skip
      have c_5 := bI_t c_5
      have c_5 := (p_hl (by omega) (by omega)).mp c_5
      refine lv_iconst (v := 1) hx hb d_PL_hasAllHeaders_27 (by decide) ?_
      refine lv_goto (tgt := 32) hx hb d_PL_hasAllHeaders_28 (by decide) ?_
      exact xreti (v := 1) hx hb hr hlocks hK hP hD hS (rfl) (bI_1 (Or.inr c_5)) d_PL_hasAllHeaders_32
set_option maxHeartbeats 4000000 in
set_option maxRecDepth 100000 in
theorem c_pl_readHeader (l : Launch) (dC : Nat → ClassId) (dI : Nat → Nat → Nat) (ad : Nat → Nat) (ck : Nat → ClassId) (rf : Int32) (n : Nat) (fr : Nat → Int32) (a : Nat) (ar : Nat → Int32) (z : Nat → Nat) (pc : Nat) (pe : Int32) (pt pp : Nat) (pf : Nat → Nat → Int32) (ic : Nat) (ie ip iz ia : Int32) (st rt : Nat → Int32) (pb : Nat → Nat → Int32) (q : Nat) (hq : q + 32 ≤ n) (hpc : pc < 8) (hpt : pt ≤ 1073733632) (hn : n ≤ 65536) (sz : Nat) : Met l y_PL_readHeader w_PL_readHeader { frames := 3, cells := 0, slots := 0, locals := 79 } (va_Pc [.ref (ad 6), .ref (ad 1), .int (nI q)] (xP (dC, dI) (tyG ck) (wsG ad ck rf n fr a ar z pc pe pt pp pf ic ie ip iz ia st rt pb) sz)) (xQi (dC, dI) (tyG ck) (va_A (wsG ad ck rf n fr a ar z pc pe pt pp pf ic ie ip iz ia st rt pb) sz) (wsG ad ck rf n fr a ar z ((psStep fr n q (pc, pt, pp, pf)).1) pe ((psStep fr n q (pc, pt, pp, pf)).2.1) ((psStep fr n q (pc, pt, pp, pf)).2.2.1) ((psStep fr n q (pc, pt, pp, pf)).2.2.2) ic ie ip iz ia st rt pb) (fun r => r = bI (hdSkip fr q ∨ hdGood fr n pt q))) 0 0 (va_A (wsG ad ck rf n fr a ar z pc pe pt pp pf ic ie ip iz ia st rt pb) sz) := by
  refine xof (cc := b_PL_readHeader) (maxL := 12) (ret := (some .boolean)) (own := R_PL) (Qc := fun A => (xQi (dC, dI) (tyG ck) A (wsG ad ck rf n fr a ar z ((psStep fr n q (pc, pt, pp, pf)).1) pe ((psStep fr n q (pc, pt, pp, pf)).2.1) ((psStep fr n q (pc, pt, pp, pf)).2.2.1) ((psStep fr n q (pc, pt, pp, pf)).2.2.2) ic ie ip iz ia st rt pb) (fun r => r = bI (hdSkip fr q ∨ hdGood fr n pt q)))) (by decide) rfl rfl (Nat.le_of_ble_eq_true rfl) ?_ sz
  intro p e s m below meth c A C hnm hK hP hD hA hN hZ hS ls hl
  obtain ⟨hx, hb, hr, hml, hown, hts, hlocks⟩ := C
  have hl : lv_has ls 12 [(0, .ref (ad 6)), (1, .ref (ad 1)), (2, .int (nI q))] := hl
  have b1 := nbN_lt4 fr (q + 4)
  have b2 := nbN_lt4 fr (q + 8)
  have b3 := nbN_lt4 fr (q + 16)
  have b4 := nbN_lt4 fr (q + 20)
  refine lv_aload_n hx hb d_PL_readHeader_0 rfl (lv_at hl 1 rfl) ?_
  refine lv_iload_n hx hb d_PL_readHeader_1 rfl (lv_at hl 2 rfl) ?_
  refine lv_iconst (v := 4) hx hb d_PL_readHeader_2 (by decide) ?_
  refine lv_iadd hx hb d_PL_readHeader_3 ?_
  refine xtopi (y := nI (q + 4)) (nI_add (q) (4)) ?_
  refine xcalll (va_runV (As := [.int (nI (q + 4))]) (rest := []) ⟨hx, hb, hml, hown, hts⟩ (c_fb_unsigned l dC dI ad ck rf n fr a ar z pc pe pt pp pf ic ie ip iz ia st rt pb (nI (q + 4)) hn s.heap.size) (cwV 1 hts (xgV wd_292 wd_293 wd_294 wd_16 wd_295) rfl rfl rfl (by decide +kernel) ⟨Nat.le_of_ble_eq_true rfl, Nat.le_of_ble_eq_true rfl⟩) (xpreV (q0 := 1) hK hN hZ hA hS hP hD rfl rfl) rfl rfl hl.1 rfl (lv_room (Nat.le_of_ble_eq_true rfl)) d_PL_readHeader_4 ⟨Nat.zero_le _, Nat.zero_le _⟩) hD hS hA (fun r_1 H locs hr_1 hP hD hS => ?_)
  subst hr_1
  refine xtopl (y := lN (nbN fr (q + 4) 4)) (p_uns (q := q + 4) (by omega) hn) ?_
  refine lv_lstore_n (lv' := [(3, .long (lN (nbN fr (q + 4) 4))), (0, .ref (ad 6)), (1, .ref (ad 1)), (2, .int (nI q))]) hx hb d_PL_readHeader_7 rfl hl (by decide) rfl (fun ls hl => ?_)
  refine lv_aload_n hx hb d_PL_readHeader_8 rfl (lv_at hl 2 rfl) ?_
  refine lv_iload_n hx hb d_PL_readHeader_9 rfl (lv_at hl 3 rfl) ?_
  refine lv_bipush (v := 8) hx hb d_PL_readHeader_10 (by decide) ?_
  refine lv_iadd hx hb d_PL_readHeader_12 ?_
  refine xtopi (y := nI (q + 8)) (nI_add (q) (8)) ?_
  refine xcalll (va_runV (As := [.int (nI (q + 8))]) (rest := []) ⟨hx, hb, hml, hown, hts⟩ (c_fb_unsigned l dC dI ad ck rf n fr a ar z pc pe pt pp pf ic ie ip iz ia st rt pb (nI (q + 8)) hn H.size) (cwV 1 hts (xgV wd_292 wd_293 wd_294 wd_16 wd_295) rfl rfl rfl (by decide +kernel) ⟨Nat.le_of_ble_eq_true rfl, Nat.le_of_ble_eq_true rfl⟩) (xpreV (q0 := 1) hK hN hZ hA hS hP hD rfl rfl) rfl rfl hl.1 rfl (lv_room (Nat.le_of_ble_eq_true rfl)) d_PL_readHeader_13 ⟨Nat.zero_le _, Nat.zero_le _⟩) hD hS hA (fun r_2 H locs hr_2 hP hD hS => ?_)
  subst hr_2
  refine xtopl (y := lN (nbN fr (q + 8) 4)) (p_uns (q := q + 8) (by omega) hn) ?_
  refine lv_lstore (lv' := [(5, .long (lN (nbN fr (q + 8) 4))), (3, .long (lN (nbN fr (q + 4) 4))), (0, .ref (ad 6)), (1, .ref (ad 1)), (2, .int (nI q))]) hx hb d_PL_readHeader_16 hl (by decide) rfl (fun ls hl => ?_)
  refine lv_aload_n hx hb d_PL_readHeader_18 rfl (lv_at hl 3 rfl) ?_
  refine lv_iload_n hx hb d_PL_readHeader_19 rfl (lv_at hl 4 rfl) ?_
  refine lv_bipush (v := 16) hx hb d_PL_readHeader_20 (by decide) ?_
  refine lv_iadd hx hb d_PL_readHeader_22 ?_
  refine xtopi (y := nI (q + 16)) (nI_add (q) (16)) ?_
  refine xcalll (va_runV (As := [.int (nI (q + 16))]) (rest := []) ⟨hx, hb, hml, hown, hts⟩ (c_fb_unsigned l dC dI ad ck rf n fr a ar z pc pe pt pp pf ic ie ip iz ia st rt pb (nI (q + 16)) hn H.size) (cwV 1 hts (xgV wd_292 wd_293 wd_294 wd_16 wd_295) rfl rfl rfl (by decide +kernel) ⟨Nat.le_of_ble_eq_true rfl, Nat.le_of_ble_eq_true rfl⟩) (xpreV (q0 := 1) hK hN hZ hA hS hP hD rfl rfl) rfl rfl hl.1 rfl (lv_room (Nat.le_of_ble_eq_true rfl)) d_PL_readHeader_23 ⟨Nat.zero_le _, Nat.zero_le _⟩) hD hS hA (fun r_3 H locs hr_3 hP hD hS => ?_)
  subst hr_3
  refine xtopl (y := lN (nbN fr (q + 16) 4)) (p_uns (q := q + 16) (by omega) hn) ?_
  refine lv_lstore (lv' := [(7, .long (lN (nbN fr (q + 16) 4))), (5, .long (lN (nbN fr (q + 8) 4))), (3, .long (lN (nbN fr (q + 4) 4))), (0, .ref (ad 6)), (1, .ref (ad 1)), (2, .int (nI q))]) hx hb d_PL_readHeader_26 hl (by decide) rfl (fun ls hl => ?_)
  refine lv_aload_n hx hb d_PL_readHeader_28 rfl (lv_at hl 4 rfl) ?_
  refine lv_iload_n hx hb d_PL_readHeader_29 rfl (lv_at hl 5 rfl) ?_
  refine lv_bipush (v := 20) hx hb d_PL_readHeader_30 (by decide) ?_
  refine lv_iadd hx hb d_PL_readHeader_32 ?_
  refine xtopi (y := nI (q + 20)) (nI_add (q) (20)) ?_
  refine xcalll (va_runV (As := [.int (nI (q + 20))]) (rest := []) ⟨hx, hb, hml, hown, hts⟩ (c_fb_unsigned l dC dI ad ck rf n fr a ar z pc pe pt pp pf ic ie ip iz ia st rt pb (nI (q + 20)) hn H.size) (cwV 1 hts (xgV wd_292 wd_293 wd_294 wd_16 wd_295) rfl rfl rfl (by decide +kernel) ⟨Nat.le_of_ble_eq_true rfl, Nat.le_of_ble_eq_true rfl⟩) (xpreV (q0 := 1) hK hN hZ hA hS hP hD rfl rfl) rfl rfl hl.1 rfl (lv_room (Nat.le_of_ble_eq_true rfl)) d_PL_readHeader_33 ⟨Nat.zero_le _, Nat.zero_le _⟩) hD hS hA (fun r_4 H locs hr_4 hP hD hS => ?_)
  subst hr_4
  refine xtopl (y := lN (nbN fr (q + 20) 4)) (p_uns (q := q + 20) (by omega) hn) ?_
  refine lv_lstore (lv' := [(9, .long (lN (nbN fr (q + 20) 4))), (7, .long (lN (nbN fr (q + 16) 4))), (5, .long (lN (nbN fr (q + 8) 4))), (3, .long (lN (nbN fr (q + 4) 4))), (0, .ref (ad 6)), (1, .ref (ad 1)), (2, .int (nI q))]) hx hb d_PL_readHeader_36 hl (by decide) rfl (fun ls hl => ?_)
  refine lv_aload_n hx hb d_PL_readHeader_38 rfl (lv_at hl 5 rfl) ?_
  refine lv_iload_n hx hb d_PL_readHeader_39 rfl (lv_at hl 6 rfl) ?_
  refine lv_iconst (v := 4) hx hb d_PL_readHeader_40 (by decide) ?_
  refine xcalli (va_runV (As := [.int (nI q), .int 4]) (rest := []) ⟨hx, hb, hml, hown, hts⟩ (c_fb_number4 l dC dI ad ck rf n fr a ar z pc pe pt pp pf ic ie ip iz ia st rt pb (nI q) hn H.size) (cwV 2 hts (xgV wd_277 wd_278 wd_279 wd_16 wd_280) rfl rfl rfl (by decide +kernel) ⟨Nat.le_of_ble_eq_true rfl, Nat.le_of_ble_eq_true rfl⟩) (xpreV (q0 := 1) hK hN hZ hA hS hP hD rfl rfl) rfl rfl hl.1 rfl (lv_room (Nat.le_of_ble_eq_true rfl)) d_PL_readHeader_41 ⟨Nat.zero_le _, Nat.zero_le _⟩) hD hS hA (fun r_5 H locs hr_5 hP hD hS => ?_)
  subst hr_5
  refine xtopi (y := nI (nbN fr q 4)) (p_num (q := q) (by omega) hn) ?_
  refine lv_iconst (v := 1) hx hb d_PL_readHeader_44 (by decide) ?_
  refine lv_icmp_ne (tgt := 55) hx hb d_PL_readHeader_45 (by decide) (fun c_6 => ?_) (fun c_6 => ?_)
  · skip
    have c_6 : ¬ hdK fr q = 1 := fun h9 => c_6 (by show nI (hdK fr q) = 1; rw [h9]; rfl)
    refine lv_iconst (v := 1) hx hb d_PL_readHeader_55 (by decide) ?_
    have hw9 : wsG ad ck rf n fr a ar z pc pe pt pp pf ic ie ip iz ia st rt pb = wsG ad ck rf n fr a ar z ((psStep fr n q (pc, pt, pp, pf)).1) pe ((psStep fr n q (pc, pt, pp, pf)).2.1) ((psStep fr n q (pc, pt, pp, pf)).2.2.1) ((psStep fr n q (pc, pt, pp, pf)).2.2.2) ic ie ip iz ia st rt pb := by rw [psStep_skip (Or.inl c_6)]
    rw [hw9] at hP hD
    exact xreti (v := 1) hx hb hr hlocks hK hP hD hS (rfl) (bI_1 (Or.inl (Or.inl c_6))) d_PL_readHeader_56
  · skip
    have c_6 := nI_inj32 (b := 1) (nbN_lt4 _ _) (by decide) c_6
    refine lv_lload hx hb d_PL_readHeader_48 (lv_at hl 0 rfl) ?_
    refine lv_lconst (v := 0) hx hb d_PL_readHeader_50 (by decide) ?_
    refine W.lcmp hx hb d_PL_readHeader_51 ?_
    refine lv_if_ne (tgt := 57) hx hb d_PL_readHeader_52 (by decide) (fun c_7 => ?_) (fun c_7 => ?_)
    · skip
      rw [lg_cmp_eq] at c_7
      have c_7 : ¬ (nbN fr (q + 20) 4 = 0) := fun h9 => c_7 ((pk_lEQ (a := nbN fr (q + 20) 4) (b := 0) (by omega) (by omega)).mpr h9)
      have hskip : ¬ hdSkip fr q := fun h9 => h9.elim (fun h8 => h8 c_6) c_7
      refine lv_lload hx hb d_PL_readHeader_57 (lv_at hl 2 rfl) ?_
      refine lv_ldc2 (v := 4096) hx hb hown (hts _ wd_306) d_PL_readHeader_59 ?_
      refine lv_lrem hx hb d_PL_readHeader_62 (by decide) ?_
      refine xtopl (y := lN ((nbN fr (q + 8) 4) % 4096)) (pk_lRem (a := nbN fr (q + 8) 4) (b := 4096) (by omega) (by omega) (by omega)) ?_
      refine lv_lconst (v := 0) hx hb d_PL_readHeader_63 (by decide) ?_
      refine W.lcmp hx hb d_PL_readHeader_64 ?_
      refine lv_if_ne (tgt := 91) hx hb d_PL_readHeader_65 (by decide) (fun c_8 => ?_) (fun c_8 => ?_)
      · skip
        rw [lg_cmp_eq] at c_8
        have c_8 : ¬ ((nbN fr (q + 8) 4) % 4096 = 0) := fun h9 => c_8 ((pk_lEQ (a := (nbN fr (q + 8) 4) % 4096) (b := 0) (by omega) (by omega)).mpr h9)
        have hgood : ¬ hdGood fr n pt q := fun h9 => absurd (show nbN fr (q + 8) 4 % 4096 = 0 from h9.1) (by omega)
        refine lv_iconst (v := 0) hx hb d_PL_readHeader_91 (by decide) ?_
        have hw9 : wsG ad ck rf n fr a ar z pc pe pt pp pf ic ie ip iz ia st rt pb = wsG ad ck rf n fr a ar z ((psStep fr n q (pc, pt, pp, pf)).1) pe ((psStep fr n q (pc, pt, pp, pf)).2.1) ((psStep fr n q (pc, pt, pp, pf)).2.2.1) ((psStep fr n q (pc, pt, pp, pf)).2.2.2) ic ie ip iz ia st rt pb := by rw [psStep_bad hgood]
        rw [hw9] at hP hD
        exact xreti (v := 0) hx hb hr hlocks hK hP hD hS (rfl) (bI_0 (fun h9 => h9.elim hskip hgood)) d_PL_readHeader_92
      · skip
        rw [lg_cmp_eq] at c_8
        have c_8 : (nbN fr (q + 8) 4) % 4096 = 0 := (pk_lEQ (a := (nbN fr (q + 8) 4) % 4096) (b := 0) (by omega) (by omega)).mp c_8
        refine lv_lload hx hb d_PL_readHeader_68 (lv_at hl 2 rfl) ?_
        refine lv_aload_n hx hb d_PL_readHeader_70 rfl (lv_at hl 4 rfl) ?_
        refine va_get (D := (dC, dI)) (ci := 5) (v := .int (nI pt)) (C := R_PL) (T := T_PL) (N := 5) hx hb hts i_PL hown hK hP 6 rfl rfl 3 (by decide) (hts _ wd_110) (fun _ h9 => h9) rfl d_PL_readHeader_71 ?_
        refine lv_i2l hx hb d_PL_readHeader_74 rfl ?_
        refine xtopl (y := lN pt) (nI_l (n := pt) (by omega)) ?_
        refine W.lcmp hx hb d_PL_readHeader_75 ?_
        refine lv_if_lt (tgt := 91) hx hb d_PL_readHeader_76 (by decide) (fun c_9 => ?_) (fun c_9 => ?_)
        · skip
          rw [lg_cmp_lt] at c_9
          have c_9 : nbN fr (q + 8) 4 < pt := (pk_lLT (a := nbN fr (q + 8) 4) (b := pt) (by omega) (by omega)).mp c_9
          have hgood : ¬ hdGood fr n pt q := fun h9 => absurd (show pt ≤ nbN fr (q + 8) 4 from h9.2.1) (by omega)
          refine lv_iconst (v := 0) hx hb d_PL_readHeader_91 (by decide) ?_
          have hw9 : wsG ad ck rf n fr a ar z pc pe pt pp pf ic ie ip iz ia st rt pb = wsG ad ck rf n fr a ar z ((psStep fr n q (pc, pt, pp, pf)).1) pe ((psStep fr n q (pc, pt, pp, pf)).2.1) ((psStep fr n q (pc, pt, pp, pf)).2.2.1) ((psStep fr n q (pc, pt, pp, pf)).2.2.2) ic ie ip iz ia st rt pb := by rw [psStep_bad hgood]
          rw [hw9] at hP hD
          exact xreti (v := 0) hx hb hr hlocks hK hP hD hS (rfl) (bI_0 (fun h9 => h9.elim hskip hgood)) d_PL_readHeader_92
        · skip
          rw [lg_cmp_lt] at c_9
          have c_9 : ¬ (nbN fr (q + 8) 4 < pt) := fun h9 => c_9 ((pk_lLT (a := nbN fr (q + 8) 4) (b := pt) (by omega) (by omega)).mpr h9)
          refine lv_lload hx hb d_PL_readHeader_79 (lv_at hl 2 rfl) ?_
          refine lv_lload hx hb d_PL_readHeader_81 (lv_at hl 0 rfl) ?_
          refine lv_ladd hx hb d_PL_readHeader_83 ?_
          refine xtopl (y := lN ((nbN fr (q + 8) 4) + (nbN fr (q + 20) 4))) (lN_add (nbN fr (q + 8) 4) (nbN fr (q + 20) 4)) ?_
          refine lv_ldc2 (v := 1073733632) hx hb hown (hts _ wd_307) d_PL_readHeader_84 ?_
          refine W.lcmp hx hb d_PL_readHeader_87 ?_
          refine lv_if_le (tgt := 93) hx hb d_PL_readHeader_88 (by decide) (fun c_10 => ?_) (fun c_10 => ?_)
          · skip
            rw [lg_cmp_le] at c_10
            have c_10 : (nbN fr (q + 8) 4) + (nbN fr (q + 20) 4) ≤ 1073733632 := (pk_lLE (a := (nbN fr (q + 8) 4) + (nbN fr (q + 20) 4)) (b := 1073733632) (by omega) (by omega)).mp c_10
            refine lv_lload hx hb d_PL_readHeader_93 (lv_at hl 1 rfl) ?_
            refine lv_lload hx hb d_PL_readHeader_95 (lv_at hl 0 rfl) ?_
            refine W.lcmp hx hb d_PL_readHeader_97 ?_
            refine lv_if_gt (tgt := 123) hx hb d_PL_readHeader_98 (by decide) (fun c_11 => ?_) (fun c_11 => ?_)
            · skip
              rw [lg_cmp_gt] at c_11
              have c_11 : nbN fr (q + 20) 4 < nbN fr (q + 16) 4 := (pk_lLT (a := nbN fr (q + 20) 4) (b := nbN fr (q + 16) 4) (by omega) (by omega)).mp c_11
              have hgood : ¬ hdGood fr n pt q := fun h9 => absurd (show nbN fr (q + 16) 4 ≤ nbN fr (q + 20) 4 from h9.2.2.2.1) (by omega)
              refine lv_iconst (v := 0) hx hb d_PL_readHeader_123 (by decide) ?_
              have hw9 : wsG ad ck rf n fr a ar z pc pe pt pp pf ic ie ip iz ia st rt pb = wsG ad ck rf n fr a ar z ((psStep fr n q (pc, pt, pp, pf)).1) pe ((psStep fr n q (pc, pt, pp, pf)).2.1) ((psStep fr n q (pc, pt, pp, pf)).2.2.1) ((psStep fr n q (pc, pt, pp, pf)).2.2.2) ic ie ip iz ia st rt pb := by rw [psStep_bad hgood]
              rw [hw9] at hP hD
              exact xreti (v := 0) hx hb hr hlocks hK hP hD hS (rfl) (bI_0 (fun h9 => h9.elim hskip hgood)) d_PL_readHeader_124
            · skip
              rw [lg_cmp_gt] at c_11
              have c_11 : ¬ (nbN fr (q + 20) 4 < nbN fr (q + 16) 4) := fun h9 => c_11 ((pk_lLT (a := nbN fr (q + 20) 4) (b := nbN fr (q + 16) 4) (by omega) (by omega)).mpr h9)
              refine lv_aload_n hx hb d_PL_readHeader_101 rfl (lv_at hl 5 rfl) ?_
              refine lv_lload_n hx hb d_PL_readHeader_102 rfl (lv_at hl 3 rfl) ?_
              refine lv_lload hx hb d_PL_readHeader_103 (lv_at hl 1 rfl) ?_
              refine xcalli (va_runV (As := [.long (lN (nbN fr (q + 4) 4)), .long (lN (nbN fr (q + 16) 4))]) (rest := []) ⟨hx, hb, hml, hown, hts⟩ (c_fb_holds l dC dI ad ck rf n fr a ar z pc pe pt pp pf ic ie ip iz ia st rt pb (lN (nbN fr (q + 4) 4)) (lN (nbN fr (q + 16) 4)) hn H.size) (cwV 2 hts (xgV wd_274 wd_221 wd_222 wd_16 wd_223) rfl rfl rfl (by decide +kernel) ⟨Nat.le_of_ble_eq_true rfl, Nat.le_of_ble_eq_true rfl⟩) (xpreV (q0 := 1) hK hN hZ hA hS hP hD rfl rfl) rfl rfl hl.1 rfl (lv_room (Nat.le_of_ble_eq_true rfl)) d_PL_readHeader_105 ⟨Nat.zero_le _, Nat.zero_le _⟩) hD hS hA (fun r_12 H locs hr_12 hP hD hS => ?_)
              subst hr_12
              refine lv_if_eq (tgt := 123) hx hb d_PL_readHeader_108 (by decide) (fun c_13 => ?_) (fun c_13 => ?_)
              · skip
                have c_13 := bI_f c_13
                have c_13 : ¬ (nbN fr (q + 4) 4 + nbN fr (q + 16) 4 ≤ n) := fun h9 => c_13 ((p_hl (nbN_lt4 _ _) (nbN_lt4 _ _)).mpr h9)
                have hgood : ¬ hdGood fr n pt q := fun h9 => absurd (show nbN fr (q + 4) 4 + nbN fr (q + 16) 4 ≤ n from h9.2.2.2.2) (by omega)
                refine lv_iconst (v := 0) hx hb d_PL_readHeader_123 (by decide) ?_
                have hw9 : wsG ad ck rf n fr a ar z pc pe pt pp pf ic ie ip iz ia st rt pb = wsG ad ck rf n fr a ar z ((psStep fr n q (pc, pt, pp, pf)).1) pe ((psStep fr n q (pc, pt, pp, pf)).2.1) ((psStep fr n q (pc, pt, pp, pf)).2.2.1) ((psStep fr n q (pc, pt, pp, pf)).2.2.2) ic ie ip iz ia st rt pb := by rw [psStep_bad hgood]
                rw [hw9] at hP hD
                exact xreti (v := 0) hx hb hr hlocks hK hP hD hS (rfl) (bI_0 (fun h9 => h9.elim hskip hgood)) d_PL_readHeader_124
              · skip
                have c_13 := bI_t c_13
                have c_13 := (p_hl (nbN_lt4 _ _) (nbN_lt4 _ _)).mp c_13
                refine lv_aload_n hx hb d_PL_readHeader_111 rfl (lv_at hl 4 rfl) ?_
                refine va_get (D := (dC, dI)) (ci := 5) (v := .int (nI pc)) (C := R_PL) (T := T_PL) (N := 5) hx hb hts i_PL hown hK hP 6 rfl rfl 1 (by decide) (hts _ wd_106) (fun _ h9 => h9) rfl d_PL_readHeader_112 ?_
                refine lv_aload_n hx hb d_PL_readHeader_115 rfl (lv_at hl 4 rfl) ?_
                refine va_get (D := (dC, dI)) (ci := 5) (v := .ref (ad 7)) (C := R_PL) (T := T_PL) (N := 5) hx hb hts i_PL hown hK hP 6 rfl rfl 0 (by decide) (hts _ wd_103) (fun _ h9 => h9) rfl d_PL_readHeader_116 ?_
                refine va_alen (v := 8) hx hb hK hP 7 2 rfl rfl rfl d_PL_readHeader_119 ?_
                refine lv_icmp_lt (tgt := 125) hx hb d_PL_readHeader_120 (by decide) (fun c_14 => ?_) (fun c_14 => ?_)
                · skip
                  have c_14 : pc < 8 := (nI_ltI (a := pc) (b := 8) (by omega) (by omega)).mp c_14
                  have hgood : hdGood fr n pt q := ⟨by show nbN fr (q + 8) 4 % 4096 = 0; omega, by show pt ≤ nbN fr (q + 8) 4; omega, by show nbN fr (q + 8) 4 + nbN fr (q + 20) 4 ≤ 1073733632; omega, by show nbN fr (q + 16) 4 ≤ nbN fr (q + 20) 4; omega, by show nbN fr (q + 4) 4 + nbN fr (q + 16) 4 ≤ n; omega⟩
                  refine lv_aload_n hx hb d_PL_readHeader_125 rfl (lv_at hl 4 rfl) ?_
                  refine va_get (D := (dC, dI)) (ci := 5) (v := .ref (ad 7)) (C := R_PL) (T := T_PL) (N := 5) hx hb hts i_PL hown hK hP 6 rfl rfl 0 (by decide) (hts _ wd_103) (fun _ h9 => h9) rfl d_PL_readHeader_126 ?_
                  refine lv_aload_n hx hb d_PL_readHeader_129 rfl (lv_at hl 4 rfl) ?_
                  refine va_get (D := (dC, dI)) (ci := 5) (v := .int (nI pc)) (C := R_PL) (T := T_PL) (N := 5) hx hb hts i_PL hown hK hP 6 rfl rfl 1 (by decide) (hts _ wd_106) (fun _ h9 => h9) rfl d_PL_readHeader_130 ?_
                  refine xaald (b := ad (pc + 10)) (k := pc) hx hb hK hP 7 2 rfl rfl (rfl) (by omega) (by decide) rfl d_PL_readHeader_133 ?_
                  refine lv_astore (lv' := [(11, .ref (ad (pc + 10))), (9, .long (lN (nbN fr (q + 20) 4))), (7, .long (lN (nbN fr (q + 16) 4))), (5, .long (lN (nbN fr (q + 8) 4))), (3, .long (lN (nbN fr (q + 4) 4))), (0, .ref (ad 6)), (1, .ref (ad 1)), (2, .int (nI q))]) hx hb d_PL_readHeader_134 hl (by decide) rfl (fun ls hl => ?_)
                  refine lv_aload hx hb d_PL_readHeader_136 (lv_at hl 0 rfl) ?_
                  refine lv_lload_n hx hb d_PL_readHeader_138 rfl (lv_at hl 4 rfl) ?_
                  refine lv_l2i hx hb d_PL_readHeader_139 rfl ?_
                  refine xtopi (y := nI (nbN fr (q + 4) 4)) (lN_i (nbN fr (q + 4) 4)) ?_
                  refine va_putN (D := (dC, dI)) (ci := 4) (v := .int (nI (nbN fr (q + 4) 4))) (ty := .int) (C := R_PT) (T := T_PT) (N := 5) hx hb hts i_PT t_PT k_PT n_PT hown hK hP hD hS (pc + 10) (wsG_part hpc) rfl 0 (by decide) (hN.use wd_83) (fun _ h9 => h9) rfl (by decide +kernel) rfl rfl (Nat.le_of_ble_eq_true rfl) d_PL_readHeader_140 (fun H locs hP hD hS => ?_)
                  have hP : va_P (dC, dI) vwCl (wsG ad ck rf n fr a ar z pc pe pt pp (upp pf pc 0 (nI (nbN fr (q + 4) 4))) ic ie ip iz ia st rt pb) H := by rw [wsG_putP0 hpc] at hP; exact hP
                  have hD : va_D A (wsG ad ck rf n fr a ar z pc pe pt pp (upp pf pc 0 (nI (nbN fr (q + 4) 4))) ic ie ip iz ia st rt pb) := by rw [wsG_putP0 hpc] at hD; exact hD
                  refine lv_aload hx hb d_PL_readHeader_143 (lv_at hl 0 rfl) ?_
                  refine lv_lload hx hb d_PL_readHeader_145 (lv_at hl 2 rfl) ?_
                  refine lv_l2i hx hb d_PL_readHeader_147 rfl ?_
                  refine xtopi (y := nI (nbN fr (q + 16) 4)) (lN_i (nbN fr (q + 16) 4)) ?_
                  refine va_putN (D := (dC, dI)) (ci := 4) (v := .int (nI (nbN fr (q + 16) 4))) (ty := .int) (C := R_PT) (T := T_PT) (N := 5) hx hb hts i_PT t_PT k_PT n_PT hown hK hP hD hS (pc + 10) (wsG_part hpc) rfl 1 (by decide) (hN.use wd_85) (fun _ h9 => h9) rfl (by decide +kernel) rfl rfl (Nat.le_of_ble_eq_true rfl) d_PL_readHeader_148 (fun H locs hP hD hS => ?_)
                  have hP : va_P (dC, dI) vwCl (wsG ad ck rf n fr a ar z pc pe pt pp (upp (upp pf pc 0 (nI (nbN fr (q + 4) 4))) pc 1 (nI (nbN fr (q + 16) 4))) ic ie ip iz ia st rt pb) H := by rw [wsG_putP1 hpc] at hP; exact hP
                  have hD : va_D A (wsG ad ck rf n fr a ar z pc pe pt pp (upp (upp pf pc 0 (nI (nbN fr (q + 4) 4))) pc 1 (nI (nbN fr (q + 16) 4))) ic ie ip iz ia st rt pb) := by rw [wsG_putP1 hpc] at hD; exact hD
                  refine lv_aload hx hb d_PL_readHeader_151 (lv_at hl 0 rfl) ?_
                  refine lv_lload hx hb d_PL_readHeader_153 (lv_at hl 3 rfl) ?_
                  refine lv_l2i hx hb d_PL_readHeader_155 rfl ?_
                  refine xtopi (y := nI (nbN fr (q + 8) 4)) (lN_i (nbN fr (q + 8) 4)) ?_
                  refine va_putN (D := (dC, dI)) (ci := 4) (v := .int (nI (nbN fr (q + 8) 4))) (ty := .int) (C := R_PT) (T := T_PT) (N := 5) hx hb hts i_PT t_PT k_PT n_PT hown hK hP hD hS (pc + 10) (wsG_part hpc) rfl 2 (by decide) (hN.use wd_87) (fun _ h9 => h9) rfl (by decide +kernel) rfl rfl (Nat.le_of_ble_eq_true rfl) d_PL_readHeader_156 (fun H locs hP hD hS => ?_)
                  have hP : va_P (dC, dI) vwCl (wsG ad ck rf n fr a ar z pc pe pt pp (upp (upp (upp pf pc 0 (nI (nbN fr (q + 4) 4))) pc 1 (nI (nbN fr (q + 16) 4))) pc 2 (nI (nbN fr (q + 8) 4))) ic ie ip iz ia st rt pb) H := by rw [wsG_putP2 hpc] at hP; exact hP
                  have hD : va_D A (wsG ad ck rf n fr a ar z pc pe pt pp (upp (upp (upp pf pc 0 (nI (nbN fr (q + 4) 4))) pc 1 (nI (nbN fr (q + 16) 4))) pc 2 (nI (nbN fr (q + 8) 4))) ic ie ip iz ia st rt pb) := by rw [wsG_putP2 hpc] at hD; exact hD
                  refine lv_aload hx hb d_PL_readHeader_159 (lv_at hl 0 rfl) ?_
                  refine lv_lload hx hb d_PL_readHeader_161 (lv_at hl 1 rfl) ?_
                  refine lv_ldc2 (v := 4096) hx hb hown (hts _ wd_306) d_PL_readHeader_163 ?_
                  refine lv_ladd hx hb d_PL_readHeader_166 ?_
                  refine xtopl (y := lN ((nbN fr (q + 20) 4) + 4096)) (lN_add (nbN fr (q + 20) 4) (4096)) ?_
                  refine lv_lconst (v := 1) hx hb d_PL_readHeader_167 (by decide) ?_
                  refine lv_lsub hx hb d_PL_readHeader_168 ?_
                  refine xtopl (y := lN (((nbN fr (q + 20) 4) + 4096) - 1)) (lN_sub (a := (nbN fr (q + 20) 4) + 4096) (b := 1) (by omega)) ?_
                  refine lv_ldc2 (v := 4096) hx hb hown (hts _ wd_306) d_PL_readHeader_169 ?_
                  refine lv_ldiv hx hb d_PL_readHeader_172 (by decide) ?_
                  refine xtopl (y := lN ((((nbN fr (q + 20) 4) + 4096) - 1) / 4096)) (pk_lDiv (a := ((nbN fr (q + 20) 4) + 4096) - 1) (b := 4096) (by omega) (by omega) (by omega)) ?_
                  refine lv_l2i hx hb d_PL_readHeader_173 rfl ?_
                  refine xtopi (y := nI ((((nbN fr (q + 20) 4) + 4096) - 1) / 4096)) (lN_i ((((nbN fr (q + 20) 4) + 4096) - 1) / 4096)) ?_
                  refine va_putN (D := (dC, dI)) (ci := 4) (v := .int (nI ((((nbN fr (q + 20) 4) + 4096) - 1) / 4096))) (ty := .int) (C := R_PT) (T := T_PT) (N := 5) hx hb hts i_PT t_PT k_PT n_PT hown hK hP hD hS (pc + 10) (wsG_part hpc) rfl 3 (by decide) (hN.use wd_89) (fun _ h9 => h9) rfl (by decide +kernel) rfl rfl (Nat.le_of_ble_eq_true rfl) d_PL_readHeader_174 (fun H locs hP hD hS => ?_)
                  have hP : va_P (dC, dI) vwCl (wsG ad ck rf n fr a ar z pc pe pt pp (upp (upp (upp (upp pf pc 0 (nI (nbN fr (q + 4) 4))) pc 1 (nI (nbN fr (q + 16) 4))) pc 2 (nI (nbN fr (q + 8) 4))) pc 3 (nI ((((nbN fr (q + 20) 4) + 4096) - 1) / 4096))) ic ie ip iz ia st rt pb) H := by rw [wsG_putP3 hpc] at hP; exact hP
                  have hD : va_D A (wsG ad ck rf n fr a ar z pc pe pt pp (upp (upp (upp (upp pf pc 0 (nI (nbN fr (q + 4) 4))) pc 1 (nI (nbN fr (q + 16) 4))) pc 2 (nI (nbN fr (q + 8) 4))) pc 3 (nI ((((nbN fr (q + 20) 4) + 4096) - 1) / 4096))) ic ie ip iz ia st rt pb) := by rw [wsG_putP3 hpc] at hD; exact hD
                  refine lv_aload hx hb d_PL_readHeader_177 (lv_at hl 0 rfl) ?_
                  refine lv_aload_n hx hb d_PL_readHeader_179 rfl (lv_at hl 6 rfl) ?_
                  refine lv_iload_n hx hb d_PL_readHeader_180 rfl (lv_at hl 7 rfl) ?_
                  refine lv_bipush (v := 24) hx hb d_PL_readHeader_181 (by decide) ?_
                  refine lv_iadd hx hb d_PL_readHeader_183 ?_
                  refine xtopi (y := nI (q + 24)) (nI_add (q) (24)) ?_
                  refine lv_iconst (v := 4) hx hb d_PL_readHeader_184 (by decide) ?_
                  refine xcalli (va_runV (As := [.int (nI (q + 24)), .int 4]) (rest := [.ref (ad (pc + 10))]) ⟨hx, hb, hml, hown, hts⟩ (c_fb_number4 l dC dI ad ck rf n fr a ar z pc pe pt pp (upp (upp (upp (upp pf pc 0 (nI (nbN fr (q + 4) 4))) pc 1 (nI (nbN fr (q + 16) 4))) pc 2 (nI (nbN fr (q + 8) 4))) pc 3 (nI ((((nbN fr (q + 20) 4) + 4096) - 1) / 4096))) ic ie ip iz ia st rt pb (nI (q + 24)) hn H.size) (cwV 2 hts (xgV wd_277 wd_278 wd_279 wd_16 wd_280) rfl rfl rfl (by decide +kernel) ⟨Nat.le_of_ble_eq_true rfl, Nat.le_of_ble_eq_true rfl⟩) (xpreV (q0 := 1) hK hN hZ hA hS hP hD rfl rfl) rfl rfl hl.1 rfl (lv_room (Nat.le_of_ble_eq_true rfl)) d_PL_readHeader_185 ⟨Nat.zero_le _, Nat.zero_le _⟩) hD hS hA (fun r_15 H locs hr_15 hP hD hS => ?_)
                  subst hr_15
                  refine xtopi (y := nI (nbN fr (q + 24) 4)) (p_num (q := q + 24) (by omega) hn) ?_
                  refine xcalli (va_runS (As := [.int (nI (nbN fr (q + 24) 4))]) (rest := [.ref (ad (pc + 10))]) ⟨hx, hb, hml, hown, hts⟩ (c_pl_rightsOf l dC dI ad ck rf n fr a ar z pc pe pt pp (upp (upp (upp (upp pf pc 0 (nI (nbN fr (q + 4) 4))) pc 1 (nI (nbN fr (q + 16) 4))) pc 2 (nI (nbN fr (q + 8) 4))) pc 3 (nI ((((nbN fr (q + 20) 4) + 4096) - 1) / 4096))) ic ie ip iz ia st rt pb (nI (nbN fr (q + 24) 4)) H.size) (cwS 1 hts (xgS wd_308 wd_309 wd_18 wd_310) rfl rfl rfl (by decide +kernel) ⟨Nat.le_of_ble_eq_true rfl, Nat.le_of_ble_eq_true rfl⟩) (xpreS hK hN hZ hA hS hP hD) rfl rfl hl.1 rfl (lv_room (Nat.le_of_ble_eq_true rfl)) d_PL_readHeader_188 ⟨Nat.zero_le _, Nat.zero_le _⟩) hD hS hA (fun r_16 H locs hr_16 hP hD hS => ?_)
                  subst hr_16
                  refine va_putN (D := (dC, dI)) (ci := 4) (v := .int (rgO (nI (nbN fr (q + 24) 4)))) (ty := .int) (C := R_PT) (T := T_PT) (N := 5) hx hb hts i_PT t_PT k_PT n_PT hown hK hP hD hS (pc + 10) (wsG_part hpc) rfl 4 (by decide) (hN.use wd_91) (fun _ h9 => h9) rfl (by decide +kernel) rfl rfl (Nat.le_of_ble_eq_true rfl) d_PL_readHeader_191 (fun H locs hP hD hS => ?_)
                  have hP : va_P (dC, dI) vwCl (wsG ad ck rf n fr a ar z pc pe pt pp (upp (upp (upp (upp (upp pf pc 0 (nI (nbN fr (q + 4) 4))) pc 1 (nI (nbN fr (q + 16) 4))) pc 2 (nI (nbN fr (q + 8) 4))) pc 3 (nI ((((nbN fr (q + 20) 4) + 4096) - 1) / 4096))) pc 4 (rgO (nI (nbN fr (q + 24) 4)))) ic ie ip iz ia st rt pb) H := by rw [wsG_putP4 hpc] at hP; exact hP
                  have hD : va_D A (wsG ad ck rf n fr a ar z pc pe pt pp (upp (upp (upp (upp (upp pf pc 0 (nI (nbN fr (q + 4) 4))) pc 1 (nI (nbN fr (q + 16) 4))) pc 2 (nI (nbN fr (q + 8) 4))) pc 3 (nI ((((nbN fr (q + 20) 4) + 4096) - 1) / 4096))) pc 4 (rgO (nI (nbN fr (q + 24) 4)))) ic ie ip iz ia st rt pb) := by rw [wsG_putP4 hpc] at hD; exact hD
                  refine lv_aload_n hx hb d_PL_readHeader_194 rfl (lv_at hl 5 rfl) ?_
                  refine lv_dup hx hb d_PL_readHeader_195 rfl ?_
                  refine va_get (D := (dC, dI)) (ci := 5) (v := .int (nI pc)) (C := R_PL) (T := T_PL) (N := 5) hx hb hts i_PL hown hK hP 6 rfl rfl 1 (by decide) (hts _ wd_106) (fun _ h9 => h9) rfl d_PL_readHeader_196 ?_
                  refine lv_iconst (v := 1) hx hb d_PL_readHeader_199 (by decide) ?_
                  refine lv_iadd hx hb d_PL_readHeader_200 ?_
                  refine xtopi (y := nI (pc + 1)) (nI_add (pc) (1)) ?_
                  refine va_put (D := (dC, dI)) (ci := 5) (v := .int (nI (pc + 1))) (ty := .int) (C := R_PL) (T := T_PL) (N := 5) hx hb hts i_PL t_PL k_PL n_PL hown hK hP hD hS 6 rfl rfl 1 (by decide) (hts _ wd_106) (fun _ h9 => h9) rfl (by decide +kernel) rfl rfl (Nat.le_of_ble_eq_true rfl) d_PL_readHeader_201 (fun H locs hP hD hS => ?_)
                  have hP : va_P (dC, dI) vwCl (wsG ad ck rf n fr a ar z (pc + 1) pe pt pp (upp (upp (upp (upp (upp pf pc 0 (nI (nbN fr (q + 4) 4))) pc 1 (nI (nbN fr (q + 16) 4))) pc 2 (nI (nbN fr (q + 8) 4))) pc 3 (nI ((((nbN fr (q + 20) 4) + 4096) - 1) / 4096))) pc 4 (rgO (nI (nbN fr (q + 24) 4)))) ic ie ip iz ia st rt pb) H := hP
                  have hD : va_D A (wsG ad ck rf n fr a ar z (pc + 1) pe pt pp (upp (upp (upp (upp (upp pf pc 0 (nI (nbN fr (q + 4) 4))) pc 1 (nI (nbN fr (q + 16) 4))) pc 2 (nI (nbN fr (q + 8) 4))) pc 3 (nI ((((nbN fr (q + 20) 4) + 4096) - 1) / 4096))) pc 4 (rgO (nI (nbN fr (q + 24) 4)))) ic ie ip iz ia st rt pb) := hD
                  refine lv_aload_n hx hb d_PL_readHeader_204 rfl (lv_at hl 5 rfl) ?_
                  refine lv_aload hx hb d_PL_readHeader_205 (lv_at hl 0 rfl) ?_
                  refine va_getN (D := (dC, dI)) (ci := 4) (v := .int ((upp (upp (upp (upp (upp pf pc 0 (nI (nbN fr (q + 4) 4))) pc 1 (nI (nbN fr (q + 16) 4))) pc 2 (nI (nbN fr (q + 8) 4))) pc 3 (nI ((((nbN fr (q + 20) 4) + 4096) - 1) / 4096))) pc 4 (rgO (nI (nbN fr (q + 24) 4)))) pc 2)) (C := R_PT) (T := T_PT) (N := 5) hx hb hts i_PT hown hK hP (pc + 10) (wsG_part hpc) rfl 2 (by decide) (hN.use wd_87) (fun _ h9 => h9) rfl d_PL_readHeader_207 ?_
                  refine xtopi (y := nI (nbN fr (q + 8) 4)) (by simp [upp, upd]) ?_
                  refine lv_aload hx hb d_PL_readHeader_210 (lv_at hl 0 rfl) ?_
                  refine va_getN (D := (dC, dI)) (ci := 4) (v := .int ((upp (upp (upp (upp (upp pf pc 0 (nI (nbN fr (q + 4) 4))) pc 1 (nI (nbN fr (q + 16) 4))) pc 2 (nI (nbN fr (q + 8) 4))) pc 3 (nI ((((nbN fr (q + 20) 4) + 4096) - 1) / 4096))) pc 4 (rgO (nI (nbN fr (q + 24) 4)))) pc 3)) (C := R_PT) (T := T_PT) (N := 5) hx hb hts i_PT hown hK hP (pc + 10) (wsG_part hpc) rfl 3 (by decide) (hN.use wd_89) (fun _ h9 => h9) rfl d_PL_readHeader_212 ?_
                  refine xtopi (y := nI ((nbN fr (q + 20) 4 + 4096 - 1) / 4096)) (by simp [upp, upd]) ?_
                  refine lv_sipush (v := 4096) hx hb d_PL_readHeader_215 (by decide) ?_
                  refine lv_imul hx hb d_PL_readHeader_218 ?_
                  refine xtopi (y := nI (((nbN fr (q + 20) 4 + 4096 - 1) / 4096) * 4096)) (pk_mul ((nbN fr (q + 20) 4 + 4096 - 1) / 4096) (4096)) ?_
                  refine lv_iadd hx hb d_PL_readHeader_219 ?_
                  refine xtopi (y := nI ((nbN fr (q + 8) 4) + (((nbN fr (q + 20) 4 + 4096 - 1) / 4096) * 4096))) (nI_add (nbN fr (q + 8) 4) (((nbN fr (q + 20) 4 + 4096 - 1) / 4096) * 4096)) ?_
                  refine va_put (D := (dC, dI)) (ci := 5) (v := .int (nI ((nbN fr (q + 8) 4) + (((nbN fr (q + 20) 4 + 4096 - 1) / 4096) * 4096)))) (ty := .int) (C := R_PL) (T := T_PL) (N := 5) hx hb hts i_PL t_PL k_PL n_PL hown hK hP hD hS 6 rfl rfl 3 (by decide) (hts _ wd_110) (fun _ h9 => h9) rfl (by decide +kernel) rfl rfl (Nat.le_of_ble_eq_true rfl) d_PL_readHeader_220 (fun H locs hP hD hS => ?_)
                  have hP : va_P (dC, dI) vwCl (wsG ad ck rf n fr a ar z (pc + 1) pe ((nbN fr (q + 8) 4) + (((nbN fr (q + 20) 4 + 4096 - 1) / 4096) * 4096)) pp (upp (upp (upp (upp (upp pf pc 0 (nI (nbN fr (q + 4) 4))) pc 1 (nI (nbN fr (q + 16) 4))) pc 2 (nI (nbN fr (q + 8) 4))) pc 3 (nI ((((nbN fr (q + 20) 4) + 4096) - 1) / 4096))) pc 4 (rgO (nI (nbN fr (q + 24) 4)))) ic ie ip iz ia st rt pb) H := hP
                  have hD : va_D A (wsG ad ck rf n fr a ar z (pc + 1) pe ((nbN fr (q + 8) 4) + (((nbN fr (q + 20) 4 + 4096 - 1) / 4096) * 4096)) pp (upp (upp (upp (upp (upp pf pc 0 (nI (nbN fr (q + 4) 4))) pc 1 (nI (nbN fr (q + 16) 4))) pc 2 (nI (nbN fr (q + 8) 4))) pc 3 (nI ((((nbN fr (q + 20) 4) + 4096) - 1) / 4096))) pc 4 (rgO (nI (nbN fr (q + 24) 4)))) ic ie ip iz ia st rt pb) := hD
                  refine lv_aload_n hx hb d_PL_readHeader_223 rfl (lv_at hl 5 rfl) ?_
                  refine lv_dup hx hb d_PL_readHeader_224 rfl ?_
                  refine va_get (D := (dC, dI)) (ci := 5) (v := .int (nI pp)) (C := R_PL) (T := T_PL) (N := 5) hx hb hts i_PL hown hK hP 6 rfl rfl 4 (by decide) (hts _ wd_111) (fun _ h9 => h9) rfl d_PL_readHeader_225 ?_
                  refine lv_aload hx hb d_PL_readHeader_228 (lv_at hl 0 rfl) ?_
                  refine va_getN (D := (dC, dI)) (ci := 4) (v := .int ((upp (upp (upp (upp (upp pf pc 0 (nI (nbN fr (q + 4) 4))) pc 1 (nI (nbN fr (q + 16) 4))) pc 2 (nI (nbN fr (q + 8) 4))) pc 3 (nI ((((nbN fr (q + 20) 4) + 4096) - 1) / 4096))) pc 4 (rgO (nI (nbN fr (q + 24) 4)))) pc 3)) (C := R_PT) (T := T_PT) (N := 5) hx hb hts i_PT hown hK hP (pc + 10) (wsG_part hpc) rfl 3 (by decide) (hN.use wd_89) (fun _ h9 => h9) rfl d_PL_readHeader_230 ?_
                  refine xtopi (y := nI ((nbN fr (q + 20) 4 + 4096 - 1) / 4096)) (by simp [upp, upd]) ?_
                  refine lv_iadd hx hb d_PL_readHeader_233 ?_
                  refine xtopi (y := nI (pp + ((nbN fr (q + 20) 4 + 4096 - 1) / 4096))) (nI_add (pp) ((nbN fr (q + 20) 4 + 4096 - 1) / 4096)) ?_
                  refine va_put (D := (dC, dI)) (ci := 5) (v := .int (nI (pp + ((nbN fr (q + 20) 4 + 4096 - 1) / 4096)))) (ty := .int) (C := R_PL) (T := T_PL) (N := 5) hx hb hts i_PL t_PL k_PL n_PL hown hK hP hD hS 6 rfl rfl 4 (by decide) (hts _ wd_111) (fun _ h9 => h9) rfl (by decide +kernel) rfl rfl (Nat.le_of_ble_eq_true rfl) d_PL_readHeader_234 (fun H locs hP hD hS => ?_)
                  have hP : va_P (dC, dI) vwCl (wsG ad ck rf n fr a ar z (pc + 1) pe ((nbN fr (q + 8) 4) + (((nbN fr (q + 20) 4 + 4096 - 1) / 4096) * 4096)) (pp + ((nbN fr (q + 20) 4 + 4096 - 1) / 4096)) (upp (upp (upp (upp (upp pf pc 0 (nI (nbN fr (q + 4) 4))) pc 1 (nI (nbN fr (q + 16) 4))) pc 2 (nI (nbN fr (q + 8) 4))) pc 3 (nI ((((nbN fr (q + 20) 4) + 4096) - 1) / 4096))) pc 4 (rgO (nI (nbN fr (q + 24) 4)))) ic ie ip iz ia st rt pb) H := hP
                  have hD : va_D A (wsG ad ck rf n fr a ar z (pc + 1) pe ((nbN fr (q + 8) 4) + (((nbN fr (q + 20) 4 + 4096 - 1) / 4096) * 4096)) (pp + ((nbN fr (q + 20) 4 + 4096 - 1) / 4096)) (upp (upp (upp (upp (upp pf pc 0 (nI (nbN fr (q + 4) 4))) pc 1 (nI (nbN fr (q + 16) 4))) pc 2 (nI (nbN fr (q + 8) 4))) pc 3 (nI ((((nbN fr (q + 20) 4) + 4096) - 1) / 4096))) pc 4 (rgO (nI (nbN fr (q + 24) 4)))) ic ie ip iz ia st rt pb) := hD
                  refine lv_iconst (v := 1) hx hb d_PL_readHeader_237 (by decide) ?_
                  have hw9 : wsG ad ck rf n fr a ar z (pc + 1) pe ((nbN fr (q + 8) 4) + (((nbN fr (q + 20) 4 + 4096 - 1) / 4096) * 4096)) (pp + ((nbN fr (q + 20) 4 + 4096 - 1) / 4096)) (upp (upp (upp (upp (upp pf pc 0 (nI (nbN fr (q + 4) 4))) pc 1 (nI (nbN fr (q + 16) 4))) pc 2 (nI (nbN fr (q + 8) 4))) pc 3 (nI ((((nbN fr (q + 20) 4) + 4096) - 1) / 4096))) pc 4 (rgO (nI (nbN fr (q + 24) 4)))) ic ie ip iz ia st rt pb = wsG ad ck rf n fr a ar z ((psStep fr n q (pc, pt, pp, pf)).1) pe ((psStep fr n q (pc, pt, pp, pf)).2.1) ((psStep fr n q (pc, pt, pp, pf)).2.2.1) ((psStep fr n q (pc, pt, pp, pf)).2.2.2) ic ie ip iz ia st rt pb := by rw [psStep_good hskip hgood]; rfl
                  rw [hw9] at hP hD
                  exact xreti (v := 1) hx hb hr hlocks hK hP hD hS (rfl) (bI_1 (Or.inr hgood)) d_PL_readHeader_238
                · skip
                  have c_14 : ¬ (pc < 8) := fun h9 => c_14 ((nI_ltI (a := pc) (b := 8) (by omega) (by omega)).mpr h9)
                  exact absurd c_14 (by omega)
          · skip
            rw [lg_cmp_le] at c_10
            have c_10 : ¬ ((nbN fr (q + 8) 4) + (nbN fr (q + 20) 4) ≤ 1073733632) := fun h9 => c_10 ((pk_lLE (a := (nbN fr (q + 8) 4) + (nbN fr (q + 20) 4)) (b := 1073733632) (by omega) (by omega)).mpr h9)
            have hgood : ¬ hdGood fr n pt q := fun h9 => absurd (show nbN fr (q + 8) 4 + nbN fr (q + 20) 4 ≤ 1073733632 from h9.2.2.1) (by omega)
            refine lv_iconst (v := 0) hx hb d_PL_readHeader_91 (by decide) ?_
            have hw9 : wsG ad ck rf n fr a ar z pc pe pt pp pf ic ie ip iz ia st rt pb = wsG ad ck rf n fr a ar z ((psStep fr n q (pc, pt, pp, pf)).1) pe ((psStep fr n q (pc, pt, pp, pf)).2.1) ((psStep fr n q (pc, pt, pp, pf)).2.2.1) ((psStep fr n q (pc, pt, pp, pf)).2.2.2) ic ie ip iz ia st rt pb := by rw [psStep_bad hgood]
            rw [hw9] at hP hD
            exact xreti (v := 0) hx hb hr hlocks hK hP hD hS (rfl) (bI_0 (fun h9 => h9.elim hskip hgood)) d_PL_readHeader_92
    · skip
      rw [lg_cmp_eq] at c_7
      have c_7 : nbN fr (q + 20) 4 = 0 := (pk_lEQ (a := nbN fr (q + 20) 4) (b := 0) (by omega) (by omega)).mp c_7
      refine lv_iconst (v := 1) hx hb d_PL_readHeader_55 (by decide) ?_
      have hw9 : wsG ad ck rf n fr a ar z pc pe pt pp pf ic ie ip iz ia st rt pb = wsG ad ck rf n fr a ar z ((psStep fr n q (pc, pt, pp, pf)).1) pe ((psStep fr n q (pc, pt, pp, pf)).2.1) ((psStep fr n q (pc, pt, pp, pf)).2.2.1) ((psStep fr n q (pc, pt, pp, pf)).2.2.2) ic ie ip iz ia st rt pb := by rw [psStep_skip (Or.inr c_7)]
      rw [hw9] at hP hD
      exact xreti (v := 1) hx hb hr hlocks hK hP hD hS (rfl) (bI_1 (Or.inl (Or.inr c_7))) d_PL_readHeader_56
