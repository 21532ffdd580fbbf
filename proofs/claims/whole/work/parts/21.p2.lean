set_option maxHeartbeats 4000000 in
set_option maxRecDepth 100000 in
theorem c_pl_beginsAsImage (l : Launch) (dC : Nat → ClassId) (dI : Nat → Nat → Nat) (ad : Nat → Nat) (ck : Nat → ClassId) (rf : Int32) (n : Nat) (fr : Nat → Int32) (a : Nat) (ar : Nat → Int32) (z : Nat → Nat) (pc : Nat) (pe : Int32) (pt pp : Nat) (pf : Nat → Nat → Int32) (ic : Nat) (ie ip iz ia : Int32) (st rt : Nat → Int32) (pb : Nat → Nat → Int32) (hn : n ≤ 65536) (sz : Nat) : Met l y_PL_beginsAsImage w_PL_beginsAsImage { frames := 2, cells := 0, slots := 0, locals := 56 } (va_Pc [.ref (ad 6), .ref (ad 1)] (xP (dC, dI) (tyG ck) (wsG ad ck rf n fr a ar z pc pe pt pp pf ic ie ip iz ia st rt pb) sz)) (xQi (dC, dI) (tyG ck) (va_A (wsG ad ck rf n fr a ar z pc pe pt pp pf ic ie ip iz ia st rt pb) sz) (wsG ad ck rf n fr a ar z pc pe pt pp pf ic ie ip iz ia st rt pb) (fun r => r = bI (52 ≤ n ∧ marked fr))) 0 0 (va_A (wsG ad ck rf n fr a ar z pc pe pt pp pf ic ie ip iz ia st rt pb) sz) := by
  refine xof (cc := b_PL_beginsAsImage) (maxL := 3) (ret := (some .boolean)) (own := R_PL) (Qc := fun A => (xQi (dC, dI) (tyG ck) A (wsG ad ck rf n fr a ar z pc pe pt pp pf ic ie ip iz ia st rt pb) (fun r => r = bI (52 ≤ n ∧ marked fr)))) (by decide) rfl rfl (Nat.le_of_ble_eq_true rfl) ?_ sz
  intro p e s m below meth c A C hnm hK hP hD hA hN hZ hS ls hl
  obtain ⟨hx, hb, hr, hml, hown, hts, hlocks⟩ := C
  have hl : lv_has ls 3 [(0, .ref (ad 6)), (1, .ref (ad 1))] := hl
  obtain ⟨t7, hZ1, hT1⟩ := id hZ
  have b0 := nbN_lt1 fr 0
  have b1 := nbN_lt1 fr 1
  have b2 := nbN_lt1 fr 2
  have b3 := nbN_lt1 fr 3
  have b4 := nbN_lt1 fr 4
  have b5 := nbN_lt1 fr 5
  have b6 := nbN_lt1 fr 6
  refine lv_aload_n hx hb d_PL_beginsAsImage_0 rfl (lv_at hl 1 rfl) ?_
  refine lv_lconst (v := 0) hx hb d_PL_beginsAsImage_1 (by decide) ?_
  refine lv_ldc2 (v := 52) hx hb hown (hts _ wd_273) d_PL_beginsAsImage_2 ?_
  refine xcalli (va_runV (As := [.long 0, .long 52]) (rest := []) ⟨hx, hb, hml, hown, hts⟩ (c_fb_holds l dC dI ad ck rf n fr a ar z pc pe pt pp pf ic ie ip iz ia st rt pb 0 52 hn s.heap.size) (cwV 2 hts (xgV wd_274 wd_221 wd_222 wd_16 wd_223) rfl rfl rfl (by decide +kernel) ⟨Nat.le_of_ble_eq_true rfl, Nat.le_of_ble_eq_true rfl⟩) (xpreV (q0 := 1) hK hN hZ hA hS hP hD rfl rfl) rfl rfl hl.1 rfl (lv_room (Nat.le_of_ble_eq_true rfl)) d_PL_beginsAsImage_5 ⟨Nat.zero_le _, Nat.zero_le _⟩) hD hS hA (fun r_1 H locs hr_1 hP hD hS => ?_)
  subst hr_1
  refine lv_if_ne (tgt := 13) hx hb d_PL_beginsAsImage_8 (by decide) (fun c_2 => ?_) (fun c_2 => ?_)
  · skip
    have c_2 := bI_t c_2
    have c_2 := p_52.mp c_2
    refine lv_iconst (v := 0) hx hb d_PL_beginsAsImage_13 (by decide) ?_
    refine lv_istore_n (lv' := [(2, .int 0), (0, .ref (ad 6)), (1, .ref (ad 1))]) hx hb d_PL_beginsAsImage_14 rfl hl (by decide) rfl (fun ls hl => ?_)
    refine lv_iload_n hx hb d_PL_beginsAsImage_15 rfl (lv_at hl 0 rfl) ?_
    refine va_getsN hx hb hZ1 hS hown (hN.use wd_275) (fun _ h9 => h9) d_PL_beginsAsImage_16 ?_
    refine va_tlen (v := 7) hx hb hT1 hS rfl d_PL_beginsAsImage_19 ?_
    refine lv_icmp_ge (tgt := 45) hx hb d_PL_beginsAsImage_20 (by decide) (fun c_3 => ?_) (fun c_3 => ?_)
    · exact absurd c_3 (by decide)
    · skip
      refine lv_aload_n hx hb d_PL_beginsAsImage_23 rfl (lv_at hl 2 rfl) ?_
      refine lv_iload_n hx hb d_PL_beginsAsImage_24 rfl (lv_at hl 0 rfl) ?_
      refine lv_iconst (v := 1) hx hb d_PL_beginsAsImage_25 (by decide) ?_
      refine xcalli (va_runV (As := [.int 0, .int 1]) (rest := []) ⟨hx, hb, hml, hown, hts⟩ (c_fb_number1 l dC dI ad ck rf n fr a ar z pc pe pt pp pf ic ie ip iz ia st rt pb 0 hn H.size) (cwV 2 hts (xgV wd_277 wd_278 wd_279 wd_16 wd_280) rfl rfl rfl (by decide +kernel) ⟨Nat.le_of_ble_eq_true rfl, Nat.le_of_ble_eq_true rfl⟩) (xpreV (q0 := 1) hK hN hZ hA hS hP hD rfl rfl) rfl rfl hl.1 rfl (lv_room (Nat.le_of_ble_eq_true rfl)) d_PL_beginsAsImage_26 ⟨Nat.zero_le _, Nat.zero_le _⟩) hD hS hA (fun r_4 H locs hr_4 hP hD hS => ?_)
      subst hr_4
      refine xtopi (y := nI (nbN fr 0 1)) (p_num (q := 0) (by omega) hn) ?_
      refine va_getsN hx hb hZ1 hS hown (hN.use wd_275) (fun _ h9 => h9) d_PL_beginsAsImage_29 ?_
      refine lv_iload_n hx hb d_PL_beginsAsImage_32 rfl (lv_at hl 0 rfl) ?_
      refine va_tb (v := .int 127) (i := 0) hx hb hT1 hS (vp_in_nI (n := 0) (by decide) (by decide)) rfl d_PL_beginsAsImage_33 ?_
      refine lv_icmp_eq (tgt := 39) hx hb d_PL_beginsAsImage_34 (by decide) (fun c_5 => ?_) (fun c_5 => ?_)
      · skip
        have c_5 : nbN fr 0 1 = 127 := (nI_eq (a := nbN fr 0 1) (b := 127) (by omega) (by omega)).mp c_5
        refine lv_iinc (v := 1) (lv' := [(2, .int 1), (0, .ref (ad 6)), (1, .ref (ad 1))]) hx hb d_PL_beginsAsImage_39 hl (k := 0) rfl rfl (by decide) rfl (fun ls hl => ?_)
        refine lv_goto (tgt := 15) hx hb d_PL_beginsAsImage_42 (by decide) ?_
        refine lv_iload_n hx hb d_PL_beginsAsImage_15 rfl (lv_at hl 0 rfl) ?_
        refine va_getsN hx hb hZ1 hS hown (hN.use wd_275) (fun _ h9 => h9) d_PL_beginsAsImage_16 ?_
        refine va_tlen (v := 7) hx hb hT1 hS rfl d_PL_beginsAsImage_19 ?_
        refine lv_icmp_ge (tgt := 45) hx hb d_PL_beginsAsImage_20 (by decide) (fun c_6 => ?_) (fun c_6 => ?_)
        · exact absurd c_6 (by decide)
        · skip
          refine lv_aload_n hx hb d_PL_beginsAsImage_23 rfl (lv_at hl 2 rfl) ?_
          refine lv_iload_n hx hb d_PL_beginsAsImage_24 rfl (lv_at hl 0 rfl) ?_
          refine lv_iconst (v := 1) hx hb d_PL_beginsAsImage_25 (by decide) ?_
          refine xcalli (va_runV (As := [.int 1, .int 1]) (rest := []) ⟨hx, hb, hml, hown, hts⟩ (c_fb_number1 l dC dI ad ck rf n fr a ar z pc pe pt pp pf ic ie ip iz ia st rt pb 1 hn H.size) (cwV 2 hts (xgV wd_277 wd_278 wd_279 wd_16 wd_280) rfl rfl rfl (by decide +kernel) ⟨Nat.le_of_ble_eq_true rfl, Nat.le_of_ble_eq_true rfl⟩) (xpreV (q0 := 1) hK hN hZ hA hS hP hD rfl rfl) rfl rfl hl.1 rfl (lv_room (Nat.le_of_ble_eq_true rfl)) d_PL_beginsAsImage_26 ⟨Nat.zero_le _, Nat.zero_le _⟩) hD hS hA (fun r_7 H locs hr_7 hP hD hS => ?_)
          subst hr_7
          refine xtopi (y := nI (nbN fr 1 1)) (p_num (q := 1) (by omega) hn) ?_
          refine va_getsN hx hb hZ1 hS hown (hN.use wd_275) (fun _ h9 => h9) d_PL_beginsAsImage_29 ?_
          refine lv_iload_n hx hb d_PL_beginsAsImage_32 rfl (lv_at hl 0 rfl) ?_
          refine va_tb (v := .int 69) (i := 1) hx hb hT1 hS (vp_in_nI (n := 1) (by decide) (by decide)) rfl d_PL_beginsAsImage_33 ?_
          refine lv_icmp_eq (tgt := 39) hx hb d_PL_beginsAsImage_34 (by decide) (fun c_8 => ?_) (fun c_8 => ?_)
          · skip
            have c_8 : nbN fr 1 1 = 69 := (nI_eq (a := nbN fr 1 1) (b := 69) (by omega) (by omega)).mp c_8
            refine lv_iinc (v := 2) (lv' := [(2, .int 2), (0, .ref (ad 6)), (1, .ref (ad 1))]) hx hb d_PL_beginsAsImage_39 hl (k := 0) rfl rfl (by decide) rfl (fun ls hl => ?_)
            refine lv_goto (tgt := 15) hx hb d_PL_beginsAsImage_42 (by decide) ?_
            refine lv_iload_n hx hb d_PL_beginsAsImage_15 rfl (lv_at hl 0 rfl) ?_
            refine va_getsN hx hb hZ1 hS hown (hN.use wd_275) (fun _ h9 => h9) d_PL_beginsAsImage_16 ?_
            refine va_tlen (v := 7) hx hb hT1 hS rfl d_PL_beginsAsImage_19 ?_
            refine lv_icmp_ge (tgt := 45) hx hb d_PL_beginsAsImage_20 (by decide) (fun c_9 => ?_) (fun c_9 => ?_)
            · exact absurd c_9 (by decide)
            · skip
              refine lv_aload_n hx hb d_PL_beginsAsImage_23 rfl (lv_at hl 2 rfl) ?_
              refine lv_iload_n hx hb d_PL_beginsAsImage_24 rfl (lv_at hl 0 rfl) ?_
              refine lv_iconst (v := 1) hx hb d_PL_beginsAsImage_25 (by decide) ?_
              refine xcalli (va_runV (As := [.int 2, .int 1]) (rest := []) ⟨hx, hb, hml, hown, hts⟩ (c_fb_number1 l dC dI ad ck rf n fr a ar z pc pe pt pp pf ic ie ip iz ia st rt pb 2 hn H.size) (cwV 2 hts (xgV wd_277 wd_278 wd_279 wd_16 wd_280) rfl rfl rfl (by decide +kernel) ⟨Nat.le_of_ble_eq_true rfl, Nat.le_of_ble_eq_true rfl⟩) (xpreV (q0 := 1) hK hN hZ hA hS hP hD rfl rfl) rfl rfl hl.1 rfl (lv_room (Nat.le_of_ble_eq_true rfl)) d_PL_beginsAsImage_26 ⟨Nat.zero_le _, Nat.zero_le _⟩) hD hS hA (fun r_10 H locs hr_10 hP hD hS => ?_)
              subst hr_10
              refine xtopi (y := nI (nbN fr 2 1)) (p_num (q := 2) (by omega) hn) ?_
              refine va_getsN hx hb hZ1 hS hown (hN.use wd_275) (fun _ h9 => h9) d_PL_beginsAsImage_29 ?_
              refine lv_iload_n hx hb d_PL_beginsAsImage_32 rfl (lv_at hl 0 rfl) ?_
              refine va_tb (v := .int 76) (i := 2) hx hb hT1 hS (vp_in_nI (n := 2) (by decide) (by decide)) rfl d_PL_beginsAsImage_33 ?_
              refine lv_icmp_eq (tgt := 39) hx hb d_PL_beginsAsImage_34 (by decide) (fun c_11 => ?_) (fun c_11 => ?_)
              · skip
                have c_11 : nbN fr 2 1 = 76 := (nI_eq (a := nbN fr 2 1) (b := 76) (by omega) (by omega)).mp c_11
                refine lv_iinc (v := 3) (lv' := [(2, .int 3), (0, .ref (ad 6)), (1, .ref (ad 1))]) hx hb d_PL_beginsAsImage_39 hl (k := 0) rfl rfl (by decide) rfl (fun ls hl => ?_)
                refine lv_goto (tgt := 15) hx hb d_PL_beginsAsImage_42 (by decide) ?_
                refine lv_iload_n hx hb d_PL_beginsAsImage_15 rfl (lv_at hl 0 rfl) ?_
                refine va_getsN hx hb hZ1 hS hown (hN.use wd_275) (fun _ h9 => h9) d_PL_beginsAsImage_16 ?_
                refine va_tlen (v := 7) hx hb hT1 hS rfl d_PL_beginsAsImage_19 ?_
                refine lv_icmp_ge (tgt := 45) hx hb d_PL_beginsAsImage_20 (by decide) (fun c_12 => ?_) (fun c_12 => ?_)
                · exact absurd c_12 (by decide)
                · skip
                  refine lv_aload_n hx hb d_PL_beginsAsImage_23 rfl (lv_at hl 2 rfl) ?_
                  refine lv_iload_n hx hb d_PL_beginsAsImage_24 rfl (lv_at hl 0 rfl) ?_
                  refine lv_iconst (v := 1) hx hb d_PL_beginsAsImage_25 (by decide) ?_
                  refine xcalli (va_runV (As := [.int 3, .int 1]) (rest := []) ⟨hx, hb, hml, hown, hts⟩ (c_fb_number1 l dC dI ad ck rf n fr a ar z pc pe pt pp pf ic ie ip iz ia st rt pb 3 hn H.size) (cwV 2 hts (xgV wd_277 wd_278 wd_279 wd_16 wd_280) rfl rfl rfl (by decide +kernel) ⟨Nat.le_of_ble_eq_true rfl, Nat.le_of_ble_eq_true rfl⟩) (xpreV (q0 := 1) hK hN hZ hA hS hP hD rfl rfl) rfl rfl hl.1 rfl (lv_room (Nat.le_of_ble_eq_true rfl)) d_PL_beginsAsImage_26 ⟨Nat.zero_le _, Nat.zero_le _⟩) hD hS hA (fun r_13 H locs hr_13 hP hD hS => ?_)
                  subst hr_13
                  refine xtopi (y := nI (nbN fr 3 1)) (p_num (q := 3) (by omega) hn) ?_
                  refine va_getsN hx hb hZ1 hS hown (hN.use wd_275) (fun _ h9 => h9) d_PL_beginsAsImage_29 ?_
                  refine lv_iload_n hx hb d_PL_beginsAsImage_32 rfl (lv_at hl 0 rfl) ?_
                  refine va_tb (v := .int 70) (i := 3) hx hb hT1 hS (vp_in_nI (n := 3) (by decide) (by decide)) rfl d_PL_beginsAsImage_33 ?_
                  refine lv_icmp_eq (tgt := 39) hx hb d_PL_beginsAsImage_34 (by decide) (fun c_14 => ?_) (fun c_14 => ?_)
                  · skip
                    have c_14 : nbN fr 3 1 = 70 := (nI_eq (a := nbN fr 3 1) (b := 70) (by omega) (by omega)).mp c_14
                    refine lv_iinc (v := 4) (lv' := [(2, .int 4), (0, .ref (ad 6)), (1, .ref (ad 1))]) hx hb d_PL_beginsAsImage_39 hl (k := 0) rfl rfl (by decide) rfl (fun ls hl => ?_)
                    refine lv_goto (tgt := 15) hx hb d_PL_beginsAsImage_42 (by decide) ?_
                    refine lv_iload_n hx hb d_PL_beginsAsImage_15 rfl (lv_at hl 0 rfl) ?_
                    refine va_getsN hx hb hZ1 hS hown (hN.use wd_275) (fun _ h9 => h9) d_PL_beginsAsImage_16 ?_
                    refine va_tlen (v := 7) hx hb hT1 hS rfl d_PL_beginsAsImage_19 ?_
                    refine lv_icmp_ge (tgt := 45) hx hb d_PL_beginsAsImage_20 (by decide) (fun c_15 => ?_) (fun c_15 => ?_)
                    · exact absurd c_15 (by decide)
                    · skip
                      refine lv_aload_n hx hb d_PL_beginsAsImage_23 rfl (lv_at hl 2 rfl) ?_
                      refine lv_iload_n hx hb d_PL_beginsAsImage_24 rfl (lv_at hl 0 rfl) ?_
                      refine lv_iconst (v := 1) hx hb d_PL_beginsAsImage_25 (by decide) ?_
                      refine xcalli (va_runV (As := [.int 4, .int 1]) (rest := []) ⟨hx, hb, hml, hown, hts⟩ (c_fb_number1 l dC dI ad ck rf n fr a ar z pc pe pt pp pf ic ie ip iz ia st rt pb 4 hn H.size) (cwV 2 hts (xgV wd_277 wd_278 wd_279 wd_16 wd_280) rfl rfl rfl (by decide +kernel) ⟨Nat.le_of_ble_eq_true rfl, Nat.le_of_ble_eq_true rfl⟩) (xpreV (q0 := 1) hK hN hZ hA hS hP hD rfl rfl) rfl rfl hl.1 rfl (lv_room (Nat.le_of_ble_eq_true rfl)) d_PL_beginsAsImage_26 ⟨Nat.zero_le _, Nat.zero_le _⟩) hD hS hA (fun r_16 H locs hr_16 hP hD hS => ?_)
                      subst hr_16
                      refine xtopi (y := nI (nbN fr 4 1)) (p_num (q := 4) (by omega) hn) ?_
                      refine va_getsN hx hb hZ1 hS hown (hN.use wd_275) (fun _ h9 => h9) d_PL_beginsAsImage_29 ?_
                      refine lv_iload_n hx hb d_PL_beginsAsImage_32 rfl (lv_at hl 0 rfl) ?_
                      refine va_tb (v := .int 1) (i := 4) hx hb hT1 hS (vp_in_nI (n := 4) (by decide) (by decide)) rfl d_PL_beginsAsImage_33 ?_
                      refine lv_icmp_eq (tgt := 39) hx hb d_PL_beginsAsImage_34 (by decide) (fun c_17 => ?_) (fun c_17 => ?_)
                      · skip
                        have c_17 : nbN fr 4 1 = 1 := (nI_eq (a := nbN fr 4 1) (b := 1) (by omega) (by omega)).mp c_17
                        refine lv_iinc (v := 5) (lv' := [(2, .int 5), (0, .ref (ad 6)), (1, .ref (ad 1))]) hx hb d_PL_beginsAsImage_39 hl (k := 0) rfl rfl (by decide) rfl (fun ls hl => ?_)
                        refine lv_goto (tgt := 15) hx hb d_PL_beginsAsImage_42 (by decide) ?_
                        refine lv_iload_n hx hb d_PL_beginsAsImage_15 rfl (lv_at hl 0 rfl) ?_
                        refine va_getsN hx hb hZ1 hS hown (hN.use wd_275) (fun _ h9 => h9) d_PL_beginsAsImage_16 ?_
                        refine va_tlen (v := 7) hx hb hT1 hS rfl d_PL_beginsAsImage_19 ?_
                        refine lv_icmp_ge (tgt := 45) hx hb d_PL_beginsAsImage_20 (by decide) (fun c_18 => ?_) (fun c_18 => ?_)
                        · exact absurd c_18 (by decide)
                        · skip
                          refine lv_aload_n hx hb d_PL_beginsAsImage_23 rfl (lv_at hl 2 rfl) ?_
                          refine lv_iload_n hx hb d_PL_beginsAsImage_24 rfl (lv_at hl 0 rfl) ?_
                          refine lv_iconst (v := 1) hx hb d_PL_beginsAsImage_25 (by decide) ?_
                          refine xcalli (va_runV (As := [.int 5, .int 1]) (rest := []) ⟨hx, hb, hml, hown, hts⟩ (c_fb_number1 l dC dI ad ck rf n fr a ar z pc pe pt pp pf ic ie ip iz ia st rt pb 5 hn H.size) (cwV 2 hts (xgV wd_277 wd_278 wd_279 wd_16 wd_280) rfl rfl rfl (by decide +kernel) ⟨Nat.le_of_ble_eq_true rfl, Nat.le_of_ble_eq_true rfl⟩) (xpreV (q0 := 1) hK hN hZ hA hS hP hD rfl rfl) rfl rfl hl.1 rfl (lv_room (Nat.le_of_ble_eq_true rfl)) d_PL_beginsAsImage_26 ⟨Nat.zero_le _, Nat.zero_le _⟩) hD hS hA (fun r_19 H locs hr_19 hP hD hS => ?_)
                          subst hr_19
                          refine xtopi (y := nI (nbN fr 5 1)) (p_num (q := 5) (by omega) hn) ?_
                          refine va_getsN hx hb hZ1 hS hown (hN.use wd_275) (fun _ h9 => h9) d_PL_beginsAsImage_29 ?_
                          refine lv_iload_n hx hb d_PL_beginsAsImage_32 rfl (lv_at hl 0 rfl) ?_
                          refine va_tb (v := .int 1) (i := 5) hx hb hT1 hS (vp_in_nI (n := 5) (by decide) (by decide)) rfl d_PL_beginsAsImage_33 ?_
                          refine lv_icmp_eq (tgt := 39) hx hb d_PL_beginsAsImage_34 (by decide) (fun c_20 => ?_) (fun c_20 => ?_)
                          · skip
                            have c_20 : nbN fr 5 1 = 1 := (nI_eq (a := nbN fr 5 1) (b := 1) (by omega) (by omega)).mp c_20
                            refine lv_iinc (v := 6) (lv' := [(2, .int 6), (0, .ref (ad 6)), (1, .ref (ad 1))]) hx hb d_PL_beginsAsImage_39 hl (k := 0) rfl rfl (by decide) rfl (fun ls hl => ?_)
                            refine lv_goto (tgt := 15) hx hb d_PL_beginsAsImage_42 (by decide) ?_
                            refine lv_iload_n hx hb d_PL_beginsAsImage_15 rfl (lv_at hl 0 rfl) ?_
                            refine va_getsN hx hb hZ1 hS hown (hN.use wd_275) (fun _ h9 => h9) d_PL_beginsAsImage_16 ?_
                            refine va_tlen (v := 7) hx hb hT1 hS rfl d_PL_beginsAsImage_19 ?_
                            refine lv_icmp_ge (tgt := 45) hx hb d_PL_beginsAsImage_20 (by decide) (fun c_21 => ?_) (fun c_21 => ?_)
                            · exact absurd c_21 (by decide)
                            · skip
                              refine lv_aload_n hx hb d_PL_beginsAsImage_23 rfl (lv_at hl 2 rfl) ?_
                              refine lv_iload_n hx hb d_PL_beginsAsImage_24 rfl (lv_at hl 0 rfl) ?_
                              refine lv_iconst (v := 1) hx hb d_PL_beginsAsImage_25 (by decide) ?_
                              refine xcalli (va_runV (As := [.int 6, .int 1]) (rest := []) ⟨hx, hb, hml, hown, hts⟩ (c_fb_number1 l dC dI ad ck rf n fr a ar z pc pe pt pp pf ic ie ip iz ia st rt pb 6 hn H.size) (cwV 2 hts (xgV wd_277 wd_278 wd_279 wd_16 wd_280) rfl rfl rfl (by decide +kernel) ⟨Nat.le_of_ble_eq_true rfl, Nat.le_of_ble_eq_true rfl⟩) (xpreV (q0 := 1) hK hN hZ hA hS hP hD rfl rfl) rfl rfl hl.1 rfl (lv_room (Nat.le_of_ble_eq_true rfl)) d_PL_beginsAsImage_26 ⟨Nat.zero_le _, Nat.zero_le _⟩) hD hS hA (fun r_22 H locs hr_22 hP hD hS => ?_)
                              subst hr_22
                              refine xtopi (y := nI (nbN fr 6 1)) (p_num (q := 6) (by omega) hn) ?_
                              refine va_getsN hx hb hZ1 hS hown (hN.use wd_275) (fun _ h9 => h9) d_PL_beginsAsImage_29 ?_
                              refine lv_iload_n hx hb d_PL_beginsAsImage_32 rfl (lv_at hl 0 rfl) ?_
                              refine va_tb (v := .int 1) (i := 6) hx hb hT1 hS (vp_in_nI (n := 6) (by decide) (by decide)) rfl d_PL_beginsAsImage_33 ?_
                              refine lv_icmp_eq (tgt := 39) hx hb d_PL_beginsAsImage_34 (by decide) (fun c_23 => ?_) (fun c_23 => ?_)
                              · skip
                                have c_23 : nbN fr 6 1 = 1 := (nI_eq (a := nbN fr 6 1) (b := 1) (by omega) (by omega)).mp c_23
                                refine lv_iinc (v := 7) (lv' := [(2, .int 7), (0, .ref (ad 6)), (1, .ref (ad 1))]) hx hb d_PL_beginsAsImage_39 hl (k := 0) rfl rfl (by decide) rfl (fun ls hl => ?_)
                                refine lv_goto (tgt := 15) hx hb d_PL_beginsAsImage_42 (by decide) ?_
                                refine lv_iload_n hx hb d_PL_beginsAsImage_15 rfl (lv_at hl 0 rfl) ?_
                                refine va_getsN hx hb hZ1 hS hown (hN.use wd_275) (fun _ h9 => h9) d_PL_beginsAsImage_16 ?_
                                refine va_tlen (v := 7) hx hb hT1 hS rfl d_PL_beginsAsImage_19 ?_
                                refine lv_icmp_ge (tgt := 45) hx hb d_PL_beginsAsImage_20 (by decide) (fun c_24 => ?_) (fun c_24 => ?_)
                                · skip
                                  refine lv_iconst (v := 1) hx hb d_PL_beginsAsImage_45 (by decide) ?_
                                  exact xreti (v := 1) hx hb hr hlocks hK hP hD hS (rfl) (bI_1 ⟨c_2, c_5, c_8, c_11, c_14, c_17, c_20, c_23⟩) d_PL_beginsAsImage_46
                                · exact absurd c_24 (by decide)
                              · skip
                                have c_23 : ¬ (nbN fr 6 1 = 1) := fun h9 => c_23 ((nI_eq (a := nbN fr 6 1) (b := 1) (by omega) (by omega)).mpr h9)
                                refine lv_iconst (v := 0) hx hb d_PL_beginsAsImage_37 (by decide) ?_
                                exact xreti (v := 0) hx hb hr hlocks hK hP hD hS (rfl) (bI_0 (fun h9 => c_23 h9.2.2.2.2.2.2.2)) d_PL_beginsAsImage_38
                          · skip
                            have c_20 : ¬ (nbN fr 5 1 = 1) := fun h9 => c_20 ((nI_eq (a := nbN fr 5 1) (b := 1) (by omega) (by omega)).mpr h9)
                            refine lv_iconst (v := 0) hx hb d_PL_beginsAsImage_37 (by decide) ?_
                            exact xreti (v := 0) hx hb hr hlocks hK hP hD hS (rfl) (bI_0 (fun h9 => c_20 h9.2.2.2.2.2.2.1)) d_PL_beginsAsImage_38
                      · skip
                        have c_17 : ¬ (nbN fr 4 1 = 1) := fun h9 => c_17 ((nI_eq (a := nbN fr 4 1) (b := 1) (by omega) (by omega)).mpr h9)
                        refine lv_iconst (v := 0) hx hb d_PL_beginsAsImage_37 (by decide) ?_
                        exact xreti (v := 0) hx hb hr hlocks hK hP hD hS (rfl) (bI_0 (fun h9 => c_17 h9.2.2.2.2.2.1)) d_PL_beginsAsImage_38
                  · skip
                    have c_14 : ¬ (nbN fr 3 1 = 70) := fun h9 => c_14 ((nI_eq (a := nbN fr 3 1) (b := 70) (by omega) (by omega)).mpr h9)
                    refine lv_iconst (v := 0) hx hb d_PL_beginsAsImage_37 (by decide) ?_
                    exact xreti (v := 0) hx hb hr hlocks hK hP hD hS (rfl) (bI_0 (fun h9 => c_14 h9.2.2.2.2.1)) d_PL_beginsAsImage_38
              · skip
                have c_11 : ¬ (nbN fr 2 1 = 76) := fun h9 => c_11 ((nI_eq (a := nbN fr 2 1) (b := 76) (by omega) (by omega)).mpr h9)
                refine lv_iconst (v := 0) hx hb d_PL_beginsAsImage_37 (by decide) ?_
                exact xreti (v := 0) hx hb hr hlocks hK hP hD hS (rfl) (bI_0 (fun h9 => c_11 h9.2.2.2.1)) d_PL_beginsAsImage_38
          · skip
            have c_8 : ¬ (nbN fr 1 1 = 69) := fun h9 => c_8 ((nI_eq (a := nbN fr 1 1) (b := 69) (by omega) (by omega)).mpr h9)
            refine lv_iconst (v := 0) hx hb d_PL_beginsAsImage_37 (by decide) ?_
            exact xreti (v := 0) hx hb hr hlocks hK hP hD hS (rfl) (bI_0 (fun h9 => c_8 h9.2.2.1)) d_PL_beginsAsImage_38
      · skip
        have c_5 : ¬ (nbN fr 0 1 = 127) := fun h9 => c_5 ((nI_eq (a := nbN fr 0 1) (b := 127) (by omega) (by omega)).mpr h9)
        refine lv_iconst (v := 0) hx hb d_PL_beginsAsImage_37 (by decide) ?_
        exact xreti (v := 0) hx hb hr hlocks hK hP hD hS (rfl) (bI_0 (fun h9 => c_5 h9.2.1)) d_PL_beginsAsImage_38
  · skip
    have c_2 := bI_f c_2
    have c_2 : ¬ 52 ≤ n := fun h9 => c_2 (p_52.mpr h9)
    refine lv_iconst (v := 0) hx hb d_PL_beginsAsImage_11 (by decide) ?_
    exact xreti (v := 0) hx hb hr hlocks hK hP hD hS (rfl) (bI_0 (fun h9 => c_2 h9.1)) d_PL_beginsAsImage_12
set_option maxHeartbeats 4000000 in
set_option maxRecDepth 100000 in
theorem c_pl_readParts (l : Launch) (dC : Nat → ClassId) (dI : Nat → Nat → Nat) (ad : Nat → Nat) (ck : Nat → ClassId) (rf : Int32) (n : Nat) (fr : Nat → Int32) (a : Nat) (ar : Nat → Int32) (z : Nat → Nat) (pc : Nat) (pe : Int32) (pt pp : Nat) (pf : Nat → Nat → Int32) (ic : Nat) (ie ip iz ia : Int32) (st rt : Nat → Int32) (pb : Nat → Nat → Int32) (hin : hdsIn fr n) (hk8 : nbN fr 44 2 ≤ 8) (h52 : 52 ≤ n) (hn : n ≤ 65536) (sz : Nat) : Met l y_PL_readParts w_PL_readParts { frames := 4, cells := 0, slots := 0, locals := 110 } (va_Pc [.ref (ad 6), .ref (ad 1)] (xP (dC, dI) (tyG ck) (wsG ad ck rf n fr a ar z pc pe pt pp pf ic ie ip iz ia st rt pb) sz)) (xQi (dC, dI) (tyG ck) (va_A (wsG ad ck rf n fr a ar z pc pe pt pp pf ic ie ip iz ia st rt pb) sz) (wsG ad ck rf n fr a ar z ((plAll fr n pf).2.1) (nI (nbN fr 24 4)) ((plAll fr n pf).2.2.1) ((plAll fr n pf).2.2.2.1) ((plAll fr n pf).2.2.2.2) ic ie ip iz ia st rt pb) (fun r => r = bI ((plAll fr n pf).1 = true))) 0 0 (va_A (wsG ad ck rf n fr a ar z pc pe pt pp pf ic ie ip iz ia st rt pb) sz) := by
  refine xof (cc := b_PL_readParts) (maxL := 5) (ret := (some .boolean)) (own := R_PL) (Qc := fun A => (xQi (dC, dI) (tyG ck) A (wsG ad ck rf n fr a ar z ((plAll fr n pf).2.1) (nI (nbN fr 24 4)) ((plAll fr n pf).2.2.1) ((plAll fr n pf).2.2.2.1) ((plAll fr n pf).2.2.2.2) ic ie ip iz ia st rt pb) (fun r => r = bI ((plAll fr n pf).1 = true)))) (by decide) rfl rfl (Nat.le_of_ble_eq_true rfl) ?_ sz
  intro p e s m below meth c A C hnm hK hP hD hA hN hZ hS ls hl
  obtain ⟨hx, hb, hr, hml, hown, hts, hlocks⟩ := C
  have hl : lv_has ls 5 [(0, .ref (ad 6)), (1, .ref (ad 1))] := hl
  have hin2 : nbN fr 44 2 = 0 ∨ nbN fr 28 4 + nbN fr 44 2 * 32 ≤ n := hin
  have b1 := nbN_lt4 fr 28
  refine lv_aload_n hx hb d_PL_readParts_0 rfl (lv_at hl 0 rfl) ?_
  refine lv_iconst (v := 0) hx hb d_PL_readParts_1 (by decide) ?_
  refine va_put (D := (dC, dI)) (ci := 5) (v := .int 0) (ty := .int) (C := R_PL) (T := T_PL) (N := 5) hx hb hts i_PL t_PL k_PL n_PL hown hK hP hD hS 6 rfl rfl 1 (by decide) (hts _ wd_106) (fun _ h9 => h9) rfl (by decide +kernel) rfl rfl (Nat.le_of_ble_eq_true rfl) d_PL_readParts_2 (fun H locs hP hD hS => ?_)
  have hP : va_P (dC, dI) vwCl (wsG ad ck rf n fr a ar z 0 pe pt pp pf ic ie ip iz ia st rt pb) H := hP
  have hD : va_D A (wsG ad ck rf n fr a ar z 0 pe pt pp pf ic ie ip iz ia st rt pb) := hD
  refine lv_aload_n hx hb d_PL_readParts_5 rfl (lv_at hl 0 rfl) ?_
  refine lv_aload_n hx hb d_PL_readParts_6 rfl (lv_at hl 1 rfl) ?_
  refine lv_bipush (v := 24) hx hb d_PL_readParts_7 (by decide) ?_
  refine lv_iconst (v := 4) hx hb d_PL_readParts_9 (by decide) ?_
  refine xcalli (va_runV (As := [.int 24, .int 4]) (rest := [.ref (ad 6)]) ⟨hx, hb, hml, hown, hts⟩ (c_fb_number4 l dC dI ad ck rf n fr a ar z 0 pe pt pp pf ic ie ip iz ia st rt pb 24 hn H.size) (cwV 2 hts (xgV wd_277 wd_278 wd_279 wd_16 wd_280) rfl rfl rfl (by decide +kernel) ⟨Nat.le_of_ble_eq_true rfl, Nat.le_of_ble_eq_true rfl⟩) (xpreV (q0 := 1) hK hN hZ hA hS hP hD rfl rfl) rfl rfl hl.1 rfl (lv_room (Nat.le_of_ble_eq_true rfl)) d_PL_readParts_10 ⟨Nat.zero_le _, Nat.zero_le _⟩) hD hS hA (fun r_1 H locs hr_1 hP hD hS => ?_)
  subst hr_1
  refine xtopi (y := nI (nbN fr 24 4)) (p_num (q := 24) (by omega) hn) ?_
  refine va_put (D := (dC, dI)) (ci := 5) (v := .int (nI (nbN fr 24 4))) (ty := .int) (C := R_PL) (T := T_PL) (N := 5) hx hb hts i_PL t_PL k_PL n_PL hown hK hP hD hS 6 rfl rfl 2 (by decide) (hts _ wd_108) (fun _ h9 => h9) rfl (by decide +kernel) rfl rfl (Nat.le_of_ble_eq_true rfl) d_PL_readParts_13 (fun H locs hP hD hS => ?_)
  have hP : va_P (dC, dI) vwCl (wsG ad ck rf n fr a ar z 0 (nI (nbN fr 24 4)) pt pp pf ic ie ip iz ia st rt pb) H := hP
  have hD : va_D A (wsG ad ck rf n fr a ar z 0 (nI (nbN fr 24 4)) pt pp pf ic ie ip iz ia st rt pb) := hD
  refine lv_aload_n hx hb d_PL_readParts_16 rfl (lv_at hl 0 rfl) ?_
  refine lv_iconst (v := 0) hx hb d_PL_readParts_17 (by decide) ?_
  refine va_put (D := (dC, dI)) (ci := 5) (v := .int 0) (ty := .int) (C := R_PL) (T := T_PL) (N := 5) hx hb hts i_PL t_PL k_PL n_PL hown hK hP hD hS 6 rfl rfl 3 (by decide) (hts _ wd_110) (fun _ h9 => h9) rfl (by decide +kernel) rfl rfl (Nat.le_of_ble_eq_true rfl) d_PL_readParts_18 (fun H locs hP hD hS => ?_)
  have hP : va_P (dC, dI) vwCl (wsG ad ck rf n fr a ar z 0 (nI (nbN fr 24 4)) 0 pp pf ic ie ip iz ia st rt pb) H := hP
  have hD : va_D A (wsG ad ck rf n fr a ar z 0 (nI (nbN fr 24 4)) 0 pp pf ic ie ip iz ia st rt pb) := hD
  refine lv_aload_n hx hb d_PL_readParts_21 rfl (lv_at hl 0 rfl) ?_
  refine lv_iconst (v := 2) hx hb d_PL_readParts_22 (by decide) ?_
  refine va_put (D := (dC, dI)) (ci := 5) (v := .int 2) (ty := .int) (C := R_PL) (T := T_PL) (N := 5) hx hb hts i_PL t_PL k_PL n_PL hown hK hP hD hS 6 rfl rfl 4 (by decide) (hts _ wd_111) (fun _ h9 => h9) rfl (by decide +kernel) rfl rfl (Nat.le_of_ble_eq_true rfl) d_PL_readParts_23 (fun H locs hP hD hS => ?_)
  have hP : va_P (dC, dI) vwCl (wsG ad ck rf n fr a ar z 0 (nI (nbN fr 24 4)) 0 2 pf ic ie ip iz ia st rt pb) H := hP
  have hD : va_D A (wsG ad ck rf n fr a ar z 0 (nI (nbN fr 24 4)) 0 2 pf ic ie ip iz ia st rt pb) := hD
  refine lv_aload_n hx hb d_PL_readParts_26 rfl (lv_at hl 1 rfl) ?_
  refine lv_bipush (v := 28) hx hb d_PL_readParts_27 (by decide) ?_
  refine lv_iconst (v := 4) hx hb d_PL_readParts_29 (by decide) ?_
  refine xcalli (va_runV (As := [.int 28, .int 4]) (rest := []) ⟨hx, hb, hml, hown, hts⟩ (c_fb_number4 l dC dI ad ck rf n fr a ar z 0 (nI (nbN fr 24 4)) 0 2 pf ic ie ip iz ia st rt pb 28 hn H.size) (cwV 2 hts (xgV wd_277 wd_278 wd_279 wd_16 wd_280) rfl rfl rfl (by decide +kernel) ⟨Nat.le_of_ble_eq_true rfl, Nat.le_of_ble_eq_true rfl⟩) (xpreV (q0 := 1) hK hN hZ hA hS hP hD rfl rfl) rfl rfl hl.1 rfl (lv_room (Nat.le_of_ble_eq_true rfl)) d_PL_readParts_30 ⟨Nat.zero_le _, Nat.zero_le _⟩) hD hS hA (fun r_2 H locs hr_2 hP hD hS => ?_)
  subst hr_2
  refine xtopi (y := nI (nbN fr 28 4)) (p_num (q := 28) (by omega) hn) ?_
  refine lv_istore_n (lv' := [(2, .int (nI (nbN fr 28 4))), (0, .ref (ad 6)), (1, .ref (ad 1))]) hx hb d_PL_readParts_33 rfl hl (by decide) rfl (fun ls hl => ?_)
  refine lv_aload_n hx hb d_PL_readParts_34 rfl (lv_at hl 2 rfl) ?_
  refine xcalli (va_runS (As := [.ref (ad 1)]) (rest := []) ⟨hx, hb, hml, hown, hts⟩ (c_pl_headerCount l dC dI ad ck rf n fr a ar z 0 (nI (nbN fr 24 4)) 0 2 pf ic ie ip iz ia st rt pb h52 hn H.size) (cwS 1 hts (xgS wd_285 wd_286 wd_18 wd_287) rfl rfl rfl (by decide +kernel) ⟨Nat.le_of_ble_eq_true rfl, Nat.le_of_ble_eq_true rfl⟩) (xpreS hK hN hZ hA hS hP hD) rfl rfl hl.1 rfl (lv_room (Nat.le_of_ble_eq_true rfl)) d_PL_readParts_35 ⟨Nat.zero_le _, Nat.zero_le _⟩) hD hS hA (fun r_3 H locs hr_3 hP hD hS => ?_)
  subst hr_3
  refine lv_istore_n (lv' := [(3, .int (nI (nbN fr 44 2))), (2, .int (nI (nbN fr 28 4))), (0, .ref (ad 6)), (1, .ref (ad 1))]) hx hb d_PL_readParts_38 rfl hl (by decide) rfl (fun ls hl => ?_)
  refine lv_iconst (v := 0) hx hb d_PL_readParts_39 (by decide) ?_
  refine lv_istore (lv' := [(4, .int 0), (3, .int (nI (nbN fr 44 2))), (2, .int (nI (nbN fr 28 4))), (0, .ref (ad 6)), (1, .ref (ad 1))]) hx hb d_PL_readParts_40 hl (by decide) rfl (fun ls hl => ?_)
  have lp42 : ∀ (fu42 : Nat) (j c1 t1 g1 : Nat) (f1 : Nat → Nat → Int32), (nbN fr 44 2 - j < fu42) → (j ≤ nbN fr 44 2) → (c1 ≤ j) → (t1 ≤ 1073733632) → (plRun fr n (nbN fr 28 4) (nbN fr 44 2 - j) j (c1, t1, g1, f1) = plAll fr n pf) → ∀ (H : Heap) (locs : List Loc), va_P (dC, dI) vwCl (wsG ad ck rf n fr a ar z c1 (nI (nbN fr 24 4)) t1 g1 f1 ic ie ip iz ia st rt pb) H → va_D A (wsG ad ck rf n fr a ar z c1 (nI (nbN fr 24 4)) t1 g1 f1 ic ie ip iz ia st rt pb) → va_S A s.heap H locs → ∀ ls : Array Slot, lv_has ls 5 [(0, .ref (ad 6)), (1, .ref (ad 1)), (2, .int (nI (nbN fr 28 4))), (3, .int (nI (nbN fr 44 2))), (4, .int (nI j))] → W p l e { frames := 4, cells := 0, slots := 0, locals := 110 } s m [.ref (ad 6), .ref (ad 1)].toArray below meth c H locs 0 0 (MQ below (xQi (dC, dI) (tyG ck) A (wsG ad ck rf n fr a ar z ((plAll fr n pf).2.1) (nI (nbN fr 24 4)) ((plAll fr n pf).2.2.1) ((plAll fr n pf).2.2.2.1) ((plAll fr n pf).2.2.2.2) ic ie ip iz ia st rt pb) (fun r => r = bI ((plAll fr n pf).1 = true))) [.ref (ad 6), .ref (ad 1)].toArray s 0 0 A) (F0 m 42 ls []) := by
    intro fu42
    induction fu42 with
    | zero => intro j c1 t1 g1 f1 hfu42; exact absurd hfu42 (Nat.not_lt_zero _)
    | succ fu42 ih42 =>
      intro j c1 t1 g1 f1 hfu42 hj hc1 ht1 heq H locs hP hD hS ls hl
      refine lv_iload hx hb d_PL_readParts_42 (lv_at hl 4 rfl) ?_
      refine lv_iload_n hx hb d_PL_readParts_44 rfl (lv_at hl 3 rfl) ?_
      refine lv_icmp_ge (tgt := 71) hx hb d_PL_readParts_45 (by decide) (fun c_4 => ?_) (fun c_4 => ?_)
      · skip
        have c_4 : nbN fr 44 2 ≤ j := (nI_leI (a := nbN fr 44 2) (b := j) (by omega) (by omega)).mp c_4
        have e9 : plAll fr n pf = (true, c1, t1, g1, f1) := by rw [← heq, show nbN fr 44 2 - j = 0 from by omega]; rfl
        refine lv_iconst (v := 1) hx hb d_PL_readParts_71 (by decide) ?_
        have hw9 : wsG ad ck rf n fr a ar z c1 (nI (nbN fr 24 4)) t1 g1 f1 ic ie ip iz ia st rt pb = wsG ad ck rf n fr a ar z ((plAll fr n pf).2.1) (nI (nbN fr 24 4)) ((plAll fr n pf).2.2.1) ((plAll fr n pf).2.2.2.1) ((plAll fr n pf).2.2.2.2) ic ie ip iz ia st rt pb := by rw [e9]
        rw [hw9] at hP hD
        exact xreti (v := 1) hx hb hr hlocks hK hP hD hS (rfl) (bI_1 (by rw [e9])) d_PL_readParts_72
      · skip
        have c_4 : ¬ (nbN fr 44 2 ≤ j) := fun h9 => c_4 ((nI_leI (a := nbN fr 44 2) (b := j) (by omega) (by omega)).mpr h9)
        refine lv_aload_n hx hb d_PL_readParts_48 rfl (lv_at hl 0 rfl) ?_
        refine lv_aload_n hx hb d_PL_readParts_49 rfl (lv_at hl 1 rfl) ?_
        refine lv_iload_n hx hb d_PL_readParts_50 rfl (lv_at hl 2 rfl) ?_
        refine lv_iload hx hb d_PL_readParts_51 (lv_at hl 4 rfl) ?_
        refine lv_bipush (v := 32) hx hb d_PL_readParts_53 (by decide) ?_
        refine lv_imul hx hb d_PL_readParts_55 ?_
        refine xtopi (y := nI (j * 32)) (pk_mul (j) (32)) ?_
        refine lv_iadd hx hb d_PL_readParts_56 ?_
        refine xtopi (y := nI ((nbN fr 28 4) + (j * 32))) (nI_add (nbN fr 28 4) (j * 32)) ?_
        refine xcalli (va_runV (As := [.ref (ad 1), .int (nI ((nbN fr 28 4) + (j * 32)))]) (rest := []) ⟨hx, hb, hml, hown, hts⟩ (c_pl_readHeader l dC dI ad ck rf n fr a ar z c1 (nI (nbN fr 24 4)) t1 g1 f1 ic ie ip iz ia st rt pb ((nbN fr 28 4) + (j * 32)) (by omega) (by omega) (by omega) hn H.size) (cwV 2 hts (xgV wd_302 wd_304 wd_1 wd_18 wd_305) rfl rfl rfl (by decide +kernel) ⟨Nat.le_of_ble_eq_true rfl, Nat.le_of_ble_eq_true rfl⟩) (xpreV (q0 := 6) hK hN hZ hA hS hP hD rfl rfl) rfl rfl hl.1 rfl (lv_room (Nat.le_of_ble_eq_true rfl)) d_PL_readParts_57 ⟨Nat.zero_le _, Nat.zero_le _⟩) hD hS hA (fun r_5 H locs hr_5 hP hD hS => ?_)
        subst hr_5
        refine lv_if_ne (tgt := 65) hx hb d_PL_readParts_60 (by decide) (fun c_6 => ?_) (fun c_6 => ?_)
        · skip
          have c_6 := bI_t c_6
          refine lv_iinc (v := nI (j + 1)) (lv' := [(4, .int (nI (j + 1))), (0, .ref (ad 6)), (1, .ref (ad 1)), (2, .int (nI (nbN fr 28 4))), (3, .int (nI (nbN fr 44 2)))]) hx hb d_PL_readParts_65 hl (k := 4) rfl (nI_1 _) (by decide) rfl (fun ls hl => ?_)
          refine lv_goto (tgt := 42) hx hb d_PL_readParts_68 (by decide) ?_
          rw [show nbN fr 44 2 - j = nbN fr 44 2 - (j + 1) + 1 from by omega, plRun, if_pos c_6] at heq
          have hs1 := psStep_cnt (f := fr) (n := n) (q := nbN fr 28 4 + j * 32) (s := (c1, t1, g1, f1))
          have hs1 : (psStep fr n (nbN fr 28 4 + j * 32) (c1, t1, g1, f1)).1 ≤ c1 + 1 := hs1
          exact ih42 (j + 1) (psStep fr n (nbN fr 28 4 + j * 32) (c1, t1, g1, f1)).1 (psStep fr n (nbN fr 28 4 + j * 32) (c1, t1, g1, f1)).2.1 (psStep fr n (nbN fr 28 4 + j * 32) (c1, t1, g1, f1)).2.2.1 (psStep fr n (nbN fr 28 4 + j * 32) (c1, t1, g1, f1)).2.2.2 (by omega) (by omega) (by omega) (psStep_top (s := (c1, t1, g1, f1)) ht1) (heq) _ _ hP hD hS _ (lv_sub hl [1, 2, 3, 4, 0] rfl)
        · skip
          have c_6 := bI_f c_6
          have e9 : plAll fr n pf = (false, c1, t1, g1, f1) := by rw [← heq, show nbN fr 44 2 - j = nbN fr 44 2 - (j + 1) + 1 from by omega, plRun, if_neg c_6]
          have e8 : (psStep fr n (nbN fr 28 4 + j * 32) (c1, t1, g1, f1)) = (c1, t1, g1, f1) := psStep_bad (s := (c1, t1, g1, f1)) (fun h9 => c_6 (Or.inr h9))
          refine lv_iconst (v := 0) hx hb d_PL_readParts_63 (by decide) ?_
          have hw9 : wsG ad ck rf n fr a ar z ((psStep fr n ((nbN fr 28 4) + (j * 32)) (c1, t1, g1, f1)).1) (nI (nbN fr 24 4)) ((psStep fr n ((nbN fr 28 4) + (j * 32)) (c1, t1, g1, f1)).2.1) ((psStep fr n ((nbN fr 28 4) + (j * 32)) (c1, t1, g1, f1)).2.2.1) ((psStep fr n ((nbN fr 28 4) + (j * 32)) (c1, t1, g1, f1)).2.2.2) ic ie ip iz ia st rt pb = wsG ad ck rf n fr a ar z ((plAll fr n pf).2.1) (nI (nbN fr 24 4)) ((plAll fr n pf).2.2.1) ((plAll fr n pf).2.2.2.1) ((plAll fr n pf).2.2.2.2) ic ie ip iz ia st rt pb := by rw [e9, e8]
          rw [hw9] at hP hD
          exact xreti (v := 0) hx hb hr hlocks hK hP hD hS (rfl) (bI_0 (by rw [e9]; exact Bool.false_ne_true)) d_PL_readParts_64
  exact lp42 ((nbN fr 44 2 - 0) + 1) 0 0 0 2 pf (Nat.lt_succ_self _) (by omega) (by omega) (by omega) (rfl) _ _ hP hD hS _ (lv_sub hl [3, 4, 2, 1, 0] rfl)
