set_option maxHeartbeats 4000000 in
set_option maxRecDepth 100000 in
theorem m_header (l : Launch) (dC : Nat → ClassId) (dI : Nat → Nat → Nat) (bd : Nat → Nat) (cm : Nat → ClassId) (th : Int32) (n : Nat) (fr : Nat → Int32) (a : Nat) (z : Nat → Nat) (le : Nat → Int32) (wy : Int32) (fo : Nat) (en : Nat) (fF : Nat → Nat) (fA : Nat → Nat) (fB : Nat → Nat) (fS : Nat → Nat) (fW : Nat → Int32) (sk : Nat → Int32) (pg : Nat) (ye : Int32) (ys : Int32) (yt : Nat) (yg : Nat) (yp : Nat) (tk : Nat → Int32) (gF : Nat → Nat) (gA : Nat → Nat) (gB : Nat → Nat) (gS : Nat → Nat) (gW : Nat → Int32) (yk : Nat → Int32) (q : Nat) (hq : q + 32 ≤ n) (hfo : fo < 8) (hen : en ≤ 1073733632) (hn : n ≤ 65536) (sz : Nat) : Met l y_MD_header w_MD_header { frames := 1, cells := 0, slots := 0, locals := 30 } (va_Pc [.ref (bd 0), .long (lN q)] (xP (dC, dI) (tyM cm) (wsM bd cm th n fr a z le wy fo en fF fA fB fS fW sk pg ye ys yt yg yp tk gF gA gB gS gW yk) sz)) (xQi (dC, dI) (tyM cm) (va_A (wsM bd cm th n fr a z le wy fo en fF fA fB fS fW sk pg ye ys yt yg yp tk gF gA gB gS gW yk) sz) (wsM bd cm th n fr a z le wy ((msStep fr n q (fo, en, fF, fA, fB, fS, fW)).1) ((msStep fr n q (fo, en, fF, fA, fB, fS, fW)).2.1) ((msStep fr n q (fo, en, fF, fA, fB, fS, fW)).2.2.1) ((msStep fr n q (fo, en, fF, fA, fB, fS, fW)).2.2.2.1) ((msStep fr n q (fo, en, fF, fA, fB, fS, fW)).2.2.2.2.1) ((msStep fr n q (fo, en, fF, fA, fB, fS, fW)).2.2.2.2.2.1) ((msStep fr n q (fo, en, fF, fA, fB, fS, fW)).2.2.2.2.2.2) sk pg ye ys yt yg yp tk gF gA gB gS gW yk) (fun r => r = bI (hdSkip fr q ∨ hdGood fr n en q))) 0 0 (va_A (wsM bd cm th n fr a z le wy fo en fF fA fB fS fW sk pg ye ys yt yg yp tk gF gA gB gS gW yk) sz) := by
  refine xof (cc := b_MD_header) (maxL := 14) (ret := (some .boolean)) (own := R_MD) (Qc := fun A => (xQi (dC, dI) (tyM cm) A (wsM bd cm th n fr a z le wy ((msStep fr n q (fo, en, fF, fA, fB, fS, fW)).1) ((msStep fr n q (fo, en, fF, fA, fB, fS, fW)).2.1) ((msStep fr n q (fo, en, fF, fA, fB, fS, fW)).2.2.1) ((msStep fr n q (fo, en, fF, fA, fB, fS, fW)).2.2.2.1) ((msStep fr n q (fo, en, fF, fA, fB, fS, fW)).2.2.2.2.1) ((msStep fr n q (fo, en, fF, fA, fB, fS, fW)).2.2.2.2.2.1) ((msStep fr n q (fo, en, fF, fA, fB, fS, fW)).2.2.2.2.2.2) sk pg ye ys yt yg yp tk gF gA gB gS gW yk) (fun r => r = bI (hdSkip fr q ∨ hdGood fr n en q)))) (by decide) rfl rfl (Nat.le_of_ble_eq_true rfl) ?_ sz
  intro p e s m below meth c A C hnm hK hP hD hA hN hZ hS ls hl
  obtain ⟨hx, hb, hr, hml, hown, hts, hlocks⟩ := C
  have hl : lv_has ls 14 [(0, .ref (bd 0)), (1, .long (lN q))] := hl
  have b0 := nbN_lt4 fr q
  have b1 := nbN_lt4 fr (q + 4)
  have b2 := nbN_lt4 fr (q + 8)
  have b3 := nbN_lt4 fr (q + 16)
  have b4 := nbN_lt4 fr (q + 20)
  refine lv_aload_n hx hb d_MD_header_0 rfl (lv_at hl 0 rfl) ?_
  refine lv_lload_n hx hb d_MD_header_1 rfl (lv_at hl 1 rfl) ?_
  refine lv_ldc2 (v := 4) hx hb hown (hts _ wd_528) d_MD_header_2 ?_
  refine lv_ladd hx hb d_MD_header_5 ?_
  refine xtopl (y := lN (q + 4)) (lN_add (q) (4)) ?_
  refine lv_iconst (v := 4) hx hb d_MD_header_6 (by decide) ?_
  refine xcalll (va_runV (As := [.long (lN (q + 4)), .int 4]) (rest := []) ⟨hx, hb, hml, hown, hts⟩ (m_number4 l dC dI bd cm th n fr a z le wy fo en fF fA fB fS fW sk pg ye ys yt yg yp tk gF gA gB gS gW yk (q + 4) (by omega) s.heap.size) (cwV 2 hts (xgV wd_523 wd_525 wd_7 wd_22 wd_526) rfl rfl rfl (by decide +kernel) ⟨Nat.le_of_ble_eq_true rfl, Nat.le_of_ble_eq_true rfl⟩) (xpreV (q0 := 0) hK hN hZ hA hS hP hD rfl rfl) rfl rfl hl.1 rfl (lv_room (Nat.le_of_ble_eq_true rfl)) d_MD_header_7 ⟨Nat.zero_le _, Nat.zero_le _⟩) hD hS hA (fun r_1 H locs hr_1 hP hD hS => ?_)
  subst hr_1
  refine lv_lstore_n (lv' := [(3, .long (lN (nbN fr (q + 4) 4))), (0, .ref (bd 0)), (1, .long (lN q))]) hx hb d_MD_header_10 rfl hl (by decide) rfl (fun ls hl => ?_)
  refine lv_aload_n hx hb d_MD_header_11 rfl (lv_at hl 1 rfl) ?_
  refine lv_lload_n hx hb d_MD_header_12 rfl (lv_at hl 2 rfl) ?_
  refine lv_ldc2 (v := 8) hx hb hown (hts _ wd_549) d_MD_header_13 ?_
  refine lv_ladd hx hb d_MD_header_16 ?_
  refine xtopl (y := lN (q + 8)) (lN_add (q) (8)) ?_
  refine lv_iconst (v := 4) hx hb d_MD_header_17 (by decide) ?_
  refine xcalll (va_runV (As := [.long (lN (q + 8)), .int 4]) (rest := []) ⟨hx, hb, hml, hown, hts⟩ (m_number4 l dC dI bd cm th n fr a z le wy fo en fF fA fB fS fW sk pg ye ys yt yg yp tk gF gA gB gS gW yk (q + 8) (by omega) H.size) (cwV 2 hts (xgV wd_523 wd_525 wd_7 wd_22 wd_526) rfl rfl rfl (by decide +kernel) ⟨Nat.le_of_ble_eq_true rfl, Nat.le_of_ble_eq_true rfl⟩) (xpreV (q0 := 0) hK hN hZ hA hS hP hD rfl rfl) rfl rfl hl.1 rfl (lv_room (Nat.le_of_ble_eq_true rfl)) d_MD_header_18 ⟨Nat.zero_le _, Nat.zero_le _⟩) hD hS hA (fun r_2 H locs hr_2 hP hD hS => ?_)
  subst hr_2
  refine lv_lstore (lv' := [(5, .long (lN (nbN fr (q + 8) 4))), (3, .long (lN (nbN fr (q + 4) 4))), (0, .ref (bd 0)), (1, .long (lN q))]) hx hb d_MD_header_21 hl (by decide) rfl (fun ls hl => ?_)
  refine lv_aload_n hx hb d_MD_header_23 rfl (lv_at hl 2 rfl) ?_
  refine lv_lload_n hx hb d_MD_header_24 rfl (lv_at hl 3 rfl) ?_
  refine lv_ldc2 (v := 16) hx hb hown (hts _ wd_535) d_MD_header_25 ?_
  refine lv_ladd hx hb d_MD_header_28 ?_
  refine xtopl (y := lN (q + 16)) (lN_add (q) (16)) ?_
  refine lv_iconst (v := 4) hx hb d_MD_header_29 (by decide) ?_
  refine xcalll (va_runV (As := [.long (lN (q + 16)), .int 4]) (rest := []) ⟨hx, hb, hml, hown, hts⟩ (m_number4 l dC dI bd cm th n fr a z le wy fo en fF fA fB fS fW sk pg ye ys yt yg yp tk gF gA gB gS gW yk (q + 16) (by omega) H.size) (cwV 2 hts (xgV wd_523 wd_525 wd_7 wd_22 wd_526) rfl rfl rfl (by decide +kernel) ⟨Nat.le_of_ble_eq_true rfl, Nat.le_of_ble_eq_true rfl⟩) (xpreV (q0 := 0) hK hN hZ hA hS hP hD rfl rfl) rfl rfl hl.1 rfl (lv_room (Nat.le_of_ble_eq_true rfl)) d_MD_header_30 ⟨Nat.zero_le _, Nat.zero_le _⟩) hD hS hA (fun r_3 H locs hr_3 hP hD hS => ?_)
  subst hr_3
  refine lv_lstore (lv' := [(7, .long (lN (nbN fr (q + 16) 4))), (5, .long (lN (nbN fr (q + 8) 4))), (3, .long (lN (nbN fr (q + 4) 4))), (0, .ref (bd 0)), (1, .long (lN q))]) hx hb d_MD_header_33 hl (by decide) rfl (fun ls hl => ?_)
  refine lv_aload_n hx hb d_MD_header_35 rfl (lv_at hl 3 rfl) ?_
  refine lv_lload_n hx hb d_MD_header_36 rfl (lv_at hl 4 rfl) ?_
  refine lv_ldc2 (v := 20) hx hb hown (hts _ wd_539) d_MD_header_37 ?_
  refine lv_ladd hx hb d_MD_header_40 ?_
  refine xtopl (y := lN (q + 20)) (lN_add (q) (20)) ?_
  refine lv_iconst (v := 4) hx hb d_MD_header_41 (by decide) ?_
  refine xcalll (va_runV (As := [.long (lN (q + 20)), .int 4]) (rest := []) ⟨hx, hb, hml, hown, hts⟩ (m_number4 l dC dI bd cm th n fr a z le wy fo en fF fA fB fS fW sk pg ye ys yt yg yp tk gF gA gB gS gW yk (q + 20) (by omega) H.size) (cwV 2 hts (xgV wd_523 wd_525 wd_7 wd_22 wd_526) rfl rfl rfl (by decide +kernel) ⟨Nat.le_of_ble_eq_true rfl, Nat.le_of_ble_eq_true rfl⟩) (xpreV (q0 := 0) hK hN hZ hA hS hP hD rfl rfl) rfl rfl hl.1 rfl (lv_room (Nat.le_of_ble_eq_true rfl)) d_MD_header_42 ⟨Nat.zero_le _, Nat.zero_le _⟩) hD hS hA (fun r_4 H locs hr_4 hP hD hS => ?_)
  subst hr_4
  refine lv_lstore (lv' := [(9, .long (lN (nbN fr (q + 20) 4))), (7, .long (lN (nbN fr (q + 16) 4))), (5, .long (lN (nbN fr (q + 8) 4))), (3, .long (lN (nbN fr (q + 4) 4))), (0, .ref (bd 0)), (1, .long (lN q))]) hx hb d_MD_header_45 hl (by decide) rfl (fun ls hl => ?_)
  refine lv_aload_n hx hb d_MD_header_47 rfl (lv_at hl 4 rfl) ?_
  refine lv_lload_n hx hb d_MD_header_48 rfl (lv_at hl 5 rfl) ?_
  refine lv_iconst (v := 4) hx hb d_MD_header_49 (by decide) ?_
  refine xcalll (va_runV (As := [.long (lN q), .int 4]) (rest := []) ⟨hx, hb, hml, hown, hts⟩ (m_number4 l dC dI bd cm th n fr a z le wy fo en fF fA fB fS fW sk pg ye ys yt yg yp tk gF gA gB gS gW yk q (by omega) H.size) (cwV 2 hts (xgV wd_523 wd_525 wd_7 wd_22 wd_526) rfl rfl rfl (by decide +kernel) ⟨Nat.le_of_ble_eq_true rfl, Nat.le_of_ble_eq_true rfl⟩) (xpreV (q0 := 0) hK hN hZ hA hS hP hD rfl rfl) rfl rfl hl.1 rfl (lv_room (Nat.le_of_ble_eq_true rfl)) d_MD_header_50 ⟨Nat.zero_le _, Nat.zero_le _⟩) hD hS hA (fun r_5 H locs hr_5 hP hD hS => ?_)
  subst hr_5
  refine lv_lconst (v := 1) hx hb d_MD_header_53 (by decide) ?_
  refine W.lcmp hx hb d_MD_header_54 ?_
  refine lv_if_ne (tgt := 65) hx hb d_MD_header_55 (by decide) (fun c_6 => ?_) (fun c_6 => ?_)
  · skip
    rw [lg_cmp_eq] at c_6
    have c_6 : ¬ (nbN fr q 4 = 1) := fun h9 => c_6 ((pk_lEQ (a := nbN fr q 4) (b := 1) (by omega) (by omega)).mpr h9)
    refine lv_iconst (v := 1) hx hb d_MD_header_65 (by decide) ?_
    have hw9 : wsM bd cm th n fr a z le wy fo en fF fA fB fS fW sk pg ye ys yt yg yp tk gF gA gB gS gW yk = wsM bd cm th n fr a z le wy ((msStep fr n q (fo, en, fF, fA, fB, fS, fW)).1) ((msStep fr n q (fo, en, fF, fA, fB, fS, fW)).2.1) ((msStep fr n q (fo, en, fF, fA, fB, fS, fW)).2.2.1) ((msStep fr n q (fo, en, fF, fA, fB, fS, fW)).2.2.2.1) ((msStep fr n q (fo, en, fF, fA, fB, fS, fW)).2.2.2.2.1) ((msStep fr n q (fo, en, fF, fA, fB, fS, fW)).2.2.2.2.2.1) ((msStep fr n q (fo, en, fF, fA, fB, fS, fW)).2.2.2.2.2.2) sk pg ye ys yt yg yp tk gF gA gB gS gW yk := by rw [msStep_skip (Or.inl c_6)]
    rw [hw9] at hP hD
    exact xreti (v := 1) hx hb hr hlocks hK hP hD hS (rfl) (bI_1 (Or.inl (Or.inl c_6))) d_MD_header_66
  · skip
    rw [lg_cmp_eq] at c_6
    have c_6 : nbN fr q 4 = 1 := (pk_lEQ (a := nbN fr q 4) (b := 1) (by omega) (by omega)).mp c_6
    refine lv_lload hx hb d_MD_header_58 (lv_at hl 0 rfl) ?_
    refine lv_lconst (v := 0) hx hb d_MD_header_60 (by decide) ?_
    refine W.lcmp hx hb d_MD_header_61 ?_
    refine lv_if_ne (tgt := 67) hx hb d_MD_header_62 (by decide) (fun c_7 => ?_) (fun c_7 => ?_)
    · skip
      rw [lg_cmp_eq] at c_7
      have c_7 : ¬ (nbN fr (q + 20) 4 = 0) := fun h9 => c_7 ((pk_lEQ (a := nbN fr (q + 20) 4) (b := 0) (by omega) (by omega)).mpr h9)
      have hskip : ¬ hdSkip fr q := fun h9 => h9.elim (fun h8 => h8 c_6) c_7
      refine lv_lload hx hb d_MD_header_67 (lv_at hl 2 rfl) ?_
      refine lv_ldc2 (v := 4096) hx hb hown (hts _ wd_550) d_MD_header_69 ?_
      refine lv_lrem hx hb d_MD_header_72 (by decide) ?_
      refine xtopl (y := lN ((nbN fr (q + 8) 4) % 4096)) (pk_lRem (a := nbN fr (q + 8) 4) (b := 4096) (by omega) (by omega) (by omega)) ?_
      refine lv_lconst (v := 0) hx hb d_MD_header_73 (by decide) ?_
      refine W.lcmp hx hb d_MD_header_74 ?_
      refine lv_if_ne (tgt := 104) hx hb d_MD_header_75 (by decide) (fun c_8 => ?_) (fun c_8 => ?_)
      · skip
        rw [lg_cmp_eq] at c_8
        have c_8 : ¬ ((nbN fr (q + 8) 4) % 4096 = 0) := fun h9 => c_8 ((pk_lEQ (a := (nbN fr (q + 8) 4) % 4096) (b := 0) (by omega) (by omega)).mpr h9)
        have hgood : ¬ hdGood fr n en q := fun h9 => absurd (show nbN fr (q + 8) 4 % 4096 = 0 from h9.1) (by omega)
        refine lv_iconst (v := 0) hx hb d_MD_header_104 (by decide) ?_
        refine lv_istore (lv' := [(11, .int 0), (9, .long (lN (nbN fr (q + 20) 4))), (7, .long (lN (nbN fr (q + 16) 4))), (5, .long (lN (nbN fr (q + 8) 4))), (3, .long (lN (nbN fr (q + 4) 4))), (0, .ref (bd 0)), (1, .long (lN q))]) hx hb d_MD_header_105 hl (by decide) rfl (fun ls hl => ?_)
        refine lv_lload hx hb d_MD_header_107 (lv_at hl 2 rfl) ?_
        refine lv_lload hx hb d_MD_header_109 (lv_at hl 1 rfl) ?_
        refine W.lcmp hx hb d_MD_header_111 ?_
        refine lv_if_gt (tgt := 132) hx hb d_MD_header_112 (by decide) (fun c_9 => ?_) (fun c_9 => ?_)
        · skip
          rw [lg_cmp_gt] at c_9
          have c_9 : nbN fr (q + 20) 4 < nbN fr (q + 16) 4 := (pk_lLT (a := nbN fr (q + 20) 4) (b := nbN fr (q + 16) 4) (by omega) (by omega)).mp c_9
          refine lv_iconst (v := 0) hx hb d_MD_header_132 (by decide) ?_
          refine lv_istore (lv' := [(12, .int 0), (11, .int 0), (9, .long (lN (nbN fr (q + 20) 4))), (7, .long (lN (nbN fr (q + 16) 4))), (5, .long (lN (nbN fr (q + 8) 4))), (3, .long (lN (nbN fr (q + 4) 4))), (0, .ref (bd 0)), (1, .long (lN q))]) hx hb d_MD_header_133 hl (by decide) rfl (fun ls hl => ?_)
          refine lv_iload hx hb d_MD_header_135 (lv_at hl 1 rfl) ?_
          refine lv_if_eq (tgt := 145) hx hb d_MD_header_137 (by decide) (fun c_10 => ?_) (fun c_10 => ?_)
          · skip
            refine lv_iconst (v := 0) hx hb d_MD_header_145 (by decide) ?_
            have hw9 : wsM bd cm th n fr a z le wy fo en fF fA fB fS fW sk pg ye ys yt yg yp tk gF gA gB gS gW yk = wsM bd cm th n fr a z le wy ((msStep fr n q (fo, en, fF, fA, fB, fS, fW)).1) ((msStep fr n q (fo, en, fF, fA, fB, fS, fW)).2.1) ((msStep fr n q (fo, en, fF, fA, fB, fS, fW)).2.2.1) ((msStep fr n q (fo, en, fF, fA, fB, fS, fW)).2.2.2.1) ((msStep fr n q (fo, en, fF, fA, fB, fS, fW)).2.2.2.2.1) ((msStep fr n q (fo, en, fF, fA, fB, fS, fW)).2.2.2.2.2.1) ((msStep fr n q (fo, en, fF, fA, fB, fS, fW)).2.2.2.2.2.2) sk pg ye ys yt yg yp tk gF gA gB gS gW yk := by rw [msStep_bad hgood]
            rw [hw9] at hP hD
            exact xreti (v := 0) hx hb hr hlocks hK hP hD hS (rfl) (bI_0 (fun h9 => h9.elim hskip hgood)) d_MD_header_146
          · exact absurd c_10 (by decide)
        · skip
          rw [lg_cmp_gt] at c_9
          have c_9 : ¬ (nbN fr (q + 20) 4 < nbN fr (q + 16) 4) := fun h9 => c_9 ((pk_lLT (a := nbN fr (q + 20) 4) (b := nbN fr (q + 16) 4) (by omega) (by omega)).mpr h9)
          refine lv_lload_n hx hb d_MD_header_115 rfl (lv_at hl 4 rfl) ?_
          refine lv_lload hx hb d_MD_header_116 (lv_at hl 2 rfl) ?_
          refine lv_ladd hx hb d_MD_header_118 ?_
          refine xtopl (y := lN ((nbN fr (q + 4) 4) + (nbN fr (q + 16) 4))) (lN_add (nbN fr (q + 4) 4) (nbN fr (q + 16) 4)) ?_
          refine lv_aload_n hx hb d_MD_header_119 rfl (lv_at hl 5 rfl) ?_
          refine va_get (D := (dC, dI)) (ci := 7) (v := .int (nI n)) (C := R_MD) (T := T_MD) (N := 28) hx hb hts i_MD hown hK hP 0 rfl rfl 1 (by decide) (hts _ wd_393) (fun _ h9 => h9) rfl d_MD_header_120 ?_
          refine lv_i2l hx hb d_MD_header_123 rfl ?_
          refine xtopl (y := lN n) (nI_l (n := n) (by omega)) ?_
          refine W.lcmp hx hb d_MD_header_124 ?_
          refine lv_if_gt (tgt := 132) hx hb d_MD_header_125 (by decide) (fun c_11 => ?_) (fun c_11 => ?_)
          · skip
            rw [lg_cmp_gt] at c_11
            have c_11 : n < (nbN fr (q + 4) 4) + (nbN fr (q + 16) 4) := (pk_lLT (a := n) (b := (nbN fr (q + 4) 4) + (nbN fr (q + 16) 4)) (by omega) (by omega)).mp c_11
            refine lv_iconst (v := 0) hx hb d_MD_header_132 (by decide) ?_
            refine lv_istore (lv' := [(12, .int 0), (11, .int 0), (9, .long (lN (nbN fr (q + 20) 4))), (7, .long (lN (nbN fr (q + 16) 4))), (5, .long (lN (nbN fr (q + 8) 4))), (3, .long (lN (nbN fr (q + 4) 4))), (0, .ref (bd 0)), (1, .long (lN q))]) hx hb d_MD_header_133 hl (by decide) rfl (fun ls hl => ?_)
            refine lv_iload hx hb d_MD_header_135 (lv_at hl 1 rfl) ?_
            refine lv_if_eq (tgt := 145) hx hb d_MD_header_137 (by decide) (fun c_12 => ?_) (fun c_12 => ?_)
            · skip
              refine lv_iconst (v := 0) hx hb d_MD_header_145 (by decide) ?_
              have hw9 : wsM bd cm th n fr a z le wy fo en fF fA fB fS fW sk pg ye ys yt yg yp tk gF gA gB gS gW yk = wsM bd cm th n fr a z le wy ((msStep fr n q (fo, en, fF, fA, fB, fS, fW)).1) ((msStep fr n q (fo, en, fF, fA, fB, fS, fW)).2.1) ((msStep fr n q (fo, en, fF, fA, fB, fS, fW)).2.2.1) ((msStep fr n q (fo, en, fF, fA, fB, fS, fW)).2.2.2.1) ((msStep fr n q (fo, en, fF, fA, fB, fS, fW)).2.2.2.2.1) ((msStep fr n q (fo, en, fF, fA, fB, fS, fW)).2.2.2.2.2.1) ((msStep fr n q (fo, en, fF, fA, fB, fS, fW)).2.2.2.2.2.2) sk pg ye ys yt yg yp tk gF gA gB gS gW yk := by rw [msStep_bad hgood]
              rw [hw9] at hP hD
              exact xreti (v := 0) hx hb hr hlocks hK hP hD hS (rfl) (bI_0 (fun h9 => h9.elim hskip hgood)) d_MD_header_146
            · exact absurd c_12 (by decide)
          · skip
            rw [lg_cmp_gt] at c_11
            have c_11 : ¬ (n < (nbN fr (q + 4) 4) + (nbN fr (q + 16) 4)) := fun h9 => c_11 ((pk_lLT (a := n) (b := (nbN fr (q + 4) 4) + (nbN fr (q + 16) 4)) (by omega) (by omega)).mpr h9)
            refine lv_iconst (v := 1) hx hb d_MD_header_128 (by decide) ?_
            refine lv_goto (tgt := 133) hx hb d_MD_header_129 (by decide) ?_
            refine lv_istore (lv' := [(12, .int 1), (11, .int 0), (9, .long (lN (nbN fr (q + 20) 4))), (7, .long (lN (nbN fr (q + 16) 4))), (5, .long (lN (nbN fr (q + 8) 4))), (3, .long (lN (nbN fr (q + 4) 4))), (0, .ref (bd 0)), (1, .long (lN q))]) hx hb d_MD_header_133 hl (by decide) rfl (fun ls hl => ?_)
            refine lv_iload hx hb d_MD_header_135 (lv_at hl 1 rfl) ?_
            refine lv_if_eq (tgt := 145) hx hb d_MD_header_137 (by decide) (fun c_13 => ?_) (fun c_13 => ?_)
            · skip
              refine lv_iconst (v := 0) hx hb d_MD_header_145 (by decide) ?_
              have hw9 : wsM bd cm th n fr a z le wy fo en fF fA fB fS fW sk pg ye ys yt yg yp tk gF gA gB gS gW yk = wsM bd cm th n fr a z le wy ((msStep fr n q (fo, en, fF, fA, fB, fS, fW)).1) ((msStep fr n q (fo, en, fF, fA, fB, fS, fW)).2.1) ((msStep fr n q (fo, en, fF, fA, fB, fS, fW)).2.2.1) ((msStep fr n q (fo, en, fF, fA, fB, fS, fW)).2.2.2.1) ((msStep fr n q (fo, en, fF, fA, fB, fS, fW)).2.2.2.2.1) ((msStep fr n q (fo, en, fF, fA, fB, fS, fW)).2.2.2.2.2.1) ((msStep fr n q (fo, en, fF, fA, fB, fS, fW)).2.2.2.2.2.2) sk pg ye ys yt yg yp tk gF gA gB gS gW yk := by rw [msStep_bad hgood]
              rw [hw9] at hP hD
              exact xreti (v := 0) hx hb hr hlocks hK hP hD hS (rfl) (bI_0 (fun h9 => h9.elim hskip hgood)) d_MD_header_146
            · exact absurd c_13 (by decide)
      · skip
        rw [lg_cmp_eq] at c_8
        have c_8 : (nbN fr (q + 8) 4) % 4096 = 0 := (pk_lEQ (a := (nbN fr (q + 8) 4) % 4096) (b := 0) (by omega) (by omega)).mp c_8
        refine lv_lload hx hb d_MD_header_78 (lv_at hl 2 rfl) ?_
        refine lv_aload_n hx hb d_MD_header_80 rfl (lv_at hl 4 rfl) ?_
        refine va_get (D := (dC, dI)) (ci := 7) (v := .long (lN en)) (C := R_MD) (T := T_MD) (N := 28) hx hb hts i_MD hown hK hP 0 rfl rfl 8 (by decide) (hts _ wd_400) (fun _ h9 => h9) rfl d_MD_header_81 ?_
        refine W.lcmp hx hb d_MD_header_84 ?_
        refine lv_if_lt (tgt := 104) hx hb d_MD_header_85 (by decide) (fun c_14 => ?_) (fun c_14 => ?_)
        · skip
          rw [lg_cmp_lt] at c_14
          have c_14 : nbN fr (q + 8) 4 < en := (pk_lLT (a := nbN fr (q + 8) 4) (b := en) (by omega) (by omega)).mp c_14
          have hgood : ¬ hdGood fr n en q := fun h9 => absurd (show en ≤ nbN fr (q + 8) 4 from h9.2.1) (by omega)
          refine lv_iconst (v := 0) hx hb d_MD_header_104 (by decide) ?_
          refine lv_istore (lv' := [(11, .int 0), (9, .long (lN (nbN fr (q + 20) 4))), (7, .long (lN (nbN fr (q + 16) 4))), (5, .long (lN (nbN fr (q + 8) 4))), (3, .long (lN (nbN fr (q + 4) 4))), (0, .ref (bd 0)), (1, .long (lN q))]) hx hb d_MD_header_105 hl (by decide) rfl (fun ls hl => ?_)
          refine lv_lload hx hb d_MD_header_107 (lv_at hl 2 rfl) ?_
          refine lv_lload hx hb d_MD_header_109 (lv_at hl 1 rfl) ?_
          refine W.lcmp hx hb d_MD_header_111 ?_
          refine lv_if_gt (tgt := 132) hx hb d_MD_header_112 (by decide) (fun c_15 => ?_) (fun c_15 => ?_)
          · skip
            rw [lg_cmp_gt] at c_15
            have c_15 : nbN fr (q + 20) 4 < nbN fr (q + 16) 4 := (pk_lLT (a := nbN fr (q + 20) 4) (b := nbN fr (q + 16) 4) (by omega) (by omega)).mp c_15
            refine lv_iconst (v := 0) hx hb d_MD_header_132 (by decide) ?_
            refine lv_istore (lv' := [(12, .int 0), (11, .int 0), (9, .long (lN (nbN fr (q + 20) 4))), (7, .long (lN (nbN fr (q + 16) 4))), (5, .long (lN (nbN fr (q + 8) 4))), (3, .long (lN (nbN fr (q + 4) 4))), (0, .ref (bd 0)), (1, .long (lN q))]) hx hb d_MD_header_133 hl (by decide) rfl (fun ls hl => ?_)
            refine lv_iload hx hb d_MD_header_135 (lv_at hl 1 rfl) ?_
            refine lv_if_eq (tgt := 145) hx hb d_MD_header_137 (by decide) (fun c_16 => ?_) (fun c_16 => ?_)
            · skip
              refine lv_iconst (v := 0) hx hb d_MD_header_145 (by decide) ?_
              have hw9 : wsM bd cm th n fr a z le wy fo en fF fA fB fS fW sk pg ye ys yt yg yp tk gF gA gB gS gW yk = wsM bd cm th n fr a z le wy ((msStep fr n q (fo, en, fF, fA, fB, fS, fW)).1) ((msStep fr n q (fo, en, fF, fA, fB, fS, fW)).2.1) ((msStep fr n q (fo, en, fF, fA, fB, fS, fW)).2.2.1) ((msStep fr n q (fo, en, fF, fA, fB, fS, fW)).2.2.2.1) ((msStep fr n q (fo, en, fF, fA, fB, fS, fW)).2.2.2.2.1) ((msStep fr n q (fo, en, fF, fA, fB, fS, fW)).2.2.2.2.2.1) ((msStep fr n q (fo, en, fF, fA, fB, fS, fW)).2.2.2.2.2.2) sk pg ye ys yt yg yp tk gF gA gB gS gW yk := by rw [msStep_bad hgood]
              rw [hw9] at hP hD
              exact xreti (v := 0) hx hb hr hlocks hK hP hD hS (rfl) (bI_0 (fun h9 => h9.elim hskip hgood)) d_MD_header_146
            · exact absurd c_16 (by decide)
          · skip
            rw [lg_cmp_gt] at c_15
            have c_15 : ¬ (nbN fr (q + 20) 4 < nbN fr (q + 16) 4) := fun h9 => c_15 ((pk_lLT (a := nbN fr (q + 20) 4) (b := nbN fr (q + 16) 4) (by omega) (by omega)).mpr h9)
            refine lv_lload_n hx hb d_MD_header_115 rfl (lv_at hl 4 rfl) ?_
            refine lv_lload hx hb d_MD_header_116 (lv_at hl 2 rfl) ?_
            refine lv_ladd hx hb d_MD_header_118 ?_
            refine xtopl (y := lN ((nbN fr (q + 4) 4) + (nbN fr (q + 16) 4))) (lN_add (nbN fr (q + 4) 4) (nbN fr (q + 16) 4)) ?_
            refine lv_aload_n hx hb d_MD_header_119 rfl (lv_at hl 5 rfl) ?_
            refine va_get (D := (dC, dI)) (ci := 7) (v := .int (nI n)) (C := R_MD) (T := T_MD) (N := 28) hx hb hts i_MD hown hK hP 0 rfl rfl 1 (by decide) (hts _ wd_393) (fun _ h9 => h9) rfl d_MD_header_120 ?_
            refine lv_i2l hx hb d_MD_header_123 rfl ?_
            refine xtopl (y := lN n) (nI_l (n := n) (by omega)) ?_
            refine W.lcmp hx hb d_MD_header_124 ?_
            refine lv_if_gt (tgt := 132) hx hb d_MD_header_125 (by decide) (fun c_17 => ?_) (fun c_17 => ?_)
            · skip
              rw [lg_cmp_gt] at c_17
              have c_17 : n < (nbN fr (q + 4) 4) + (nbN fr (q + 16) 4) := (pk_lLT (a := n) (b := (nbN fr (q + 4) 4) + (nbN fr (q + 16) 4)) (by omega) (by omega)).mp c_17
              refine lv_iconst (v := 0) hx hb d_MD_header_132 (by decide) ?_
              refine lv_istore (lv' := [(12, .int 0), (11, .int 0), (9, .long (lN (nbN fr (q + 20) 4))), (7, .long (lN (nbN fr (q + 16) 4))), (5, .long (lN (nbN fr (q + 8) 4))), (3, .long (lN (nbN fr (q + 4) 4))), (0, .ref (bd 0)), (1, .long (lN q))]) hx hb d_MD_header_133 hl (by decide) rfl (fun ls hl => ?_)
              refine lv_iload hx hb d_MD_header_135 (lv_at hl 1 rfl) ?_
              refine lv_if_eq (tgt := 145) hx hb d_MD_header_137 (by decide) (fun c_18 => ?_) (fun c_18 => ?_)
              · skip
                refine lv_iconst (v := 0) hx hb d_MD_header_145 (by decide) ?_
                have hw9 : wsM bd cm th n fr a z le wy fo en fF fA fB fS fW sk pg ye ys yt yg yp tk gF gA gB gS gW yk = wsM bd cm th n fr a z le wy ((msStep fr n q (fo, en, fF, fA, fB, fS, fW)).1) ((msStep fr n q (fo, en, fF, fA, fB, fS, fW)).2.1) ((msStep fr n q (fo, en, fF, fA, fB, fS, fW)).2.2.1) ((msStep fr n q (fo, en, fF, fA, fB, fS, fW)).2.2.2.1) ((msStep fr n q (fo, en, fF, fA, fB, fS, fW)).2.2.2.2.1) ((msStep fr n q (fo, en, fF, fA, fB, fS, fW)).2.2.2.2.2.1) ((msStep fr n q (fo, en, fF, fA, fB, fS, fW)).2.2.2.2.2.2) sk pg ye ys yt yg yp tk gF gA gB gS gW yk := by rw [msStep_bad hgood]
                rw [hw9] at hP hD
                exact xreti (v := 0) hx hb hr hlocks hK hP hD hS (rfl) (bI_0 (fun h9 => h9.elim hskip hgood)) d_MD_header_146
              · exact absurd c_18 (by decide)
            · skip
              rw [lg_cmp_gt] at c_17
              have c_17 : ¬ (n < (nbN fr (q + 4) 4) + (nbN fr (q + 16) 4)) := fun h9 => c_17 ((pk_lLT (a := n) (b := (nbN fr (q + 4) 4) + (nbN fr (q + 16) 4)) (by omega) (by omega)).mpr h9)
              refine lv_iconst (v := 1) hx hb d_MD_header_128 (by decide) ?_
              refine lv_goto (tgt := 133) hx hb d_MD_header_129 (by decide) ?_
              refine lv_istore (lv' := [(12, .int 1), (11, .int 0), (9, .long (lN (nbN fr (q + 20) 4))), (7, .long (lN (nbN fr (q + 16) 4))), (5, .long (lN (nbN fr (q + 8) 4))), (3, .long (lN (nbN fr (q + 4) 4))), (0, .ref (bd 0)), (1, .long (lN q))]) hx hb d_MD_header_133 hl (by decide) rfl (fun ls hl => ?_)
              refine lv_iload hx hb d_MD_header_135 (lv_at hl 1 rfl) ?_
              refine lv_if_eq (tgt := 145) hx hb d_MD_header_137 (by decide) (fun c_19 => ?_) (fun c_19 => ?_)
              · skip
                refine lv_iconst (v := 0) hx hb d_MD_header_145 (by decide) ?_
                have hw9 : wsM bd cm th n fr a z le wy fo en fF fA fB fS fW sk pg ye ys yt yg yp tk gF gA gB gS gW yk = wsM bd cm th n fr a z le wy ((msStep fr n q (fo, en, fF, fA, fB, fS, fW)).1) ((msStep fr n q (fo, en, fF, fA, fB, fS, fW)).2.1) ((msStep fr n q (fo, en, fF, fA, fB, fS, fW)).2.2.1) ((msStep fr n q (fo, en, fF, fA, fB, fS, fW)).2.2.2.1) ((msStep fr n q (fo, en, fF, fA, fB, fS, fW)).2.2.2.2.1) ((msStep fr n q (fo, en, fF, fA, fB, fS, fW)).2.2.2.2.2.1) ((msStep fr n q (fo, en, fF, fA, fB, fS, fW)).2.2.2.2.2.2) sk pg ye ys yt yg yp tk gF gA gB gS gW yk := by rw [msStep_bad hgood]
                rw [hw9] at hP hD
                exact xreti (v := 0) hx hb hr hlocks hK hP hD hS (rfl) (bI_0 (fun h9 => h9.elim hskip hgood)) d_MD_header_146
              · exact absurd c_19 (by decide)
        · skip
          rw [lg_cmp_lt] at c_14
          have c_14 : ¬ (nbN fr (q + 8) 4 < en) := fun h9 => c_14 ((pk_lLT (a := nbN fr (q + 8) 4) (b := en) (by omega) (by omega)).mpr h9)
          refine lv_lload hx hb d_MD_header_88 (lv_at hl 2 rfl) ?_
          refine lv_lload hx hb d_MD_header_90 (lv_at hl 0 rfl) ?_
          refine lv_ladd hx hb d_MD_header_92 ?_
          refine xtopl (y := lN ((nbN fr (q + 8) 4) + (nbN fr (q + 20) 4))) (lN_add (nbN fr (q + 8) 4) (nbN fr (q + 20) 4)) ?_
          refine lv_ldc2 (v := 1073733632) hx hb hown (hts _ wd_551) d_MD_header_93 ?_
          refine W.lcmp hx hb d_MD_header_96 ?_
          refine lv_if_gt (tgt := 104) hx hb d_MD_header_97 (by decide) (fun c_20 => ?_) (fun c_20 => ?_)
          · skip
            rw [lg_cmp_gt] at c_20
            have c_20 : 1073733632 < (nbN fr (q + 8) 4) + (nbN fr (q + 20) 4) := (pk_lLT (a := 1073733632) (b := (nbN fr (q + 8) 4) + (nbN fr (q + 20) 4)) (by omega) (by omega)).mp c_20
            have hgood : ¬ hdGood fr n en q := fun h9 => absurd (show nbN fr (q + 8) 4 + nbN fr (q + 20) 4 ≤ 1073733632 from h9.2.2.1) (by omega)
            refine lv_iconst (v := 0) hx hb d_MD_header_104 (by decide) ?_
            refine lv_istore (lv' := [(11, .int 0), (9, .long (lN (nbN fr (q + 20) 4))), (7, .long (lN (nbN fr (q + 16) 4))), (5, .long (lN (nbN fr (q + 8) 4))), (3, .long (lN (nbN fr (q + 4) 4))), (0, .ref (bd 0)), (1, .long (lN q))]) hx hb d_MD_header_105 hl (by decide) rfl (fun ls hl => ?_)
            refine lv_lload hx hb d_MD_header_107 (lv_at hl 2 rfl) ?_
            refine lv_lload hx hb d_MD_header_109 (lv_at hl 1 rfl) ?_
            refine W.lcmp hx hb d_MD_header_111 ?_
            refine lv_if_gt (tgt := 132) hx hb d_MD_header_112 (by decide) (fun c_21 => ?_) (fun c_21 => ?_)
            · skip
              rw [lg_cmp_gt] at c_21
              have c_21 : nbN fr (q + 20) 4 < nbN fr (q + 16) 4 := (pk_lLT (a := nbN fr (q + 20) 4) (b := nbN fr (q + 16) 4) (by omega) (by omega)).mp c_21
              refine lv_iconst (v := 0) hx hb d_MD_header_132 (by decide) ?_
              refine lv_istore (lv' := [(12, .int 0), (11, .int 0), (9, .long (lN (nbN fr (q + 20) 4))), (7, .long (lN (nbN fr (q + 16) 4))), (5, .long (lN (nbN fr (q + 8) 4))), (3, .long (lN (nbN fr (q + 4) 4))), (0, .ref (bd 0)), (1, .long (lN q))]) hx hb d_MD_header_133 hl (by decide) rfl (fun ls hl => ?_)
              refine lv_iload hx hb d_MD_header_135 (lv_at hl 1 rfl) ?_
              refine lv_if_eq (tgt := 145) hx hb d_MD_header_137 (by decide) (fun c_22 => ?_) (fun c_22 => ?_)
              · skip
                refine lv_iconst (v := 0) hx hb d_MD_header_145 (by decide) ?_
                have hw9 : wsM bd cm th n fr a z le wy fo en fF fA fB fS fW sk pg ye ys yt yg yp tk gF gA gB gS gW yk = wsM bd cm th n fr a z le wy ((msStep fr n q (fo, en, fF, fA, fB, fS, fW)).1) ((msStep fr n q (fo, en, fF, fA, fB, fS, fW)).2.1) ((msStep fr n q (fo, en, fF, fA, fB, fS, fW)).2.2.1) ((msStep fr n q (fo, en, fF, fA, fB, fS, fW)).2.2.2.1) ((msStep fr n q (fo, en, fF, fA, fB, fS, fW)).2.2.2.2.1) ((msStep fr n q (fo, en, fF, fA, fB, fS, fW)).2.2.2.2.2.1) ((msStep fr n q (fo, en, fF, fA, fB, fS, fW)).2.2.2.2.2.2) sk pg ye ys yt yg yp tk gF gA gB gS gW yk := by rw [msStep_bad hgood]
                rw [hw9] at hP hD
                exact xreti (v := 0) hx hb hr hlocks hK hP hD hS (rfl) (bI_0 (fun h9 => h9.elim hskip hgood)) d_MD_header_146
              · exact absurd c_22 (by decide)
            · skip
              rw [lg_cmp_gt] at c_21
              have c_21 : ¬ (nbN fr (q + 20) 4 < nbN fr (q + 16) 4) := fun h9 => c_21 ((pk_lLT (a := nbN fr (q + 20) 4) (b := nbN fr (q + 16) 4) (by omega) (by omega)).mpr h9)
              refine lv_lload_n hx hb d_MD_header_115 rfl (lv_at hl 4 rfl) ?_
              refine lv_lload hx hb d_MD_header_116 (lv_at hl 2 rfl) ?_
              refine lv_ladd hx hb d_MD_header_118 ?_
              refine xtopl (y := lN ((nbN fr (q + 4) 4) + (nbN fr (q + 16) 4))) (lN_add (nbN fr (q + 4) 4) (nbN fr (q + 16) 4)) ?_
              refine lv_aload_n hx hb d_MD_header_119 rfl (lv_at hl 5 rfl) ?_
              refine va_get (D := (dC, dI)) (ci := 7) (v := .int (nI n)) (C := R_MD) (T := T_MD) (N := 28) hx hb hts i_MD hown hK hP 0 rfl rfl 1 (by decide) (hts _ wd_393) (fun _ h9 => h9) rfl d_MD_header_120 ?_
              refine lv_i2l hx hb d_MD_header_123 rfl ?_
              refine xtopl (y := lN n) (nI_l (n := n) (by omega)) ?_
              refine W.lcmp hx hb d_MD_header_124 ?_
              refine lv_if_gt (tgt := 132) hx hb d_MD_header_125 (by decide) (fun c_23 => ?_) (fun c_23 => ?_)
              · skip
                rw [lg_cmp_gt] at c_23
                have c_23 : n < (nbN fr (q + 4) 4) + (nbN fr (q + 16) 4) := (pk_lLT (a := n) (b := (nbN fr (q + 4) 4) + (nbN fr (q + 16) 4)) (by omega) (by omega)).mp c_23
                refine lv_iconst (v := 0) hx hb d_MD_header_132 (by decide) ?_
                refine lv_istore (lv' := [(12, .int 0), (11, .int 0), (9, .long (lN (nbN fr (q + 20) 4))), (7, .long (lN (nbN fr (q + 16) 4))), (5, .long (lN (nbN fr (q + 8) 4))), (3, .long (lN (nbN fr (q + 4) 4))), (0, .ref (bd 0)), (1, .long (lN q))]) hx hb d_MD_header_133 hl (by decide) rfl (fun ls hl => ?_)
                refine lv_iload hx hb d_MD_header_135 (lv_at hl 1 rfl) ?_
                refine lv_if_eq (tgt := 145) hx hb d_MD_header_137 (by decide) (fun c_24 => ?_) (fun c_24 => ?_)
                · skip
                  refine lv_iconst (v := 0) hx hb d_MD_header_145 (by decide) ?_
                  have hw9 : wsM bd cm th n fr a z le wy fo en fF fA fB fS fW sk pg ye ys yt yg yp tk gF gA gB gS gW yk = wsM bd cm th n fr a z le wy ((msStep fr n q (fo, en, fF, fA, fB, fS, fW)).1) ((msStep fr n q (fo, en, fF, fA, fB, fS, fW)).2.1) ((msStep fr n q (fo, en, fF, fA, fB, fS, fW)).2.2.1) ((msStep fr n q (fo, en, fF, fA, fB, fS, fW)).2.2.2.1) ((msStep fr n q (fo, en, fF, fA, fB, fS, fW)).2.2.2.2.1) ((msStep fr n q (fo, en, fF, fA, fB, fS, fW)).2.2.2.2.2.1) ((msStep fr n q (fo, en, fF, fA, fB, fS, fW)).2.2.2.2.2.2) sk pg ye ys yt yg yp tk gF gA gB gS gW yk := by rw [msStep_bad hgood]
                  rw [hw9] at hP hD
                  exact xreti (v := 0) hx hb hr hlocks hK hP hD hS (rfl) (bI_0 (fun h9 => h9.elim hskip hgood)) d_MD_header_146
                · exact absurd c_24 (by decide)
              · skip
                rw [lg_cmp_gt] at c_23
                have c_23 : ¬ (n < (nbN fr (q + 4) 4) + (nbN fr (q + 16) 4)) := fun h9 => c_23 ((pk_lLT (a := n) (b := (nbN fr (q + 4) 4) + (nbN fr (q + 16) 4)) (by omega) (by omega)).mpr h9)
                refine lv_iconst (v := 1) hx hb d_MD_header_128 (by decide) ?_
                refine lv_goto (tgt := 133) hx hb d_MD_header_129 (by decide) ?_
                refine lv_istore (lv' := [(12, .int 1), (11, .int 0), (9, .long (lN (nbN fr (q + 20) 4))), (7, .long (lN (nbN fr (q + 16) 4))), (5, .long (lN (nbN fr (q + 8) 4))), (3, .long (lN (nbN fr (q + 4) 4))), (0, .ref (bd 0)), (1, .long (lN q))]) hx hb d_MD_header_133 hl (by decide) rfl (fun ls hl => ?_)
                refine lv_iload hx hb d_MD_header_135 (lv_at hl 1 rfl) ?_
                refine lv_if_eq (tgt := 145) hx hb d_MD_header_137 (by decide) (fun c_25 => ?_) (fun c_25 => ?_)
                · skip
                  refine lv_iconst (v := 0) hx hb d_MD_header_145 (by decide) ?_
                  have hw9 : wsM bd cm th n fr a z le wy fo en fF fA fB fS fW sk pg ye ys yt yg yp tk gF gA gB gS gW yk = wsM bd cm th n fr a z le wy ((msStep fr n q (fo, en, fF, fA, fB, fS, fW)).1) ((msStep fr n q (fo, en, fF, fA, fB, fS, fW)).2.1) ((msStep fr n q (fo, en, fF, fA, fB, fS, fW)).2.2.1) ((msStep fr n q (fo, en, fF, fA, fB, fS, fW)).2.2.2.1) ((msStep fr n q (fo, en, fF, fA, fB, fS, fW)).2.2.2.2.1) ((msStep fr n q (fo, en, fF, fA, fB, fS, fW)).2.2.2.2.2.1) ((msStep fr n q (fo, en, fF, fA, fB, fS, fW)).2.2.2.2.2.2) sk pg ye ys yt yg yp tk gF gA gB gS gW yk := by rw [msStep_bad hgood]
                  rw [hw9] at hP hD
                  exact xreti (v := 0) hx hb hr hlocks hK hP hD hS (rfl) (bI_0 (fun h9 => h9.elim hskip hgood)) d_MD_header_146
                · exact absurd c_25 (by decide)
          · skip
            rw [lg_cmp_gt] at c_20
            have c_20 : ¬ (1073733632 < (nbN fr (q + 8) 4) + (nbN fr (q + 20) 4)) := fun h9 => c_20 ((pk_lLT (a := 1073733632) (b := (nbN fr (q + 8) 4) + (nbN fr (q + 20) 4)) (by omega) (by omega)).mpr h9)
            refine lv_iconst (v := 1) hx hb d_MD_header_100 (by decide) ?_
            refine lv_goto (tgt := 105) hx hb d_MD_header_101 (by decide) ?_
            refine lv_istore (lv' := [(11, .int 1), (9, .long (lN (nbN fr (q + 20) 4))), (7, .long (lN (nbN fr (q + 16) 4))), (5, .long (lN (nbN fr (q + 8) 4))), (3, .long (lN (nbN fr (q + 4) 4))), (0, .ref (bd 0)), (1, .long (lN q))]) hx hb d_MD_header_105 hl (by decide) rfl (fun ls hl => ?_)
            refine lv_lload hx hb d_MD_header_107 (lv_at hl 2 rfl) ?_
            refine lv_lload hx hb d_MD_header_109 (lv_at hl 1 rfl) ?_
            refine W.lcmp hx hb d_MD_header_111 ?_
            refine lv_if_gt (tgt := 132) hx hb d_MD_header_112 (by decide) (fun c_26 => ?_) (fun c_26 => ?_)
            · skip
              rw [lg_cmp_gt] at c_26
              have c_26 : nbN fr (q + 20) 4 < nbN fr (q + 16) 4 := (pk_lLT (a := nbN fr (q + 20) 4) (b := nbN fr (q + 16) 4) (by omega) (by omega)).mp c_26
              have hgood : ¬ hdGood fr n en q := fun h9 => absurd (show nbN fr (q + 16) 4 ≤ nbN fr (q + 20) 4 from h9.2.2.2.1) (by omega)
              refine lv_iconst (v := 0) hx hb d_MD_header_132 (by decide) ?_
              refine lv_istore (lv' := [(12, .int 0), (11, .int 1), (9, .long (lN (nbN fr (q + 20) 4))), (7, .long (lN (nbN fr (q + 16) 4))), (5, .long (lN (nbN fr (q + 8) 4))), (3, .long (lN (nbN fr (q + 4) 4))), (0, .ref (bd 0)), (1, .long (lN q))]) hx hb d_MD_header_133 hl (by decide) rfl (fun ls hl => ?_)
              refine lv_iload hx hb d_MD_header_135 (lv_at hl 1 rfl) ?_
              refine lv_if_eq (tgt := 145) hx hb d_MD_header_137 (by decide) (fun c_27 => ?_) (fun c_27 => ?_)
              · exact absurd c_27 (by decide)
              · skip
                refine lv_iload hx hb d_MD_header_140 (lv_at hl 0 rfl) ?_
                refine lv_if_ne (tgt := 147) hx hb d_MD_header_142 (by decide) (fun c_28 => ?_) (fun c_28 => ?_)
                · exact absurd c_28 (by decide)
                · skip
                  refine lv_iconst (v := 0) hx hb d_MD_header_145 (by decide) ?_
                  have hw9 : wsM bd cm th n fr a z le wy fo en fF fA fB fS fW sk pg ye ys yt yg yp tk gF gA gB gS gW yk = wsM bd cm th n fr a z le wy ((msStep fr n q (fo, en, fF, fA, fB, fS, fW)).1) ((msStep fr n q (fo, en, fF, fA, fB, fS, fW)).2.1) ((msStep fr n q (fo, en, fF, fA, fB, fS, fW)).2.2.1) ((msStep fr n q (fo, en, fF, fA, fB, fS, fW)).2.2.2.1) ((msStep fr n q (fo, en, fF, fA, fB, fS, fW)).2.2.2.2.1) ((msStep fr n q (fo, en, fF, fA, fB, fS, fW)).2.2.2.2.2.1) ((msStep fr n q (fo, en, fF, fA, fB, fS, fW)).2.2.2.2.2.2) sk pg ye ys yt yg yp tk gF gA gB gS gW yk := by rw [msStep_bad hgood]
                  rw [hw9] at hP hD
                  exact xreti (v := 0) hx hb hr hlocks hK hP hD hS (rfl) (bI_0 (fun h9 => h9.elim hskip hgood)) d_MD_header_146
            · skip
              rw [lg_cmp_gt] at c_26
              have c_26 : ¬ (nbN fr (q + 20) 4 < nbN fr (q + 16) 4) := fun h9 => c_26 ((pk_lLT (a := nbN fr (q + 20) 4) (b := nbN fr (q + 16) 4) (by omega) (by omega)).mpr h9)
              refine lv_lload_n hx hb d_MD_header_115 rfl (lv_at hl 4 rfl) ?_
              refine lv_lload hx hb d_MD_header_116 (lv_at hl 2 rfl) ?_
              refine lv_ladd hx hb d_MD_header_118 ?_
              refine xtopl (y := lN ((nbN fr (q + 4) 4) + (nbN fr (q + 16) 4))) (lN_add (nbN fr (q + 4) 4) (nbN fr (q + 16) 4)) ?_
              refine lv_aload_n hx hb d_MD_header_119 rfl (lv_at hl 5 rfl) ?_
              refine va_get (D := (dC, dI)) (ci := 7) (v := .int (nI n)) (C := R_MD) (T := T_MD) (N := 28) hx hb hts i_MD hown hK hP 0 rfl rfl 1 (by decide) (hts _ wd_393) (fun _ h9 => h9) rfl d_MD_header_120 ?_
              refine lv_i2l hx hb d_MD_header_123 rfl ?_
              refine xtopl (y := lN n) (nI_l (n := n) (by omega)) ?_
              refine W.lcmp hx hb d_MD_header_124 ?_
              refine lv_if_gt (tgt := 132) hx hb d_MD_header_125 (by decide) (fun c_29 => ?_) (fun c_29 => ?_)
              · skip
                rw [lg_cmp_gt] at c_29
                have c_29 : n < (nbN fr (q + 4) 4) + (nbN fr (q + 16) 4) := (pk_lLT (a := n) (b := (nbN fr (q + 4) 4) + (nbN fr (q + 16) 4)) (by omega) (by omega)).mp c_29
                have hgood : ¬ hdGood fr n en q := fun h9 => absurd (show nbN fr (q + 4) 4 + nbN fr (q + 16) 4 ≤ n from h9.2.2.2.2) (by omega)
                refine lv_iconst (v := 0) hx hb d_MD_header_132 (by decide) ?_
                refine lv_istore (lv' := [(12, .int 0), (11, .int 1), (9, .long (lN (nbN fr (q + 20) 4))), (7, .long (lN (nbN fr (q + 16) 4))), (5, .long (lN (nbN fr (q + 8) 4))), (3, .long (lN (nbN fr (q + 4) 4))), (0, .ref (bd 0)), (1, .long (lN q))]) hx hb d_MD_header_133 hl (by decide) rfl (fun ls hl => ?_)
                refine lv_iload hx hb d_MD_header_135 (lv_at hl 1 rfl) ?_
                refine lv_if_eq (tgt := 145) hx hb d_MD_header_137 (by decide) (fun c_30 => ?_) (fun c_30 => ?_)
                · exact absurd c_30 (by decide)
                · skip
                  refine lv_iload hx hb d_MD_header_140 (lv_at hl 0 rfl) ?_
                  refine lv_if_ne (tgt := 147) hx hb d_MD_header_142 (by decide) (fun c_31 => ?_) (fun c_31 => ?_)
                  · exact absurd c_31 (by decide)
                  · skip
                    refine lv_iconst (v := 0) hx hb d_MD_header_145 (by decide) ?_
                    have hw9 : wsM bd cm th n fr a z le wy fo en fF fA fB fS fW sk pg ye ys yt yg yp tk gF gA gB gS gW yk = wsM bd cm th n fr a z le wy ((msStep fr n q (fo, en, fF, fA, fB, fS, fW)).1) ((msStep fr n q (fo, en, fF, fA, fB, fS, fW)).2.1) ((msStep fr n q (fo, en, fF, fA, fB, fS, fW)).2.2.1) ((msStep fr n q (fo, en, fF, fA, fB, fS, fW)).2.2.2.1) ((msStep fr n q (fo, en, fF, fA, fB, fS, fW)).2.2.2.2.1) ((msStep fr n q (fo, en, fF, fA, fB, fS, fW)).2.2.2.2.2.1) ((msStep fr n q (fo, en, fF, fA, fB, fS, fW)).2.2.2.2.2.2) sk pg ye ys yt yg yp tk gF gA gB gS gW yk := by rw [msStep_bad hgood]
                    rw [hw9] at hP hD
                    exact xreti (v := 0) hx hb hr hlocks hK hP hD hS (rfl) (bI_0 (fun h9 => h9.elim hskip hgood)) d_MD_header_146
              · skip
                rw [lg_cmp_gt] at c_29
                have c_29 : ¬ (n < (nbN fr (q + 4) 4) + (nbN fr (q + 16) 4)) := fun h9 => c_29 ((pk_lLT (a := n) (b := (nbN fr (q + 4) 4) + (nbN fr (q + 16) 4)) (by omega) (by omega)).mpr h9)
                have hgood : hdGood fr n en q := ⟨by show nbN fr (q + 8) 4 % 4096 = 0; omega, by show en ≤ nbN fr (q + 8) 4; omega, by show nbN fr (q + 8) 4 + nbN fr (q + 20) 4 ≤ 1073733632; omega, by show nbN fr (q + 16) 4 ≤ nbN fr (q + 20) 4; omega, by show nbN fr (q + 4) 4 + nbN fr (q + 16) 4 ≤ n; omega⟩
                refine lv_iconst (v := 1) hx hb d_MD_header_128 (by decide) ?_
                refine lv_goto (tgt := 133) hx hb d_MD_header_129 (by decide) ?_
                refine lv_istore (lv' := [(12, .int 1), (11, .int 1), (9, .long (lN (nbN fr (q + 20) 4))), (7, .long (lN (nbN fr (q + 16) 4))), (5, .long (lN (nbN fr (q + 8) 4))), (3, .long (lN (nbN fr (q + 4) 4))), (0, .ref (bd 0)), (1, .long (lN q))]) hx hb d_MD_header_133 hl (by decide) rfl (fun ls hl => ?_)
                refine lv_iload hx hb d_MD_header_135 (lv_at hl 1 rfl) ?_
                refine lv_if_eq (tgt := 145) hx hb d_MD_header_137 (by decide) (fun c_32 => ?_) (fun c_32 => ?_)
                · exact absurd c_32 (by decide)
                · skip
                  refine lv_iload hx hb d_MD_header_140 (lv_at hl 0 rfl) ?_
                  refine lv_if_ne (tgt := 147) hx hb d_MD_header_142 (by decide) (fun c_33 => ?_) (fun c_33 => ?_)
                  · skip
                    refine lv_aload_n hx hb d_MD_header_147 rfl (lv_at hl 6 rfl) ?_
                    refine va_get (D := (dC, dI)) (ci := 7) (v := .ref (bd 4)) (C := R_MD) (T := T_MD) (N := 28) hx hb hts i_MD hown hK hP 0 rfl rfl 9 (by decide) (hts _ wd_401) (fun _ h9 => h9) rfl d_MD_header_148 ?_
                    refine lv_aload_n hx hb d_MD_header_151 rfl (lv_at hl 6 rfl) ?_
                    refine va_get (D := (dC, dI)) (ci := 7) (v := .int (nI fo)) (C := R_MD) (T := T_MD) (N := 28) hx hb hts i_MD hown hK hP 0 rfl rfl 7 (by decide) (hts _ wd_399) (fun _ h9 => h9) rfl d_MD_header_152 ?_
                    refine lv_lload_n hx hb d_MD_header_155 rfl (lv_at hl 5 rfl) ?_
                    refine lv_l2i hx hb d_MD_header_156 rfl ?_
                    refine xtopi (y := nI (nbN fr (q + 4) 4)) (lN_i (nbN fr (q + 4) 4)) ?_
                    refine xiast (k := fo) (ws1 := wsM bd cm th n fr a z le wy fo en (upn fF fo (nbN fr (q + 4) 4)) fA fB fS fW sk pg ye ys yt yg yp tk gF gA gB gS gW yk) hx hb hK hP hD hS 4 1 rfl rfl (rfl) (by omega) (by decide) wsM_put_fF d_MD_header_157 (fun H locs hP hD hS => ?_)
                    refine lv_aload_n hx hb d_MD_header_158 rfl (lv_at hl 6 rfl) ?_
                    refine va_get (D := (dC, dI)) (ci := 7) (v := .ref (bd 5)) (C := R_MD) (T := T_MD) (N := 28) hx hb hts i_MD hown hK hP 0 rfl rfl 10 (by decide) (hts _ wd_402) (fun _ h9 => h9) rfl d_MD_header_159 ?_
                    refine lv_aload_n hx hb d_MD_header_162 rfl (lv_at hl 6 rfl) ?_
                    refine va_get (D := (dC, dI)) (ci := 7) (v := .int (nI fo)) (C := R_MD) (T := T_MD) (N := 28) hx hb hts i_MD hown hK hP 0 rfl rfl 7 (by decide) (hts _ wd_399) (fun _ h9 => h9) rfl d_MD_header_163 ?_
                    refine lv_lload hx hb d_MD_header_166 (lv_at hl 4 rfl) ?_
                    refine lv_l2i hx hb d_MD_header_168 rfl ?_
                    refine xtopi (y := nI (nbN fr (q + 8) 4)) (lN_i (nbN fr (q + 8) 4)) ?_
                    refine xiast (k := fo) (ws1 := wsM bd cm th n fr a z le wy fo en (upn fF fo (nbN fr (q + 4) 4)) (upn fA fo (nbN fr (q + 8) 4)) fB fS fW sk pg ye ys yt yg yp tk gF gA gB gS gW yk) hx hb hK hP hD hS 5 1 rfl rfl (rfl) (by omega) (by decide) wsM_put_fA d_MD_header_169 (fun H locs hP hD hS => ?_)
                    refine lv_aload_n hx hb d_MD_header_170 rfl (lv_at hl 6 rfl) ?_
                    refine va_get (D := (dC, dI)) (ci := 7) (v := .ref (bd 6)) (C := R_MD) (T := T_MD) (N := 28) hx hb hts i_MD hown hK hP 0 rfl rfl 11 (by decide) (hts _ wd_403) (fun _ h9 => h9) rfl d_MD_header_171 ?_
                    refine lv_aload_n hx hb d_MD_header_174 rfl (lv_at hl 6 rfl) ?_
                    refine va_get (D := (dC, dI)) (ci := 7) (v := .int (nI fo)) (C := R_MD) (T := T_MD) (N := 28) hx hb hts i_MD hown hK hP 0 rfl rfl 7 (by decide) (hts _ wd_399) (fun _ h9 => h9) rfl d_MD_header_175 ?_
                    refine lv_lload hx hb d_MD_header_178 (lv_at hl 3 rfl) ?_
                    refine lv_l2i hx hb d_MD_header_180 rfl ?_
                    refine xtopi (y := nI (nbN fr (q + 16) 4)) (lN_i (nbN fr (q + 16) 4)) ?_
                    refine xiast (k := fo) (ws1 := wsM bd cm th n fr a z le wy fo en (upn fF fo (nbN fr (q + 4) 4)) (upn fA fo (nbN fr (q + 8) 4)) (upn fB fo (nbN fr (q + 16) 4)) fS fW sk pg ye ys yt yg yp tk gF gA gB gS gW yk) hx hb hK hP hD hS 6 1 rfl rfl (rfl) (by omega) (by decide) wsM_put_fB d_MD_header_181 (fun H locs hP hD hS => ?_)
                    refine lv_aload_n hx hb d_MD_header_182 rfl (lv_at hl 6 rfl) ?_
                    refine va_get (D := (dC, dI)) (ci := 7) (v := .ref (bd 7)) (C := R_MD) (T := T_MD) (N := 28) hx hb hts i_MD hown hK hP 0 rfl rfl 12 (by decide) (hts _ wd_404) (fun _ h9 => h9) rfl d_MD_header_183 ?_
                    refine lv_aload_n hx hb d_MD_header_186 rfl (lv_at hl 6 rfl) ?_
                    refine va_get (D := (dC, dI)) (ci := 7) (v := .int (nI fo)) (C := R_MD) (T := T_MD) (N := 28) hx hb hts i_MD hown hK hP 0 rfl rfl 7 (by decide) (hts _ wd_399) (fun _ h9 => h9) rfl d_MD_header_187 ?_
                    refine lv_lload hx hb d_MD_header_190 (lv_at hl 2 rfl) ?_
                    refine lv_l2i hx hb d_MD_header_192 rfl ?_
                    refine xtopi (y := nI (nbN fr (q + 20) 4)) (lN_i (nbN fr (q + 20) 4)) ?_
                    refine xiast (k := fo) (ws1 := wsM bd cm th n fr a z le wy fo en (upn fF fo (nbN fr (q + 4) 4)) (upn fA fo (nbN fr (q + 8) 4)) (upn fB fo (nbN fr (q + 16) 4)) (upn fS fo (nbN fr (q + 20) 4)) fW sk pg ye ys yt yg yp tk gF gA gB gS gW yk) hx hb hK hP hD hS 7 1 rfl rfl (rfl) (by omega) (by decide) wsM_put_fS d_MD_header_193 (fun H locs hP hD hS => ?_)
                    refine lv_aload_n hx hb d_MD_header_194 rfl (lv_at hl 6 rfl) ?_
                    refine lv_lload_n hx hb d_MD_header_195 rfl (lv_at hl 7 rfl) ?_
                    refine lv_ldc2 (v := 24) hx hb hown (hts _ wd_552) d_MD_header_196 ?_
                    refine lv_ladd hx hb d_MD_header_199 ?_
                    refine xtopl (y := lN (q + 24)) (lN_add (q) (24)) ?_
                    refine lv_iconst (v := 4) hx hb d_MD_header_200 (by decide) ?_
                    refine xcalll (va_runV (As := [.long (lN (q + 24)), .int 4]) (rest := []) ⟨hx, hb, hml, hown, hts⟩ (m_number4 l dC dI bd cm th n fr a z le wy fo en (upn fF fo (nbN fr (q + 4) 4)) (upn fA fo (nbN fr (q + 8) 4)) (upn fB fo (nbN fr (q + 16) 4)) (upn fS fo (nbN fr (q + 20) 4)) fW sk pg ye ys yt yg yp tk gF gA gB gS gW yk (q + 24) (by omega) H.size) (cwV 2 hts (xgV wd_523 wd_525 wd_7 wd_22 wd_526) rfl rfl rfl (by decide +kernel) ⟨Nat.le_of_ble_eq_true rfl, Nat.le_of_ble_eq_true rfl⟩) (xpreV (q0 := 0) hK hN hZ hA hS hP hD rfl rfl) rfl rfl hl.1 rfl (lv_room (Nat.le_of_ble_eq_true rfl)) d_MD_header_201 ⟨Nat.zero_le _, Nat.zero_le _⟩) hD hS hA (fun r_34 H locs hr_34 hP hD hS => ?_)
                    subst hr_34
                    refine lv_l2i hx hb d_MD_header_204 rfl ?_
                    refine xtopi (y := nI (nbN fr (q + 24) 4)) (lN_i (nbN fr (q + 24) 4)) ?_
                    refine lv_istore (lv' := [(13, .int (nI (nbN fr (q + 24) 4))), (12, .int 1), (11, .int 1), (9, .long (lN (nbN fr (q + 20) 4))), (7, .long (lN (nbN fr (q + 16) 4))), (5, .long (lN (nbN fr (q + 8) 4))), (3, .long (lN (nbN fr (q + 4) 4))), (0, .ref (bd 0)), (1, .long (lN q))]) hx hb d_MD_header_205 hl (by decide) rfl (fun ls hl => ?_)
                    refine lv_aload_n hx hb d_MD_header_207 rfl (lv_at hl 7 rfl) ?_
                    refine va_get (D := (dC, dI)) (ci := 7) (v := .ref (bd 8)) (C := R_MD) (T := T_MD) (N := 28) hx hb hts i_MD hown hK hP 0 rfl rfl 13 (by decide) (hts _ wd_405) (fun _ h9 => h9) rfl d_MD_header_208 ?_
                    refine lv_aload_n hx hb d_MD_header_211 rfl (lv_at hl 7 rfl) ?_
                    refine va_get (D := (dC, dI)) (ci := 7) (v := .int (nI fo)) (C := R_MD) (T := T_MD) (N := 28) hx hb hts i_MD hown hK hP 0 rfl rfl 7 (by decide) (hts _ wd_399) (fun _ h9 => h9) rfl d_MD_header_212 ?_
                    refine lv_bipush (v := 8) hx hb d_MD_header_215 (by decide) ?_
                    refine lv_iload hx hb d_MD_header_217 (lv_at hl 0 rfl) ?_
                    refine lv_iconst (v := 2) hx hb d_MD_header_219 (by decide) ?_
                    refine lv_ishr hx hb d_MD_header_220 ?_
                    refine lv_iconst (v := 1) hx hb d_MD_header_221 (by decide) ?_
                    refine lv_iand hx hb d_MD_header_222 ?_
                    refine lv_iadd hx hb d_MD_header_223 ?_
                    refine lv_iload hx hb d_MD_header_224 (lv_at hl 0 rfl) ?_
                    refine lv_iconst (v := 2) hx hb d_MD_header_226 (by decide) ?_
                    refine lv_iand hx hb d_MD_header_227 ?_
                    refine lv_iadd hx hb d_MD_header_228 ?_
                    refine lv_iconst (v := 4) hx hb d_MD_header_229 (by decide) ?_
                    refine lv_iload hx hb d_MD_header_230 (lv_at hl 0 rfl) ?_
                    refine lv_iconst (v := 1) hx hb d_MD_header_232 (by decide) ?_
                    refine lv_iand hx hb d_MD_header_233 ?_
                    refine lv_imul hx hb d_MD_header_234 ?_
                    refine lv_iadd hx hb d_MD_header_235 ?_
                    refine xiast (k := fo) (ws1 := wsM bd cm th n fr a z le wy fo en (upn fF fo (nbN fr (q + 4) 4)) (upn fA fo (nbN fr (q + 8) 4)) (upn fB fo (nbN fr (q + 16) 4)) (upn fS fo (nbN fr (q + 20) 4)) (upd fW fo (((8 + (((nI (nbN fr (q + 24) 4)) >>> ((2 : Int32) &&& 31)) &&& 1)) + ((nI (nbN fr (q + 24) 4)) &&& 2)) + (4 * ((nI (nbN fr (q + 24) 4)) &&& 1)))) sk pg ye ys yt yg yp tk gF gA gB gS gW yk) hx hb hK hP hD hS 8 1 rfl rfl (rfl) (by omega) (by decide) rfl d_MD_header_236 (fun H locs hP hD hS => ?_)
                    refine lv_aload_n hx hb d_MD_header_237 rfl (lv_at hl 7 rfl) ?_
                    refine lv_dup hx hb d_MD_header_238 rfl ?_
                    refine va_get (D := (dC, dI)) (ci := 7) (v := .int (nI fo)) (C := R_MD) (T := T_MD) (N := 28) hx hb hts i_MD hown hK hP 0 rfl rfl 7 (by decide) (hts _ wd_399) (fun _ h9 => h9) rfl d_MD_header_239 ?_
                    refine lv_iconst (v := 1) hx hb d_MD_header_242 (by decide) ?_
                    refine lv_iadd hx hb d_MD_header_243 ?_
                    refine xtopi (y := nI (fo + 1)) (nI_add (fo) (1)) ?_
                    refine va_put (D := (dC, dI)) (ci := 7) (v := .int (nI (fo + 1))) (ty := .int) (C := R_MD) (T := T_MD) (N := 28) hx hb hts i_MD t_MD k_MD n_MD hown hK hP hD hS 0 rfl rfl 7 (by decide) (hts _ wd_399) (fun _ h9 => h9) rfl (by decide +kernel) rfl rfl (Nat.le_of_ble_eq_true rfl) d_MD_header_244 (fun H locs hP hD hS => ?_)
                    have hP : va_P (dC, dI) vwCl (wsM bd cm th n fr a z le wy (fo + 1) en (upn fF fo (nbN fr (q + 4) 4)) (upn fA fo (nbN fr (q + 8) 4)) (upn fB fo (nbN fr (q + 16) 4)) (upn fS fo (nbN fr (q + 20) 4)) (upd fW fo (((8 + (((nI (nbN fr (q + 24) 4)) >>> ((2 : Int32) &&& 31)) &&& 1)) + ((nI (nbN fr (q + 24) 4)) &&& 2)) + (4 * ((nI (nbN fr (q + 24) 4)) &&& 1)))) sk pg ye ys yt yg yp tk gF gA gB gS gW yk) H := hP
                    have hD : va_D A (wsM bd cm th n fr a z le wy (fo + 1) en (upn fF fo (nbN fr (q + 4) 4)) (upn fA fo (nbN fr (q + 8) 4)) (upn fB fo (nbN fr (q + 16) 4)) (upn fS fo (nbN fr (q + 20) 4)) (upd fW fo (((8 + (((nI (nbN fr (q + 24) 4)) >>> ((2 : Int32) &&& 31)) &&& 1)) + ((nI (nbN fr (q + 24) 4)) &&& 2)) + (4 * ((nI (nbN fr (q + 24) 4)) &&& 1)))) sk pg ye ys yt yg yp tk gF gA gB gS gW yk) := hD
                    refine lv_aload_n hx hb d_MD_header_247 rfl (lv_at hl 7 rfl) ?_
                    refine lv_lload hx hb d_MD_header_248 (lv_at hl 5 rfl) ?_
                    refine lv_lload hx hb d_MD_header_250 (lv_at hl 3 rfl) ?_
                    refine lv_ladd hx hb d_MD_header_252 ?_
                    refine xtopl (y := lN ((nbN fr (q + 8) 4) + (nbN fr (q + 20) 4))) (lN_add (nbN fr (q + 8) 4) (nbN fr (q + 20) 4)) ?_
                    refine xcalll (va_runS (As := [.long (lN ((nbN fr (q + 8) 4) + (nbN fr (q + 20) 4)))]) (rest := [.ref (bd 0)]) ⟨hx, hb, hml, hown, hts⟩ (m_up l dC dI bd cm th n fr a z le wy (fo + 1) en (upn fF fo (nbN fr (q + 4) 4)) (upn fA fo (nbN fr (q + 8) 4)) (upn fB fo (nbN fr (q + 16) 4)) (upn fS fo (nbN fr (q + 20) 4)) (upd fW fo (((8 + (((nI (nbN fr (q + 24) 4)) >>> ((2 : Int32) &&& 31)) &&& 1)) + ((nI (nbN fr (q + 24) 4)) &&& 2)) + (4 * ((nI (nbN fr (q + 24) 4)) &&& 1)))) sk pg ye ys yt yg yp tk gF gA gB gS gW yk ((nbN fr (q + 8) 4) + (nbN fr (q + 20) 4)) (by omega) H.size) (cwS 1 hts (xgS wd_553 wd_554 wd_22 wd_555) rfl rfl rfl (by decide +kernel) ⟨Nat.le_of_ble_eq_true rfl, Nat.le_of_ble_eq_true rfl⟩) (xpreS hK hN hZ hA hS hP hD) rfl rfl hl.1 rfl (lv_room (Nat.le_of_ble_eq_true rfl)) d_MD_header_253 ⟨Nat.zero_le _, Nat.zero_le _⟩) hD hS hA (fun r_35 H locs hr_35 hP hD hS => ?_)
                    subst hr_35
                    refine va_put (D := (dC, dI)) (ci := 7) (v := .long (lN (((nbN fr (q + 8) 4) + (nbN fr (q + 20) 4) + 4095) / 4096 * 4096))) (ty := .long) (C := R_MD) (T := T_MD) (N := 28) hx hb hts i_MD t_MD k_MD n_MD hown hK hP hD hS 0 rfl rfl 8 (by decide) (hts _ wd_400) (fun _ h9 => h9) rfl (by decide +kernel) rfl rfl (Nat.le_of_ble_eq_true rfl) d_MD_header_256 (fun H locs hP hD hS => ?_)
                    have hP : va_P (dC, dI) vwCl (wsM bd cm th n fr a z le wy (fo + 1) (((nbN fr (q + 8) 4) + (nbN fr (q + 20) 4) + 4095) / 4096 * 4096) (upn fF fo (nbN fr (q + 4) 4)) (upn fA fo (nbN fr (q + 8) 4)) (upn fB fo (nbN fr (q + 16) 4)) (upn fS fo (nbN fr (q + 20) 4)) (upd fW fo (((8 + (((nI (nbN fr (q + 24) 4)) >>> ((2 : Int32) &&& 31)) &&& 1)) + ((nI (nbN fr (q + 24) 4)) &&& 2)) + (4 * ((nI (nbN fr (q + 24) 4)) &&& 1)))) sk pg ye ys yt yg yp tk gF gA gB gS gW yk) H := hP
                    have hD : va_D A (wsM bd cm th n fr a z le wy (fo + 1) (((nbN fr (q + 8) 4) + (nbN fr (q + 20) 4) + 4095) / 4096 * 4096) (upn fF fo (nbN fr (q + 4) 4)) (upn fA fo (nbN fr (q + 8) 4)) (upn fB fo (nbN fr (q + 16) 4)) (upn fS fo (nbN fr (q + 20) 4)) (upd fW fo (((8 + (((nI (nbN fr (q + 24) 4)) >>> ((2 : Int32) &&& 31)) &&& 1)) + ((nI (nbN fr (q + 24) 4)) &&& 2)) + (4 * ((nI (nbN fr (q + 24) 4)) &&& 1)))) sk pg ye ys yt yg yp tk gF gA gB gS gW yk) := hD
                    refine lv_iconst (v := 1) hx hb d_MD_header_259 (by decide) ?_
                    have hw9 : wsM bd cm th n fr a z le wy (fo + 1) (((nbN fr (q + 8) 4) + (nbN fr (q + 20) 4) + 4095) / 4096 * 4096) (upn fF fo (nbN fr (q + 4) 4)) (upn fA fo (nbN fr (q + 8) 4)) (upn fB fo (nbN fr (q + 16) 4)) (upn fS fo (nbN fr (q + 20) 4)) (upd fW fo (((8 + (((nI (nbN fr (q + 24) 4)) >>> ((2 : Int32) &&& 31)) &&& 1)) + ((nI (nbN fr (q + 24) 4)) &&& 2)) + (4 * ((nI (nbN fr (q + 24) 4)) &&& 1)))) sk pg ye ys yt yg yp tk gF gA gB gS gW yk = wsM bd cm th n fr a z le wy ((msStep fr n q (fo, en, fF, fA, fB, fS, fW)).1) ((msStep fr n q (fo, en, fF, fA, fB, fS, fW)).2.1) ((msStep fr n q (fo, en, fF, fA, fB, fS, fW)).2.2.1) ((msStep fr n q (fo, en, fF, fA, fB, fS, fW)).2.2.2.1) ((msStep fr n q (fo, en, fF, fA, fB, fS, fW)).2.2.2.2.1) ((msStep fr n q (fo, en, fF, fA, fB, fS, fW)).2.2.2.2.2.1) ((msStep fr n q (fo, en, fF, fA, fB, fS, fW)).2.2.2.2.2.2) sk pg ye ys yt yg yp tk gF gA gB gS gW yk := by rw [msStep_good hskip hgood]; rfl
                    rw [hw9] at hP hD
                    exact xreti (v := 1) hx hb hr hlocks hK hP hD hS (rfl) (bI_1 (Or.inr hgood)) d_MD_header_260
                  · exact absurd c_33 (by decide)
    · skip
      rw [lg_cmp_eq] at c_7
      have c_7 : nbN fr (q + 20) 4 = 0 := (pk_lEQ (a := nbN fr (q + 20) 4) (b := 0) (by omega) (by omega)).mp c_7
      refine lv_iconst (v := 1) hx hb d_MD_header_65 (by decide) ?_
      have hw9 : wsM bd cm th n fr a z le wy fo en fF fA fB fS fW sk pg ye ys yt yg yp tk gF gA gB gS gW yk = wsM bd cm th n fr a z le wy ((msStep fr n q (fo, en, fF, fA, fB, fS, fW)).1) ((msStep fr n q (fo, en, fF, fA, fB, fS, fW)).2.1) ((msStep fr n q (fo, en, fF, fA, fB, fS, fW)).2.2.1) ((msStep fr n q (fo, en, fF, fA, fB, fS, fW)).2.2.2.1) ((msStep fr n q (fo, en, fF, fA, fB, fS, fW)).2.2.2.2.1) ((msStep fr n q (fo, en, fF, fA, fB, fS, fW)).2.2.2.2.2.1) ((msStep fr n q (fo, en, fF, fA, fB, fS, fW)).2.2.2.2.2.2) sk pg ye ys yt yg yp tk gF gA gB gS gW yk := by rw [msStep_skip (Or.inr c_7)]
      rw [hw9] at hP hD
      exact xreti (v := 1) hx hb hr hlocks hK hP hD hS (rfl) (bI_1 (Or.inl (Or.inr c_7))) d_MD_header_66
set_option maxHeartbeats 4000000 in
set_option maxRecDepth 100000 in
theorem m_wanted (l : Launch) (dC : Nat → ClassId) (dI : Nat → Nat → Nat) (bd : Nat → Nat) (cm : Nat → ClassId) (th : Int32) (n : Nat) (fr : Nat → Int32) (a : Nat) (z : Nat → Nat) (le : Nat → Int32) (wy : Int32) (fo : Nat) (en : Nat) (fF : Nat → Nat) (fA : Nat → Nat) (fB : Nat → Nat) (fS : Nat → Nat) (fW : Nat → Int32) (sk : Nat → Int32) (pg : Nat) (ye : Int32) (ys : Int32) (yt : Nat) (yg : Nat) (yp : Nat) (tk : Nat → Int32) (gF : Nat → Nat) (gA : Nat → Nat) (gB : Nat → Nat) (gS : Nat → Nat) (gW : Nat → Int32) (yk : Nat → Int32) (hfo : fo ≤ 8) (hfS : ∀ j, j < fo → fS j ≤ 1073733632) (sz : Nat) : Met l y_MD_wanted w_MD_wanted { frames := 1, cells := 0, slots := 0, locals := 30 } (va_Pc [.ref (bd 0)] (xP (dC, dI) (tyM cm) (wsM bd cm th n fr a z le wy fo en fF fA fB fS fW sk pg ye ys yt yg yp tk gF gA gB gS gW yk) sz)) (xQi (dC, dI) (tyM cm) (va_A (wsM bd cm th n fr a z le wy fo en fF fA fB fS fW sk pg ye ys yt yg yp tk gF gA gB gS gW yk) sz) (wsM bd cm th n fr a z le wy fo en fF fA fB fS fW sk pg ye ys yt yg yp tk gF gA gB gS gW yk) (fun r => r = nI (2 + wsum fS fo))) 0 0 (va_A (wsM bd cm th n fr a z le wy fo en fF fA fB fS fW sk pg ye ys yt yg yp tk gF gA gB gS gW yk) sz) := by
  refine xof (cc := b_MD_wanted) (maxL := 4) (ret := (some .int)) (own := R_MD) (Qc := fun A => (xQi (dC, dI) (tyM cm) A (wsM bd cm th n fr a z le wy fo en fF fA fB fS fW sk pg ye ys yt yg yp tk gF gA gB gS gW yk) (fun r => r = nI (2 + wsum fS fo)))) (by decide) rfl rfl (Nat.le_of_ble_eq_true rfl) ?_ sz
  intro p e s m below meth c A C hnm hK hP hD hA hN hZ hS ls hl
  obtain ⟨hx, hb, hr, hml, hown, hts, hlocks⟩ := C
  have hl : lv_has ls 4 [(0, .ref (bd 0))] := hl
  refine lv_ldc2 (v := 2) hx hb hown (hts _ wd_536) d_MD_wanted_0 ?_
  refine lv_lstore_n (lv' := [(1, .long 2), (0, .ref (bd 0))]) hx hb d_MD_wanted_3 rfl hl (by decide) rfl (fun ls hl => ?_)
  refine lv_iconst (v := 0) hx hb d_MD_wanted_4 (by decide) ?_
  refine lv_istore_n (lv' := [(3, .int 0), (1, .long 2), (0, .ref (bd 0))]) hx hb d_MD_wanted_5 rfl hl (by decide) rfl (fun ls hl => ?_)
  have lp6 : ∀ (fu6 : Nat) (j : Nat), (fo - j < fu6) → (j ≤ fo) → ∀ (H : Heap) (locs : List Loc), va_P (dC, dI) vwCl (wsM bd cm th n fr a z le wy fo en fF fA fB fS fW sk pg ye ys yt yg yp tk gF gA gB gS gW yk) H → va_D A (wsM bd cm th n fr a z le wy fo en fF fA fB fS fW sk pg ye ys yt yg yp tk gF gA gB gS gW yk) → va_S A s.heap H locs → ∀ ls : Array Slot, lv_has ls 4 [(0, .ref (bd 0)), (1, .long (lN (2 + wsum fS j))), (3, .int (nI j))] → W p l e { frames := 1, cells := 0, slots := 0, locals := 30 } s m [.ref (bd 0)].toArray below meth c H locs 0 0 (MQ below (xQi (dC, dI) (tyM cm) A (wsM bd cm th n fr a z le wy fo en fF fA fB fS fW sk pg ye ys yt yg yp tk gF gA gB gS gW yk) (fun r => r = nI (2 + wsum fS fo))) [.ref (bd 0)].toArray s 0 0 A) (F0 m 6 ls []) := by
    intro fu6
    induction fu6 with
    | zero => intro j hfu6; exact absurd hfu6 (Nat.not_lt_zero _)
    | succ fu6 ih6 =>
      intro j hfu6 hj H locs hP hD hS ls hl
      refine lv_iload_n hx hb d_MD_wanted_6 rfl (lv_at hl 2 rfl) ?_
      refine lv_aload_n hx hb d_MD_wanted_7 rfl (lv_at hl 0 rfl) ?_
      refine va_get (D := (dC, dI)) (ci := 7) (v := .int (nI fo)) (C := R_MD) (T := T_MD) (N := 28) hx hb hts i_MD hown hK hP 0 rfl rfl 7 (by decide) (hts _ wd_399) (fun _ h9 => h9) rfl d_MD_wanted_8 ?_
      refine lv_icmp_ge (tgt := 37) hx hb d_MD_wanted_11 (by decide) (fun c_1 => ?_) (fun c_1 => ?_)
      · skip
        have c_1 : fo ≤ j := (nI_leI (a := fo) (b := j) (by omega) (by omega)).mp c_1
        have e9 : j = fo := by omega
        refine lv_lload_n hx hb d_MD_wanted_37 rfl (lv_at hl 1 rfl) ?_
        refine lv_l2i hx hb d_MD_wanted_38 rfl ?_
        refine xtopi (y := nI (2 + wsum fS j)) (lN_i (2 + wsum fS j)) ?_
        exact xreti (v := nI (2 + wsum fS j)) hx hb hr hlocks hK hP hD hS (rfl) (by rw [e9]) d_MD_wanted_39
      · skip
        have c_1 : ¬ (fo ≤ j) := fun h9 => c_1 ((nI_leI (a := fo) (b := j) (by omega) (by omega)).mpr h9)
        have hs := hfS j (by omega)
        refine lv_lload_n hx hb d_MD_wanted_14 rfl (lv_at hl 1 rfl) ?_
        refine lv_aload_n hx hb d_MD_wanted_15 rfl (lv_at hl 0 rfl) ?_
        refine va_get (D := (dC, dI)) (ci := 7) (v := .ref (bd 7)) (C := R_MD) (T := T_MD) (N := 28) hx hb hts i_MD hown hK hP 0 rfl rfl 12 (by decide) (hts _ wd_404) (fun _ h9 => h9) rfl d_MD_wanted_16 ?_
        refine lv_iload_n hx hb d_MD_wanted_19 rfl (lv_at hl 2 rfl) ?_
        refine xiald (k := j) hx hb hK hP 7 1 rfl rfl (rfl) (by omega) (by decide) d_MD_wanted_20 ?_
        refine lv_i2l hx hb d_MD_wanted_21 rfl ?_
        refine xtopl (y := lN (fS j)) (nI_l (n := fS j) (by omega)) ?_
        refine xcalll (va_runS (As := [.long (lN (fS j))]) (rest := [.long (lN (2 + wsum fS j))]) ⟨hx, hb, hml, hown, hts⟩ (m_up l dC dI bd cm th n fr a z le wy fo en fF fA fB fS fW sk pg ye ys yt yg yp tk gF gA gB gS gW yk (fS j) (by omega) H.size) (cwS 1 hts (xgS wd_553 wd_554 wd_22 wd_555) rfl rfl rfl (by decide +kernel) ⟨Nat.le_of_ble_eq_true rfl, Nat.le_of_ble_eq_true rfl⟩) (xpreS hK hN hZ hA hS hP hD) rfl rfl hl.1 rfl (lv_room (Nat.le_of_ble_eq_true rfl)) d_MD_wanted_22 ⟨Nat.zero_le _, Nat.zero_le _⟩) hD hS hA (fun r_2 H locs hr_2 hP hD hS => ?_)
        subst hr_2
        refine lv_ldc2 (v := 4096) hx hb hown (hts _ wd_550) d_MD_wanted_25 ?_
        refine lv_ldiv hx hb d_MD_wanted_28 (by decide) ?_
        refine xtopl (y := lN (((fS j + 4095) / 4096 * 4096) / 4096)) (pk_lDiv (a := (fS j + 4095) / 4096 * 4096) (b := 4096) (by omega) (by omega) (by omega)) ?_
        refine lv_ladd hx hb d_MD_wanted_29 ?_
        refine xtopl (y := lN ((2 + wsum fS j) + (((fS j + 4095) / 4096 * 4096) / 4096))) (lN_add (2 + wsum fS j) (((fS j + 4095) / 4096 * 4096) / 4096)) ?_
        refine lv_lstore_n (lv' := [(1, .long (lN ((2 + wsum fS j) + (((fS j + 4095) / 4096 * 4096) / 4096)))), (0, .ref (bd 0)), (3, .int (nI j))]) hx hb d_MD_wanted_30 rfl hl (by decide) rfl (fun ls hl => ?_)
        refine lv_iinc (v := nI (j + 1)) (lv' := [(3, .int (nI (j + 1))), (1, .long (lN ((2 + wsum fS j) + (((fS j + 4095) / 4096 * 4096) / 4096)))), (0, .ref (bd 0))]) hx hb d_MD_wanted_31 hl (k := 2) rfl (nI_1 _) (by decide) rfl (fun ls hl => ?_)
        refine lv_goto (tgt := 6) hx hb d_MD_wanted_34 (by decide) ?_
        have e8 : (2 + wsum fS j) + (((fS j + 4095) / 4096 * 4096) / 4096) = 2 + wsum fS (j + 1) := by rw [wsum]; omega
        rw [e8] at hl
        exact ih6 (j + 1) (by omega) (by omega) _ _ hP hD hS _ (lv_sub hl [2, 1, 0] rfl)
  exact lp6 ((fo - 0) + 1) 0 (Nat.lt_succ_self _) (by omega) _ _ hP hD hS _ (lv_sub hl [2, 1, 0] rfl)
