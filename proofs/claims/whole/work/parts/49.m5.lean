set_option maxHeartbeats 4000000 in
set_option maxRecDepth 100000 in
theorem m_wrong (l : Launch) (dC : Nat → ClassId) (dI : Nat → Nat → Nat) (bd : Nat → Nat) (cm : Nat → ClassId) (th : Int32) (n : Nat) (fr : Nat → Int32) (a : Nat) (z : Nat → Nat) (le : Nat → Int32) (wy : Int32) (fo : Nat) (en : Nat) (fF : Nat → Nat) (fA : Nat → Nat) (fB : Nat → Nat) (fS : Nat → Nat) (fW : Nat → Int32) (sk : Nat → Int32) (pg : Nat) (ye : Int32) (ys : Int32) (yt : Nat) (yg : Nat) (yp : Nat) (tk : Nat → Int32) (gF : Nat → Nat) (gA : Nat → Nat) (gB : Nat → Nat) (gS : Nat → Nat) (gW : Nat → Int32) (yk : Nat → Int32) (room : Int32) (hn : n ≤ 65536) (sz : Nat) : Met l y_MD_wrong w_MD_wrong { frames := 2, cells := 0, slots := 0, locals := 80 } (va_Pc [.ref (bd 0), .int room] (xP (dC, dI) (tyM cm) (wsM bd cm th n fr a z le wy fo en fF fA fB fS fW sk pg ye ys yt yg yp tk gF gA gB gS gW yk) sz)) (xQi (dC, dI) (tyM cm) (va_A (wsM bd cm th n fr a z le wy fo en fF fA fB fS fW sk pg ye ys yt yg yp tk gF gA gB gS gW yk) sz) (wsM bd cm th n fr a z le wy ((mwP n fr (fF, fA, fB, fS, fW)).1) ((mwP n fr (fF, fA, fB, fS, fW)).2.1) ((mwP n fr (fF, fA, fB, fS, fW)).2.2.1) ((mwP n fr (fF, fA, fB, fS, fW)).2.2.2.1) ((mwP n fr (fF, fA, fB, fS, fW)).2.2.2.2.1) ((mwP n fr (fF, fA, fB, fS, fW)).2.2.2.2.2.1) ((mwP n fr (fF, fA, fB, fS, fW)).2.2.2.2.2.2) sk pg ye ys yt yg yp tk gF gA gB gS gW yk) (fun r => r = nI (mwC n fr (fF, fA, fB, fS, fW) room))) 0 0 (va_A (wsM bd cm th n fr a z le wy fo en fF fA fB fS fW sk pg ye ys yt yg yp tk gF gA gB gS gW yk) sz) := by
  refine xof (cc := b_MD_wrong) (maxL := 6) (ret := (some .int)) (own := R_MD) (Qc := fun A => (xQi (dC, dI) (tyM cm) A (wsM bd cm th n fr a z le wy ((mwP n fr (fF, fA, fB, fS, fW)).1) ((mwP n fr (fF, fA, fB, fS, fW)).2.1) ((mwP n fr (fF, fA, fB, fS, fW)).2.2.1) ((mwP n fr (fF, fA, fB, fS, fW)).2.2.2.1) ((mwP n fr (fF, fA, fB, fS, fW)).2.2.2.2.1) ((mwP n fr (fF, fA, fB, fS, fW)).2.2.2.2.2.1) ((mwP n fr (fF, fA, fB, fS, fW)).2.2.2.2.2.2) sk pg ye ys yt yg yp tk gF gA gB gS gW yk) (fun r => r = nI (mwC n fr (fF, fA, fB, fS, fW) room)))) (by decide) rfl rfl (Nat.le_of_ble_eq_true rfl) ?_ sz
  intro p e s m below meth c A C hnm hK hP hD hA hN hZ hS ls hl
  obtain ⟨hx, hb, hr, hml, hown, hts, hlocks⟩ := C
  have hl : lv_has ls 6 [(0, .ref (bd 0)), (1, .int room)] := hl
  have b1 := nbN_lt4 fr 28
  have b2 := nbN_lt2 fr 44
  refine lv_aload_n hx hb d_MD_wrong_0 rfl (lv_at hl 0 rfl) ?_
  refine lv_iconst (v := 0) hx hb d_MD_wrong_1 (by decide) ?_
  refine va_put (D := (dC, dI)) (ci := 7) (v := .int 0) (ty := .int) (C := R_MD) (T := T_MD) (N := 28) hx hb hts i_MD t_MD k_MD n_MD hown hK hP hD hS 0 rfl rfl 7 (by decide) (hts _ wd_399) (fun _ h9 => h9) rfl (by decide +kernel) rfl rfl (Nat.le_of_ble_eq_true rfl) d_MD_wrong_2 (fun H locs hP hD hS => ?_)
  have hP : va_P (dC, dI) vwCl (wsM bd cm th n fr a z le wy 0 en fF fA fB fS fW sk pg ye ys yt yg yp tk gF gA gB gS gW yk) H := hP
  have hD : va_D A (wsM bd cm th n fr a z le wy 0 en fF fA fB fS fW sk pg ye ys yt yg yp tk gF gA gB gS gW yk) := hD
  refine lv_aload_n hx hb d_MD_wrong_5 rfl (lv_at hl 0 rfl) ?_
  refine lv_lconst (v := 0) hx hb d_MD_wrong_6 (by decide) ?_
  refine va_put (D := (dC, dI)) (ci := 7) (v := .long 0) (ty := .long) (C := R_MD) (T := T_MD) (N := 28) hx hb hts i_MD t_MD k_MD n_MD hown hK hP hD hS 0 rfl rfl 8 (by decide) (hts _ wd_400) (fun _ h9 => h9) rfl (by decide +kernel) rfl rfl (Nat.le_of_ble_eq_true rfl) d_MD_wrong_7 (fun H locs hP hD hS => ?_)
  have hP : va_P (dC, dI) vwCl (wsM bd cm th n fr a z le wy 0 0 fF fA fB fS fW sk pg ye ys yt yg yp tk gF gA gB gS gW yk) H := hP
  have hD : va_D A (wsM bd cm th n fr a z le wy 0 0 fF fA fB fS fW sk pg ye ys yt yg yp tk gF gA gB gS gW yk) := hD
  refine lv_aload_n hx hb d_MD_wrong_10 rfl (lv_at hl 0 rfl) ?_
  refine xcalli (va_runV (As := []) (rest := []) ⟨hx, hb, hml, hown, hts⟩ (m_isMarked l dC dI bd cm th n fr a z le wy 0 0 fF fA fB fS fW sk pg ye ys yt yg yp tk gF gA gB gS gW yk hn H.size) (cwV 0 hts (xgV wd_519 wd_521 wd_6 wd_22 wd_522) rfl rfl rfl (by decide +kernel) ⟨Nat.le_of_ble_eq_true rfl, Nat.le_of_ble_eq_true rfl⟩) (xpreV (q0 := 0) hK hN hZ hA hS hP hD rfl rfl) rfl rfl hl.1 rfl (lv_room (Nat.le_of_ble_eq_true rfl)) d_MD_wrong_11 ⟨Nat.zero_le _, Nat.zero_le _⟩) hD hS hA (fun r_1 H locs hr_1 hP hD hS => ?_)
  subst hr_1
  refine lv_if_ne (tgt := 19) hx hb d_MD_wrong_14 (by decide) (fun c_2 => ?_) (fun c_2 => ?_)
  · skip
    have c_2 := bI_t c_2
    have h52 := c_2.1
    refine lv_aload_n hx hb d_MD_wrong_19 rfl (lv_at hl 0 rfl) ?_
    refine xcalli (va_runV (As := []) (rest := []) ⟨hx, hb, hml, hown, hts⟩ (m_isKind l dC dI bd cm th n fr a z le wy 0 0 fF fA fB fS fW sk pg ye ys yt yg yp tk gF gA gB gS gW yk  H.size) (cwV 0 hts (xgV wd_531 wd_533 wd_8 wd_22 wd_534) rfl rfl rfl (by decide +kernel) ⟨Nat.le_of_ble_eq_true rfl, Nat.le_of_ble_eq_true rfl⟩) (xpreV (q0 := 0) hK hN hZ hA hS hP hD rfl rfl) rfl rfl hl.1 rfl (lv_room (Nat.le_of_ble_eq_true rfl)) d_MD_wrong_20 ⟨Nat.zero_le _, Nat.zero_le _⟩) hD hS hA (fun r_3 H locs hr_3 hP hD hS => ?_)
    subst hr_3
    refine lv_if_ne (tgt := 28) hx hb d_MD_wrong_23 (by decide) (fun c_4 => ?_) (fun c_4 => ?_)
    · skip
      have c_4 := bI_t c_4
      have hk9 : nbN fr 44 2 < 9 := c_4.2.2.2.2
      refine lv_aload_n hx hb d_MD_wrong_28 rfl (lv_at hl 0 rfl) ?_
      refine lv_ldc2 (v := 28) hx hb hown (hts _ wd_544) d_MD_wrong_29 ?_
      refine lv_iconst (v := 4) hx hb d_MD_wrong_32 (by decide) ?_
      refine xcalll (va_runV (As := [.long 28, .int 4]) (rest := []) ⟨hx, hb, hml, hown, hts⟩ (m_number4 l dC dI bd cm th n fr a z le wy 0 0 fF fA fB fS fW sk pg ye ys yt yg yp tk gF gA gB gS gW yk 28 (by omega) H.size) (cwV 2 hts (xgV wd_523 wd_525 wd_7 wd_22 wd_526) rfl rfl rfl (by decide +kernel) ⟨Nat.le_of_ble_eq_true rfl, Nat.le_of_ble_eq_true rfl⟩) (xpreV (q0 := 0) hK hN hZ hA hS hP hD rfl rfl) rfl rfl hl.1 rfl (lv_room (Nat.le_of_ble_eq_true rfl)) d_MD_wrong_33 ⟨Nat.zero_le _, Nat.zero_le _⟩) hD hS hA (fun r_5 H locs hr_5 hP hD hS => ?_)
      subst hr_5
      refine lv_lstore_n (lv' := [(2, .long (lN (nbN fr 28 4))), (0, .ref (bd 0)), (1, .int room)]) hx hb d_MD_wrong_36 rfl hl (by decide) rfl (fun ls hl => ?_)
      refine lv_aload_n hx hb d_MD_wrong_37 rfl (lv_at hl 1 rfl) ?_
      refine lv_ldc2 (v := 44) hx hb hown (hts _ wd_542) d_MD_wrong_38 ?_
      refine lv_iconst (v := 2) hx hb d_MD_wrong_41 (by decide) ?_
      refine xcalll (va_runV (As := [.long 44, .int 2]) (rest := []) ⟨hx, hb, hml, hown, hts⟩ (m_number2 l dC dI bd cm th n fr a z le wy 0 0 fF fA fB fS fW sk pg ye ys yt yg yp tk gF gA gB gS gW yk 44 (by omega) H.size) (cwV 2 hts (xgV wd_523 wd_525 wd_7 wd_22 wd_526) rfl rfl rfl (by decide +kernel) ⟨Nat.le_of_ble_eq_true rfl, Nat.le_of_ble_eq_true rfl⟩) (xpreV (q0 := 0) hK hN hZ hA hS hP hD rfl rfl) rfl rfl hl.1 rfl (lv_room (Nat.le_of_ble_eq_true rfl)) d_MD_wrong_42 ⟨Nat.zero_le _, Nat.zero_le _⟩) hD hS hA (fun r_6 H locs hr_6 hP hD hS => ?_)
      subst hr_6
      refine lv_l2i hx hb d_MD_wrong_45 rfl ?_
      refine xtopi (y := nI (nbN fr 44 2)) (lN_i (nbN fr 44 2)) ?_
      refine lv_istore (lv' := [(4, .int (nI (nbN fr 44 2))), (2, .long (lN (nbN fr 28 4))), (0, .ref (bd 0)), (1, .int room)]) hx hb d_MD_wrong_46 hl (by decide) rfl (fun ls hl => ?_)
      refine lv_iload hx hb d_MD_wrong_48 (lv_at hl 0 rfl) ?_
      refine lv_if_le (tgt := 73) hx hb d_MD_wrong_50 (by decide) (fun c_7 => ?_) (fun c_7 => ?_)
      · skip
        have c_7 : nbN fr 44 2 ≤ 0 := (nI_leI (a := nbN fr 44 2) (b := 0) (by omega) (by omega)).mp c_7
        have hin : hin2 n fr := Or.inl c_7; have hin' : nbN fr 44 2 ≤ 0 ∨ nbN fr 28 4 + 32 * nbN fr 44 2 ≤ n := hin
        refine lv_iconst (v := 0) hx hb d_MD_wrong_73 (by decide) ?_
        refine lv_istore (lv' := [(5, .int 0), (4, .int (nI (nbN fr 44 2))), (2, .long (lN (nbN fr 28 4))), (0, .ref (bd 0)), (1, .int room)]) hx hb d_MD_wrong_74 hl (by decide) rfl (fun ls hl => ?_)
        have lp76 : ∀ (fu76 : Nat) (j c1 e1 : Nat) (Fx Ax Bx Sx : Nat → Nat) (Wx : Nat → Int32), (nbN fr 44 2 - j < fu76) → (j ≤ nbN fr 44 2) → (c1 ≤ j) → (e1 ≤ 1073733632) → (∀ i, i < c1 → Sx i ≤ 1073733632) → (mdRun fr n (nbN fr 28 4) (nbN fr 44 2 - j) j (c1, e1, Fx, Ax, Bx, Sx, Wx) = mdAll fr n (fF, fA, fB, fS, fW)) → ∀ (H : Heap) (locs : List Loc), va_P (dC, dI) vwCl (wsM bd cm th n fr a z le wy c1 e1 Fx Ax Bx Sx Wx sk pg ye ys yt yg yp tk gF gA gB gS gW yk) H → va_D A (wsM bd cm th n fr a z le wy c1 e1 Fx Ax Bx Sx Wx sk pg ye ys yt yg yp tk gF gA gB gS gW yk) → va_S A s.heap H locs → ∀ ls : Array Slot, lv_has ls 6 [(0, .ref (bd 0)), (1, .int room), (2, .long (lN (nbN fr 28 4))), (4, .int (nI (nbN fr 44 2))), (5, .int (nI j))] → W p l e { frames := 2, cells := 0, slots := 0, locals := 80 } s m [.ref (bd 0), .int room].toArray below meth c H locs 0 0 (MQ below (xQi (dC, dI) (tyM cm) A (wsM bd cm th n fr a z le wy ((mwP n fr (fF, fA, fB, fS, fW)).1) ((mwP n fr (fF, fA, fB, fS, fW)).2.1) ((mwP n fr (fF, fA, fB, fS, fW)).2.2.1) ((mwP n fr (fF, fA, fB, fS, fW)).2.2.2.1) ((mwP n fr (fF, fA, fB, fS, fW)).2.2.2.2.1) ((mwP n fr (fF, fA, fB, fS, fW)).2.2.2.2.2.1) ((mwP n fr (fF, fA, fB, fS, fW)).2.2.2.2.2.2) sk pg ye ys yt yg yp tk gF gA gB gS gW yk) (fun r => r = nI (mwC n fr (fF, fA, fB, fS, fW) room))) [.ref (bd 0), .int room].toArray s 0 0 A) (F0 m 76 ls []) := by
          intro fu76
          induction fu76 with
          | zero => intro j c1 e1 Fx Ax Bx Sx Wx hfu76; exact absurd hfu76 (Nat.not_lt_zero _)
          | succ fu76 ih76 =>
            intro j c1 e1 Fx Ax Bx Sx Wx hfu76 hj hc1 he1 hS1 heq H locs hP hD hS ls hl
            refine lv_iload hx hb d_MD_wrong_76 (lv_at hl 4 rfl) ?_
            refine lv_iload hx hb d_MD_wrong_78 (lv_at hl 3 rfl) ?_
            refine lv_icmp_ge (tgt := 107) hx hb d_MD_wrong_80 (by decide) (fun c_8 => ?_) (fun c_8 => ?_)
            · skip
              have c_8 : nbN fr 44 2 ≤ j := (nI_leI (a := nbN fr 44 2) (b := j) (by omega) (by omega)).mp c_8
              have e9 : mdAll fr n (fF, fA, fB, fS, fW) = (true, c1, e1, Fx, Ax, Bx, Sx, Wx) := by rw [← heq, show nbN fr 44 2 - j = 0 from by omega]; rfl
              refine lv_aload_n hx hb d_MD_wrong_107 rfl (lv_at hl 0 rfl) ?_
              refine xcalli (va_runV (As := []) (rest := []) ⟨hx, hb, hml, hown, hts⟩ (m_wanted l dC dI bd cm th n fr a z le wy c1 e1 Fx Ax Bx Sx Wx sk pg ye ys yt yg yp tk gF gA gB gS gW yk (by omega) hS1 H.size) (cwV 0 hts (xgV wd_557 wd_559 wd_10 wd_22 wd_560) rfl rfl rfl (by decide +kernel) ⟨Nat.le_of_ble_eq_true rfl, Nat.le_of_ble_eq_true rfl⟩) (xpreV (q0 := 0) hK hN hZ hA hS hP hD rfl rfl) rfl rfl hl.1 rfl (lv_room (Nat.le_of_ble_eq_true rfl)) d_MD_wrong_108 ⟨Nat.zero_le _, Nat.zero_le _⟩) hD hS hA (fun r_9 H locs hr_9 hP hD hS => ?_)
              subst hr_9
              refine lv_iload_n hx hb d_MD_wrong_111 rfl (lv_at hl 1 rfl) ?_
              refine lv_icmp_le (tgt := 119) hx hb d_MD_wrong_112 (by decide) (fun c_10 => ?_) (fun c_10 => ?_)
              · skip
                refine lv_iconst (v := 0) hx hb d_MD_wrong_119 (by decide) ?_
                have hw9 : wsM bd cm th n fr a z le wy c1 e1 Fx Ax Bx Sx Wx sk pg ye ys yt yg yp tk gF gA gB gS gW yk = wsM bd cm th n fr a z le wy ((mwP n fr (fF, fA, fB, fS, fW)).1) ((mwP n fr (fF, fA, fB, fS, fW)).2.1) ((mwP n fr (fF, fA, fB, fS, fW)).2.2.1) ((mwP n fr (fF, fA, fB, fS, fW)).2.2.2.1) ((mwP n fr (fF, fA, fB, fS, fW)).2.2.2.2.1) ((mwP n fr (fF, fA, fB, fS, fW)).2.2.2.2.2.1) ((mwP n fr (fF, fA, fB, fS, fW)).2.2.2.2.2.2) sk pg ye ys yt yg yp tk gF gA gB gS gW yk := by rw [mwP, if_pos (show mwR n fr from ⟨c_2, c_4, hin⟩), e9]
                rw [hw9] at hP hD
                exact xreti (v := 0) hx hb hr hlocks hK hP hD hS (rfl) (by rw [mwC, if_neg (not_not_intro c_2), if_neg (not_not_intro c_4), if_neg (not_not_intro hin), if_neg (not_not_intro (by rw [e9])), if_neg (not_not_intro (show nI (2 + wsum (mdAll fr n (fF, fA, fB, fS, fW)).2.2.2.2.2.2.1 (mdAll fr n (fF, fA, fB, fS, fW)).2.1) ≤ room from by rw [e9]; exact c_10))]; rfl) d_MD_wrong_120
              · skip
                refine lv_iconst (v := 5) hx hb d_MD_wrong_115 (by decide) ?_
                refine lv_goto (tgt := 120) hx hb d_MD_wrong_116 (by decide) ?_
                have hw9 : wsM bd cm th n fr a z le wy c1 e1 Fx Ax Bx Sx Wx sk pg ye ys yt yg yp tk gF gA gB gS gW yk = wsM bd cm th n fr a z le wy ((mwP n fr (fF, fA, fB, fS, fW)).1) ((mwP n fr (fF, fA, fB, fS, fW)).2.1) ((mwP n fr (fF, fA, fB, fS, fW)).2.2.1) ((mwP n fr (fF, fA, fB, fS, fW)).2.2.2.1) ((mwP n fr (fF, fA, fB, fS, fW)).2.2.2.2.1) ((mwP n fr (fF, fA, fB, fS, fW)).2.2.2.2.2.1) ((mwP n fr (fF, fA, fB, fS, fW)).2.2.2.2.2.2) sk pg ye ys yt yg yp tk gF gA gB gS gW yk := by rw [mwP, if_pos (show mwR n fr from ⟨c_2, c_4, hin⟩), e9]
                rw [hw9] at hP hD
                exact xreti (v := 5) hx hb hr hlocks hK hP hD hS (rfl) (by rw [mwC, if_neg (not_not_intro c_2), if_neg (not_not_intro c_4), if_neg (not_not_intro hin), if_neg (not_not_intro (by rw [e9])), if_pos (show ¬ nI (2 + wsum (mdAll fr n (fF, fA, fB, fS, fW)).2.2.2.2.2.2.1 (mdAll fr n (fF, fA, fB, fS, fW)).2.1) ≤ room from by rw [e9]; exact c_10)]; rfl) d_MD_wrong_120
            · skip
              have c_8 : ¬ (nbN fr 44 2 ≤ j) := fun h9 => c_8 ((nI_leI (a := nbN fr 44 2) (b := j) (by omega) (by omega)).mpr h9)
              refine lv_aload_n hx hb d_MD_wrong_83 rfl (lv_at hl 0 rfl) ?_
              refine lv_lload_n hx hb d_MD_wrong_84 rfl (lv_at hl 2 rfl) ?_
              refine lv_ldc2 (v := 32) hx hb hown (hts _ wd_541) d_MD_wrong_85 ?_
              refine lv_iload hx hb d_MD_wrong_88 (lv_at hl 4 rfl) ?_
              refine lv_i2l hx hb d_MD_wrong_90 rfl ?_
              refine xtopl (y := lN j) (nI_l (n := j) (by omega)) ?_
              refine lv_lmul hx hb d_MD_wrong_91 ?_
              refine xtopl (y := lN (32 * j)) (lN_mul (32) (j)) ?_
              refine lv_ladd hx hb d_MD_wrong_92 ?_
              refine xtopl (y := lN ((nbN fr 28 4) + (32 * j))) (lN_add (nbN fr 28 4) (32 * j)) ?_
              refine xcalli (va_runV (As := [.long (lN ((nbN fr 28 4) + (32 * j)))]) (rest := []) ⟨hx, hb, hml, hown, hts⟩ (m_header l dC dI bd cm th n fr a z le wy c1 e1 Fx Ax Bx Sx Wx sk pg ye ys yt yg yp tk gF gA gB gS gW yk ((nbN fr 28 4) + (32 * j)) (by omega) (by omega) (by omega) hn H.size) (cwV 1 hts (xgV wd_545 wd_547 wd_9 wd_22 wd_548) rfl rfl rfl (by decide +kernel) ⟨Nat.le_of_ble_eq_true rfl, Nat.le_of_ble_eq_true rfl⟩) (xpreV (q0 := 0) hK hN hZ hA hS hP hD rfl rfl) rfl rfl hl.1 rfl (lv_room (Nat.le_of_ble_eq_true rfl)) d_MD_wrong_93 ⟨Nat.zero_le _, Nat.zero_le _⟩) hD hS hA (fun r_11 H locs hr_11 hP hD hS => ?_)
              subst hr_11
              refine lv_if_ne (tgt := 101) hx hb d_MD_wrong_96 (by decide) (fun c_12 => ?_) (fun c_12 => ?_)
              · skip
                have c_12 := bI_t c_12
                refine lv_iinc (v := nI (j + 1)) (lv' := [(5, .int (nI (j + 1))), (0, .ref (bd 0)), (1, .int room), (2, .long (lN (nbN fr 28 4))), (4, .int (nI (nbN fr 44 2)))]) hx hb d_MD_wrong_101 hl (k := 4) rfl (nI_1 _) (by decide) rfl (fun ls hl => ?_)
                refine lv_goto (tgt := 76) hx hb d_MD_wrong_104 (by decide) ?_
                rw [show nbN fr 44 2 - j = nbN fr 44 2 - (j + 1) + 1 from by omega, mdRun, if_pos c_12] at heq
                have hs1 : (msStep fr n (nbN fr 28 4 + 32 * j) (c1, e1, Fx, Ax, Bx, Sx, Wx)).1 ≤ c1 + 1 := msStep_cnt (s := (c1, e1, Fx, Ax, Bx, Sx, Wx))
                exact ih76 (j + 1) (msStep fr n (nbN fr 28 4 + 32 * j) (c1, e1, Fx, Ax, Bx, Sx, Wx)).1 (msStep fr n (nbN fr 28 4 + 32 * j) (c1, e1, Fx, Ax, Bx, Sx, Wx)).2.1 (msStep fr n (nbN fr 28 4 + 32 * j) (c1, e1, Fx, Ax, Bx, Sx, Wx)).2.2.1 (msStep fr n (nbN fr 28 4 + 32 * j) (c1, e1, Fx, Ax, Bx, Sx, Wx)).2.2.2.1 (msStep fr n (nbN fr 28 4 + 32 * j) (c1, e1, Fx, Ax, Bx, Sx, Wx)).2.2.2.2.1 (msStep fr n (nbN fr 28 4 + 32 * j) (c1, e1, Fx, Ax, Bx, Sx, Wx)).2.2.2.2.2.1 (msStep fr n (nbN fr 28 4 + 32 * j) (c1, e1, Fx, Ax, Bx, Sx, Wx)).2.2.2.2.2.2 (by omega) (by omega) (by omega) (msStep_end (s := (c1, e1, Fx, Ax, Bx, Sx, Wx)) he1) (msStep_S (s := (c1, e1, Fx, Ax, Bx, Sx, Wx)) hS1) (heq) _ _ hP hD hS _ (lv_sub hl [1, 2, 3, 4, 0] rfl)
              · skip
                have c_12 := bI_f c_12
                have e9 : mdAll fr n (fF, fA, fB, fS, fW) = (false, c1, e1, Fx, Ax, Bx, Sx, Wx) := by rw [← heq, show nbN fr 44 2 - j = nbN fr 44 2 - (j + 1) + 1 from by omega, mdRun, if_neg c_12]
                have e8 : (msStep fr n (nbN fr 28 4 + 32 * j) (c1, e1, Fx, Ax, Bx, Sx, Wx)) = (c1, e1, Fx, Ax, Bx, Sx, Wx) := msStep_bad (s := (c1, e1, Fx, Ax, Bx, Sx, Wx)) (fun h9 => c_12 (Or.inr h9))
                refine lv_iconst (v := 4) hx hb d_MD_wrong_99 (by decide) ?_
                have hw9 : wsM bd cm th n fr a z le wy ((msStep fr n ((nbN fr 28 4) + (32 * j)) (c1, e1, Fx, Ax, Bx, Sx, Wx)).1) ((msStep fr n ((nbN fr 28 4) + (32 * j)) (c1, e1, Fx, Ax, Bx, Sx, Wx)).2.1) ((msStep fr n ((nbN fr 28 4) + (32 * j)) (c1, e1, Fx, Ax, Bx, Sx, Wx)).2.2.1) ((msStep fr n ((nbN fr 28 4) + (32 * j)) (c1, e1, Fx, Ax, Bx, Sx, Wx)).2.2.2.1) ((msStep fr n ((nbN fr 28 4) + (32 * j)) (c1, e1, Fx, Ax, Bx, Sx, Wx)).2.2.2.2.1) ((msStep fr n ((nbN fr 28 4) + (32 * j)) (c1, e1, Fx, Ax, Bx, Sx, Wx)).2.2.2.2.2.1) ((msStep fr n ((nbN fr 28 4) + (32 * j)) (c1, e1, Fx, Ax, Bx, Sx, Wx)).2.2.2.2.2.2) sk pg ye ys yt yg yp tk gF gA gB gS gW yk = wsM bd cm th n fr a z le wy ((mwP n fr (fF, fA, fB, fS, fW)).1) ((mwP n fr (fF, fA, fB, fS, fW)).2.1) ((mwP n fr (fF, fA, fB, fS, fW)).2.2.1) ((mwP n fr (fF, fA, fB, fS, fW)).2.2.2.1) ((mwP n fr (fF, fA, fB, fS, fW)).2.2.2.2.1) ((mwP n fr (fF, fA, fB, fS, fW)).2.2.2.2.2.1) ((mwP n fr (fF, fA, fB, fS, fW)).2.2.2.2.2.2) sk pg ye ys yt yg yp tk gF gA gB gS gW yk := by rw [mwP, if_pos (show mwR n fr from ⟨c_2, c_4, hin⟩), e9, e8]
                rw [hw9] at hP hD
                exact xreti (v := 4) hx hb hr hlocks hK hP hD hS (rfl) (by rw [mwC, if_neg (not_not_intro c_2), if_neg (not_not_intro c_4), if_neg (not_not_intro hin), if_pos (by rw [e9]; exact Bool.false_ne_true)]; rfl) d_MD_wrong_100
        exact lp76 ((nbN fr 44 2 - 0) + 1) 0 0 0 fF fA fB fS fW (Nat.lt_succ_self _) (by omega) (by omega) (by omega) (fun i hi => absurd hi (Nat.not_lt_zero _)) (rfl) _ _ hP hD hS _ (lv_sub hl [3, 4, 2, 1, 0] rfl)
      · skip
        have c_7 : ¬ (nbN fr 44 2 ≤ 0) := fun h9 => c_7 ((nI_leI (a := nbN fr 44 2) (b := 0) (by omega) (by omega)).mpr h9)
        refine lv_lload_n hx hb d_MD_wrong_53 rfl (lv_at hl 1 rfl) ?_
        refine lv_ldc2 (v := 32) hx hb hown (hts _ wd_541) d_MD_wrong_54 ?_
        refine lv_iload hx hb d_MD_wrong_57 (lv_at hl 0 rfl) ?_
        refine lv_i2l hx hb d_MD_wrong_59 rfl ?_
        refine xtopl (y := lN (nbN fr 44 2)) (nI_l (n := nbN fr 44 2) (by omega)) ?_
        refine lv_lmul hx hb d_MD_wrong_60 ?_
        refine xtopl (y := lN (32 * (nbN fr 44 2))) (lN_mul (32) (nbN fr 44 2)) ?_
        refine lv_ladd hx hb d_MD_wrong_61 ?_
        refine xtopl (y := lN ((nbN fr 28 4) + (32 * (nbN fr 44 2)))) (lN_add (nbN fr 28 4) (32 * (nbN fr 44 2))) ?_
        refine lv_aload_n hx hb d_MD_wrong_62 rfl (lv_at hl 2 rfl) ?_
        refine va_get (D := (dC, dI)) (ci := 7) (v := .int (nI n)) (C := R_MD) (T := T_MD) (N := 28) hx hb hts i_MD hown hK hP 0 rfl rfl 1 (by decide) (hts _ wd_393) (fun _ h9 => h9) rfl d_MD_wrong_63 ?_
        refine lv_i2l hx hb d_MD_wrong_66 rfl ?_
        refine xtopl (y := lN n) (nI_l (n := n) (by omega)) ?_
        refine W.lcmp hx hb d_MD_wrong_67 ?_
        refine lv_if_le (tgt := 73) hx hb d_MD_wrong_68 (by decide) (fun c_13 => ?_) (fun c_13 => ?_)
        · skip
          rw [lg_cmp_le] at c_13
          have c_13 : (nbN fr 28 4) + (32 * (nbN fr 44 2)) ≤ n := (pk_lLE (a := (nbN fr 28 4) + (32 * (nbN fr 44 2))) (b := n) (by omega) (by omega)).mp c_13
          have hin : hin2 n fr := Or.inr c_13; have hin' : nbN fr 44 2 ≤ 0 ∨ nbN fr 28 4 + 32 * nbN fr 44 2 ≤ n := hin
          refine lv_iconst (v := 0) hx hb d_MD_wrong_73 (by decide) ?_
          refine lv_istore (lv' := [(5, .int 0), (4, .int (nI (nbN fr 44 2))), (2, .long (lN (nbN fr 28 4))), (0, .ref (bd 0)), (1, .int room)]) hx hb d_MD_wrong_74 hl (by decide) rfl (fun ls hl => ?_)
          have lp76 : ∀ (fu76 : Nat) (j c1 e1 : Nat) (Fx Ax Bx Sx : Nat → Nat) (Wx : Nat → Int32), (nbN fr 44 2 - j < fu76) → (j ≤ nbN fr 44 2) → (c1 ≤ j) → (e1 ≤ 1073733632) → (∀ i, i < c1 → Sx i ≤ 1073733632) → (mdRun fr n (nbN fr 28 4) (nbN fr 44 2 - j) j (c1, e1, Fx, Ax, Bx, Sx, Wx) = mdAll fr n (fF, fA, fB, fS, fW)) → ∀ (H : Heap) (locs : List Loc), va_P (dC, dI) vwCl (wsM bd cm th n fr a z le wy c1 e1 Fx Ax Bx Sx Wx sk pg ye ys yt yg yp tk gF gA gB gS gW yk) H → va_D A (wsM bd cm th n fr a z le wy c1 e1 Fx Ax Bx Sx Wx sk pg ye ys yt yg yp tk gF gA gB gS gW yk) → va_S A s.heap H locs → ∀ ls : Array Slot, lv_has ls 6 [(0, .ref (bd 0)), (1, .int room), (2, .long (lN (nbN fr 28 4))), (4, .int (nI (nbN fr 44 2))), (5, .int (nI j))] → W p l e { frames := 2, cells := 0, slots := 0, locals := 80 } s m [.ref (bd 0), .int room].toArray below meth c H locs 0 0 (MQ below (xQi (dC, dI) (tyM cm) A (wsM bd cm th n fr a z le wy ((mwP n fr (fF, fA, fB, fS, fW)).1) ((mwP n fr (fF, fA, fB, fS, fW)).2.1) ((mwP n fr (fF, fA, fB, fS, fW)).2.2.1) ((mwP n fr (fF, fA, fB, fS, fW)).2.2.2.1) ((mwP n fr (fF, fA, fB, fS, fW)).2.2.2.2.1) ((mwP n fr (fF, fA, fB, fS, fW)).2.2.2.2.2.1) ((mwP n fr (fF, fA, fB, fS, fW)).2.2.2.2.2.2) sk pg ye ys yt yg yp tk gF gA gB gS gW yk) (fun r => r = nI (mwC n fr (fF, fA, fB, fS, fW) room))) [.ref (bd 0), .int room].toArray s 0 0 A) (F0 m 76 ls []) := by
            intro fu76
            induction fu76 with
            | zero => intro j c1 e1 Fx Ax Bx Sx Wx hfu76; exact absurd hfu76 (Nat.not_lt_zero _)
            | succ fu76 ih76 =>
              intro j c1 e1 Fx Ax Bx Sx Wx hfu76 hj hc1 he1 hS1 heq H locs hP hD hS ls hl
              refine lv_iload hx hb d_MD_wrong_76 (lv_at hl 4 rfl) ?_
              refine lv_iload hx hb d_MD_wrong_78 (lv_at hl 3 rfl) ?_
              refine lv_icmp_ge (tgt := 107) hx hb d_MD_wrong_80 (by decide) (fun c_14 => ?_) (fun c_14 => ?_)
              · skip
                have c_14 : nbN fr 44 2 ≤ j := (nI_leI (a := nbN fr 44 2) (b := j) (by omega) (by omega)).mp c_14
                have e9 : mdAll fr n (fF, fA, fB, fS, fW) = (true, c1, e1, Fx, Ax, Bx, Sx, Wx) := by rw [← heq, show nbN fr 44 2 - j = 0 from by omega]; rfl
                refine lv_aload_n hx hb d_MD_wrong_107 rfl (lv_at hl 0 rfl) ?_
                refine xcalli (va_runV (As := []) (rest := []) ⟨hx, hb, hml, hown, hts⟩ (m_wanted l dC dI bd cm th n fr a z le wy c1 e1 Fx Ax Bx Sx Wx sk pg ye ys yt yg yp tk gF gA gB gS gW yk (by omega) hS1 H.size) (cwV 0 hts (xgV wd_557 wd_559 wd_10 wd_22 wd_560) rfl rfl rfl (by decide +kernel) ⟨Nat.le_of_ble_eq_true rfl, Nat.le_of_ble_eq_true rfl⟩) (xpreV (q0 := 0) hK hN hZ hA hS hP hD rfl rfl) rfl rfl hl.1 rfl (lv_room (Nat.le_of_ble_eq_true rfl)) d_MD_wrong_108 ⟨Nat.zero_le _, Nat.zero_le _⟩) hD hS hA (fun r_15 H locs hr_15 hP hD hS => ?_)
                subst hr_15
                refine lv_iload_n hx hb d_MD_wrong_111 rfl (lv_at hl 1 rfl) ?_
                refine lv_icmp_le (tgt := 119) hx hb d_MD_wrong_112 (by decide) (fun c_16 => ?_) (fun c_16 => ?_)
                · skip
                  refine lv_iconst (v := 0) hx hb d_MD_wrong_119 (by decide) ?_
                  have hw9 : wsM bd cm th n fr a z le wy c1 e1 Fx Ax Bx Sx Wx sk pg ye ys yt yg yp tk gF gA gB gS gW yk = wsM bd cm th n fr a z le wy ((mwP n fr (fF, fA, fB, fS, fW)).1) ((mwP n fr (fF, fA, fB, fS, fW)).2.1) ((mwP n fr (fF, fA, fB, fS, fW)).2.2.1) ((mwP n fr (fF, fA, fB, fS, fW)).2.2.2.1) ((mwP n fr (fF, fA, fB, fS, fW)).2.2.2.2.1) ((mwP n fr (fF, fA, fB, fS, fW)).2.2.2.2.2.1) ((mwP n fr (fF, fA, fB, fS, fW)).2.2.2.2.2.2) sk pg ye ys yt yg yp tk gF gA gB gS gW yk := by rw [mwP, if_pos (show mwR n fr from ⟨c_2, c_4, hin⟩), e9]
                  rw [hw9] at hP hD
                  exact xreti (v := 0) hx hb hr hlocks hK hP hD hS (rfl) (by rw [mwC, if_neg (not_not_intro c_2), if_neg (not_not_intro c_4), if_neg (not_not_intro hin), if_neg (not_not_intro (by rw [e9])), if_neg (not_not_intro (show nI (2 + wsum (mdAll fr n (fF, fA, fB, fS, fW)).2.2.2.2.2.2.1 (mdAll fr n (fF, fA, fB, fS, fW)).2.1) ≤ room from by rw [e9]; exact c_16))]; rfl) d_MD_wrong_120
                · skip
                  refine lv_iconst (v := 5) hx hb d_MD_wrong_115 (by decide) ?_
                  refine lv_goto (tgt := 120) hx hb d_MD_wrong_116 (by decide) ?_
                  have hw9 : wsM bd cm th n fr a z le wy c1 e1 Fx Ax Bx Sx Wx sk pg ye ys yt yg yp tk gF gA gB gS gW yk = wsM bd cm th n fr a z le wy ((mwP n fr (fF, fA, fB, fS, fW)).1) ((mwP n fr (fF, fA, fB, fS, fW)).2.1) ((mwP n fr (fF, fA, fB, fS, fW)).2.2.1) ((mwP n fr (fF, fA, fB, fS, fW)).2.2.2.1) ((mwP n fr (fF, fA, fB, fS, fW)).2.2.2.2.1) ((mwP n fr (fF, fA, fB, fS, fW)).2.2.2.2.2.1) ((mwP n fr (fF, fA, fB, fS, fW)).2.2.2.2.2.2) sk pg ye ys yt yg yp tk gF gA gB gS gW yk := by rw [mwP, if_pos (show mwR n fr from ⟨c_2, c_4, hin⟩), e9]
                  rw [hw9] at hP hD
                  exact xreti (v := 5) hx hb hr hlocks hK hP hD hS (rfl) (by rw [mwC, if_neg (not_not_intro c_2), if_neg (not_not_intro c_4), if_neg (not_not_intro hin), if_neg (not_not_intro (by rw [e9])), if_pos (show ¬ nI (2 + wsum (mdAll fr n (fF, fA, fB, fS, fW)).2.2.2.2.2.2.1 (mdAll fr n (fF, fA, fB, fS, fW)).2.1) ≤ room from by rw [e9]; exact c_16)]; rfl) d_MD_wrong_120
              · skip
                have c_14 : ¬ (nbN fr 44 2 ≤ j) := fun h9 => c_14 ((nI_leI (a := nbN fr 44 2) (b := j) (by omega) (by omega)).mpr h9)
                refine lv_aload_n hx hb d_MD_wrong_83 rfl (lv_at hl 0 rfl) ?_
                refine lv_lload_n hx hb d_MD_wrong_84 rfl (lv_at hl 2 rfl) ?_
                refine lv_ldc2 (v := 32) hx hb hown (hts _ wd_541) d_MD_wrong_85 ?_
                refine lv_iload hx hb d_MD_wrong_88 (lv_at hl 4 rfl) ?_
                refine lv_i2l hx hb d_MD_wrong_90 rfl ?_
                refine xtopl (y := lN j) (nI_l (n := j) (by omega)) ?_
                refine lv_lmul hx hb d_MD_wrong_91 ?_
                refine xtopl (y := lN (32 * j)) (lN_mul (32) (j)) ?_
                refine lv_ladd hx hb d_MD_wrong_92 ?_
                refine xtopl (y := lN ((nbN fr 28 4) + (32 * j))) (lN_add (nbN fr 28 4) (32 * j)) ?_
                refine xcalli (va_runV (As := [.long (lN ((nbN fr 28 4) + (32 * j)))]) (rest := []) ⟨hx, hb, hml, hown, hts⟩ (m_header l dC dI bd cm th n fr a z le wy c1 e1 Fx Ax Bx Sx Wx sk pg ye ys yt yg yp tk gF gA gB gS gW yk ((nbN fr 28 4) + (32 * j)) (by omega) (by omega) (by omega) hn H.size) (cwV 1 hts (xgV wd_545 wd_547 wd_9 wd_22 wd_548) rfl rfl rfl (by decide +kernel) ⟨Nat.le_of_ble_eq_true rfl, Nat.le_of_ble_eq_true rfl⟩) (xpreV (q0 := 0) hK hN hZ hA hS hP hD rfl rfl) rfl rfl hl.1 rfl (lv_room (Nat.le_of_ble_eq_true rfl)) d_MD_wrong_93 ⟨Nat.zero_le _, Nat.zero_le _⟩) hD hS hA (fun r_17 H locs hr_17 hP hD hS => ?_)
                subst hr_17
                refine lv_if_ne (tgt := 101) hx hb d_MD_wrong_96 (by decide) (fun c_18 => ?_) (fun c_18 => ?_)
                · skip
                  have c_18 := bI_t c_18
                  refine lv_iinc (v := nI (j + 1)) (lv' := [(5, .int (nI (j + 1))), (0, .ref (bd 0)), (1, .int room), (2, .long (lN (nbN fr 28 4))), (4, .int (nI (nbN fr 44 2)))]) hx hb d_MD_wrong_101 hl (k := 4) rfl (nI_1 _) (by decide) rfl (fun ls hl => ?_)
                  refine lv_goto (tgt := 76) hx hb d_MD_wrong_104 (by decide) ?_
                  rw [show nbN fr 44 2 - j = nbN fr 44 2 - (j + 1) + 1 from by omega, mdRun, if_pos c_18] at heq
                  have hs1 : (msStep fr n (nbN fr 28 4 + 32 * j) (c1, e1, Fx, Ax, Bx, Sx, Wx)).1 ≤ c1 + 1 := msStep_cnt (s := (c1, e1, Fx, Ax, Bx, Sx, Wx))
                  exact ih76 (j + 1) (msStep fr n (nbN fr 28 4 + 32 * j) (c1, e1, Fx, Ax, Bx, Sx, Wx)).1 (msStep fr n (nbN fr 28 4 + 32 * j) (c1, e1, Fx, Ax, Bx, Sx, Wx)).2.1 (msStep fr n (nbN fr 28 4 + 32 * j) (c1, e1, Fx, Ax, Bx, Sx, Wx)).2.2.1 (msStep fr n (nbN fr 28 4 + 32 * j) (c1, e1, Fx, Ax, Bx, Sx, Wx)).2.2.2.1 (msStep fr n (nbN fr 28 4 + 32 * j) (c1, e1, Fx, Ax, Bx, Sx, Wx)).2.2.2.2.1 (msStep fr n (nbN fr 28 4 + 32 * j) (c1, e1, Fx, Ax, Bx, Sx, Wx)).2.2.2.2.2.1 (msStep fr n (nbN fr 28 4 + 32 * j) (c1, e1, Fx, Ax, Bx, Sx, Wx)).2.2.2.2.2.2 (by omega) (by omega) (by omega) (msStep_end (s := (c1, e1, Fx, Ax, Bx, Sx, Wx)) he1) (msStep_S (s := (c1, e1, Fx, Ax, Bx, Sx, Wx)) hS1) (heq) _ _ hP hD hS _ (lv_sub hl [1, 2, 3, 4, 0] rfl)
                · skip
                  have c_18 := bI_f c_18
                  have e9 : mdAll fr n (fF, fA, fB, fS, fW) = (false, c1, e1, Fx, Ax, Bx, Sx, Wx) := by rw [← heq, show nbN fr 44 2 - j = nbN fr 44 2 - (j + 1) + 1 from by omega, mdRun, if_neg c_18]
                  have e8 : (msStep fr n (nbN fr 28 4 + 32 * j) (c1, e1, Fx, Ax, Bx, Sx, Wx)) = (c1, e1, Fx, Ax, Bx, Sx, Wx) := msStep_bad (s := (c1, e1, Fx, Ax, Bx, Sx, Wx)) (fun h9 => c_18 (Or.inr h9))
                  refine lv_iconst (v := 4) hx hb d_MD_wrong_99 (by decide) ?_
                  have hw9 : wsM bd cm th n fr a z le wy ((msStep fr n ((nbN fr 28 4) + (32 * j)) (c1, e1, Fx, Ax, Bx, Sx, Wx)).1) ((msStep fr n ((nbN fr 28 4) + (32 * j)) (c1, e1, Fx, Ax, Bx, Sx, Wx)).2.1) ((msStep fr n ((nbN fr 28 4) + (32 * j)) (c1, e1, Fx, Ax, Bx, Sx, Wx)).2.2.1) ((msStep fr n ((nbN fr 28 4) + (32 * j)) (c1, e1, Fx, Ax, Bx, Sx, Wx)).2.2.2.1) ((msStep fr n ((nbN fr 28 4) + (32 * j)) (c1, e1, Fx, Ax, Bx, Sx, Wx)).2.2.2.2.1) ((msStep fr n ((nbN fr 28 4) + (32 * j)) (c1, e1, Fx, Ax, Bx, Sx, Wx)).2.2.2.2.2.1) ((msStep fr n ((nbN fr 28 4) + (32 * j)) (c1, e1, Fx, Ax, Bx, Sx, Wx)).2.2.2.2.2.2) sk pg ye ys yt yg yp tk gF gA gB gS gW yk = wsM bd cm th n fr a z le wy ((mwP n fr (fF, fA, fB, fS, fW)).1) ((mwP n fr (fF, fA, fB, fS, fW)).2.1) ((mwP n fr (fF, fA, fB, fS, fW)).2.2.1) ((mwP n fr (fF, fA, fB, fS, fW)).2.2.2.1) ((mwP n fr (fF, fA, fB, fS, fW)).2.2.2.2.1) ((mwP n fr (fF, fA, fB, fS, fW)).2.2.2.2.2.1) ((mwP n fr (fF, fA, fB, fS, fW)).2.2.2.2.2.2) sk pg ye ys yt yg yp tk gF gA gB gS gW yk := by rw [mwP, if_pos (show mwR n fr from ⟨c_2, c_4, hin⟩), e9, e8]
                  rw [hw9] at hP hD
                  exact xreti (v := 4) hx hb hr hlocks hK hP hD hS (rfl) (by rw [mwC, if_neg (not_not_intro c_2), if_neg (not_not_intro c_4), if_neg (not_not_intro hin), if_pos (by rw [e9]; exact Bool.false_ne_true)]; rfl) d_MD_wrong_100
          exact lp76 ((nbN fr 44 2 - 0) + 1) 0 0 0 fF fA fB fS fW (Nat.lt_succ_self _) (by omega) (by omega) (by omega) (fun i hi => absurd hi (Nat.not_lt_zero _)) (rfl) _ _ hP hD hS _ (lv_sub hl [3, 4, 2, 1, 0] rfl)
        · skip
          rw [lg_cmp_le] at c_13
          have c_13 : ¬ ((nbN fr 28 4) + (32 * (nbN fr 44 2)) ≤ n) := fun h9 => c_13 ((pk_lLE (a := (nbN fr 28 4) + (32 * (nbN fr 44 2))) (b := n) (by omega) (by omega)).mpr h9)
          have hin : ¬ hin2 n fr := fun h9 => h9.elim c_7 c_13
          refine lv_iconst (v := 3) hx hb d_MD_wrong_71 (by decide) ?_
          have hw9 : wsM bd cm th n fr a z le wy 0 0 fF fA fB fS fW sk pg ye ys yt yg yp tk gF gA gB gS gW yk = wsM bd cm th n fr a z le wy ((mwP n fr (fF, fA, fB, fS, fW)).1) ((mwP n fr (fF, fA, fB, fS, fW)).2.1) ((mwP n fr (fF, fA, fB, fS, fW)).2.2.1) ((mwP n fr (fF, fA, fB, fS, fW)).2.2.2.1) ((mwP n fr (fF, fA, fB, fS, fW)).2.2.2.2.1) ((mwP n fr (fF, fA, fB, fS, fW)).2.2.2.2.2.1) ((mwP n fr (fF, fA, fB, fS, fW)).2.2.2.2.2.2) sk pg ye ys yt yg yp tk gF gA gB gS gW yk := by rw [mwP, if_neg (fun h9 : mwR n fr => hin h9.2.2)]
          rw [hw9] at hP hD
          exact xreti (v := 3) hx hb hr hlocks hK hP hD hS (rfl) (by rw [mwC, if_neg (not_not_intro c_2), if_neg (not_not_intro c_4), if_pos hin]; rfl) d_MD_wrong_72
    · skip
      have c_4 := bI_f c_4
      refine lv_iconst (v := 2) hx hb d_MD_wrong_26 (by decide) ?_
      have hw9 : wsM bd cm th n fr a z le wy 0 0 fF fA fB fS fW sk pg ye ys yt yg yp tk gF gA gB gS gW yk = wsM bd cm th n fr a z le wy ((mwP n fr (fF, fA, fB, fS, fW)).1) ((mwP n fr (fF, fA, fB, fS, fW)).2.1) ((mwP n fr (fF, fA, fB, fS, fW)).2.2.1) ((mwP n fr (fF, fA, fB, fS, fW)).2.2.2.1) ((mwP n fr (fF, fA, fB, fS, fW)).2.2.2.2.1) ((mwP n fr (fF, fA, fB, fS, fW)).2.2.2.2.2.1) ((mwP n fr (fF, fA, fB, fS, fW)).2.2.2.2.2.2) sk pg ye ys yt yg yp tk gF gA gB gS gW yk := by rw [mwP, if_neg (fun h9 : mwR n fr => c_4 h9.2.1)]
      rw [hw9] at hP hD
      exact xreti (v := 2) hx hb hr hlocks hK hP hD hS (rfl) (by rw [mwC, if_neg (not_not_intro c_2), if_pos c_4]; rfl) d_MD_wrong_27
  · skip
    have c_2 := bI_f c_2
    refine lv_iconst (v := 1) hx hb d_MD_wrong_17 (by decide) ?_
    have hw9 : wsM bd cm th n fr a z le wy 0 0 fF fA fB fS fW sk pg ye ys yt yg yp tk gF gA gB gS gW yk = wsM bd cm th n fr a z le wy ((mwP n fr (fF, fA, fB, fS, fW)).1) ((mwP n fr (fF, fA, fB, fS, fW)).2.1) ((mwP n fr (fF, fA, fB, fS, fW)).2.2.1) ((mwP n fr (fF, fA, fB, fS, fW)).2.2.2.1) ((mwP n fr (fF, fA, fB, fS, fW)).2.2.2.2.1) ((mwP n fr (fF, fA, fB, fS, fW)).2.2.2.2.2.1) ((mwP n fr (fF, fA, fB, fS, fW)).2.2.2.2.2.2) sk pg ye ys yt yg yp tk gF gA gB gS gW yk := by rw [mwP, if_neg (fun h9 : mwR n fr => c_2 h9.1)]
    rw [hw9] at hP hD
    exact xreti (v := 1) hx hb hr hlocks hK hP hD hS (rfl) (by rw [mwC, if_pos c_2]; rfl) d_MD_wrong_18
