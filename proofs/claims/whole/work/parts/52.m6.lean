set_option maxHeartbeats 4000000 in
set_option maxRecDepth 100000 in
theorem m_loadX (l : Launch) (dC : Nat → ClassId) (dI : Nat → Nat → Nat) (bd : Nat → Nat) (cm : Nat → ClassId) (th : Int32) (n : Nat) (fr : Nat → Int32) (a : Nat) (z : Nat → Nat) (le : Nat → Int32) (wy : Int32) (fo : Nat) (en : Nat) (fF : Nat → Nat) (fA : Nat → Nat) (fB : Nat → Nat) (fS : Nat → Nat) (fW : Nat → Int32) (sk : Nat → Int32) (pg : Nat) (ye : Int32) (ys : Int32) (yt : Nat) (yg : Nat) (yp : Nat) (tk : Nat → Int32) (gF : Nat → Nat) (gA : Nat → Nat) (gB : Nat → Nat) (gS : Nat → Nat) (gW : Nat → Int32) (yk : Nat → Int32) (k : Int32) (hX : ¬ mwC n fr (fF, fA, fB, fS, fW) (rm2 k) = 0) (hn : n ≤ 65536) (sz : Nat) : Met l y_MD_load w_MD_load { frames := 3, cells := 0, slots := 0, locals := 120 } (va_Pc [.ref (bd 0), .int k] (xP (dC, dI) (tyM cm) (wsM bd cm th n fr a z le wy fo en fF fA fB fS fW sk pg ye ys yt yg yp tk gF gA gB gS gW yk) sz)) (xQi (dC, dI) (tyM cm) (va_A (wsM bd cm th n fr a z le wy fo en fF fA fB fS fW sk pg ye ys yt yg yp tk gF gA gB gS gW yk) sz) (wsM bd cm 0 n fr a z le (nI (mwC n fr (fF, fA, fB, fS, fW) (rm2 k))) ((mwP n fr (fF, fA, fB, fS, fW)).1) ((mwP n fr (fF, fA, fB, fS, fW)).2.1) ((mwP n fr (fF, fA, fB, fS, fW)).2.2.1) ((mwP n fr (fF, fA, fB, fS, fW)).2.2.2.1) ((mwP n fr (fF, fA, fB, fS, fW)).2.2.2.2.1) ((mwP n fr (fF, fA, fB, fS, fW)).2.2.2.2.2.1) ((mwP n fr (fF, fA, fB, fS, fW)).2.2.2.2.2.2) sk pg ye ys yt yg yp tk gF gA gB gS gW yk) (fun r => r = -1)) 0 0 (va_A (wsM bd cm th n fr a z le wy fo en fF fA fB fS fW sk pg ye ys yt yg yp tk gF gA gB gS gW yk) sz) := by
  refine xof (cc := b_MD_load) (maxL := 4) (ret := (some .int)) (own := R_MD) (Qc := fun A => (xQi (dC, dI) (tyM cm) A (wsM bd cm 0 n fr a z le (nI (mwC n fr (fF, fA, fB, fS, fW) (rm2 k))) ((mwP n fr (fF, fA, fB, fS, fW)).1) ((mwP n fr (fF, fA, fB, fS, fW)).2.1) ((mwP n fr (fF, fA, fB, fS, fW)).2.2.1) ((mwP n fr (fF, fA, fB, fS, fW)).2.2.2.1) ((mwP n fr (fF, fA, fB, fS, fW)).2.2.2.2.1) ((mwP n fr (fF, fA, fB, fS, fW)).2.2.2.2.2.1) ((mwP n fr (fF, fA, fB, fS, fW)).2.2.2.2.2.2) sk pg ye ys yt yg yp tk gF gA gB gS gW yk) (fun r => r = -1))) (by decide) rfl rfl (Nat.le_of_ble_eq_true rfl) ?_ sz
  intro p e s m below meth c A C hnm hK hP hD hA hN hZ hS ls hl
  obtain ⟨hx, hb, hr, hml, hown, hts, hlocks⟩ := C
  have hl : lv_has ls 4 [(0, .ref (bd 0)), (1, .int k)] := hl
  have hC6 := mwC_le n fr (fF, fA, fB, fS, fW) (rm2 k)
  refine lv_aload_n hx hb d_MD_load_0 rfl (lv_at hl 0 rfl) ?_
  refine lv_iconst (v := 0) hx hb d_MD_load_1 (by decide) ?_
  refine va_put (D := (dC, dI)) (ci := 7) (v := .int 0) (ty := .int) (C := R_MD) (T := T_MD) (N := 28) hx hb hts i_MD t_MD k_MD n_MD hown hK hP hD hS 0 rfl rfl 0 (by decide) (hts _ wd_392) (fun _ h9 => h9) rfl (by decide +kernel) rfl rfl (Nat.le_of_ble_eq_true rfl) d_MD_load_2 (fun H locs hP hD hS => ?_)
  have hP : va_P (dC, dI) vwCl (wsM bd cm 0 n fr a z le wy fo en fF fA fB fS fW sk pg ye ys yt yg yp tk gF gA gB gS gW yk) H := hP
  have hD : va_D A (wsM bd cm 0 n fr a z le wy fo en fF fA fB fS fW sk pg ye ys yt yg yp tk gF gA gB gS gW yk) := hD
  refine lv_aload_n hx hb d_MD_load_5 rfl (lv_at hl 0 rfl) ?_
  refine lv_aload_n hx hb d_MD_load_6 rfl (lv_at hl 0 rfl) ?_
  refine lv_iload_n hx hb d_MD_load_7 rfl (lv_at hl 1 rfl) ?_
  refine lv_bipush (v := 32) hx hb d_MD_load_8 (by decide) ?_
  refine lv_icmp_le (tgt := 18) hx hb d_MD_load_10 (by decide) (fun c_1 => ?_) (fun c_1 => ?_)
  · skip
    refine lv_iload_n hx hb d_MD_load_18 rfl (lv_at hl 1 rfl) ?_
    refine xtopi (y := rm2 k) ((if_pos c_1).symm) ?_
    refine xcalli (va_runV (As := [.int (rm2 k)]) (rest := [.ref (bd 0)]) ⟨hx, hb, hml, hown, hts⟩ (m_wrong l dC dI bd cm 0 n fr a z le wy fo en fF fA fB fS fW sk pg ye ys yt yg yp tk gF gA gB gS gW yk (rm2 k) hn H.size) (cwV 1 hts (xgV wd_515 wd_517 wd_5 wd_22 wd_518) rfl rfl rfl (by decide +kernel) ⟨Nat.le_of_ble_eq_true rfl, Nat.le_of_ble_eq_true rfl⟩) (xpreV (q0 := 0) hK hN hZ hA hS hP hD rfl rfl) rfl rfl hl.1 rfl (lv_room (Nat.le_of_ble_eq_true rfl)) d_MD_load_19 ⟨Nat.zero_le _, Nat.zero_le _⟩) hD hS hA (fun r_2 H locs hr_2 hP hD hS => ?_)
    subst hr_2
    refine va_put (D := (dC, dI)) (ci := 7) (v := .int (nI (mwC n fr (fF, fA, fB, fS, fW) (rm2 k)))) (ty := .int) (C := R_MD) (T := T_MD) (N := 28) hx hb hts i_MD t_MD k_MD n_MD hown hK hP hD hS 0 rfl rfl 6 (by decide) (hts _ wd_398) (fun _ h9 => h9) rfl (by decide +kernel) rfl rfl (Nat.le_of_ble_eq_true rfl) d_MD_load_22 (fun H locs hP hD hS => ?_)
    have hP : va_P (dC, dI) vwCl (wsM bd cm 0 n fr a z le (nI (mwC n fr (fF, fA, fB, fS, fW) (rm2 k))) ((mwP n fr (fF, fA, fB, fS, fW)).1) ((mwP n fr (fF, fA, fB, fS, fW)).2.1) ((mwP n fr (fF, fA, fB, fS, fW)).2.2.1) ((mwP n fr (fF, fA, fB, fS, fW)).2.2.2.1) ((mwP n fr (fF, fA, fB, fS, fW)).2.2.2.2.1) ((mwP n fr (fF, fA, fB, fS, fW)).2.2.2.2.2.1) ((mwP n fr (fF, fA, fB, fS, fW)).2.2.2.2.2.2) sk pg ye ys yt yg yp tk gF gA gB gS gW yk) H := hP
    have hD : va_D A (wsM bd cm 0 n fr a z le (nI (mwC n fr (fF, fA, fB, fS, fW) (rm2 k))) ((mwP n fr (fF, fA, fB, fS, fW)).1) ((mwP n fr (fF, fA, fB, fS, fW)).2.1) ((mwP n fr (fF, fA, fB, fS, fW)).2.2.1) ((mwP n fr (fF, fA, fB, fS, fW)).2.2.2.1) ((mwP n fr (fF, fA, fB, fS, fW)).2.2.2.2.1) ((mwP n fr (fF, fA, fB, fS, fW)).2.2.2.2.2.1) ((mwP n fr (fF, fA, fB, fS, fW)).2.2.2.2.2.2) sk pg ye ys yt yg yp tk gF gA gB gS gW yk) := hD
    refine lv_aload_n hx hb d_MD_load_25 rfl (lv_at hl 0 rfl) ?_
    refine va_get (D := (dC, dI)) (ci := 7) (v := .int (nI (mwC n fr (fF, fA, fB, fS, fW) (rm2 k)))) (C := R_MD) (T := T_MD) (N := 28) hx hb hts i_MD hown hK hP 0 rfl rfl 6 (by decide) (hts _ wd_398) (fun _ h9 => h9) rfl d_MD_load_26 ?_
    refine lv_if_ne (tgt := 48) hx hb d_MD_load_29 (by decide) (fun c_3 => ?_) (fun c_3 => ?_)
    · skip
      refine lv_iconst (v := 0) hx hb d_MD_load_48 (by decide) ?_
      refine lv_istore_n (lv' := [(2, .int 0), (0, .ref (bd 0)), (1, .int k)]) hx hb d_MD_load_49 rfl hl (by decide) rfl (fun ls hl => ?_)
      refine lv_aload_n hx hb d_MD_load_50 rfl (lv_at hl 1 rfl) ?_
      refine lv_aload_n hx hb d_MD_load_51 rfl (lv_at hl 1 rfl) ?_
      refine va_get (D := (dC, dI)) (ci := 7) (v := .int (nI (mwC n fr (fF, fA, fB, fS, fW) (rm2 k)))) (C := R_MD) (T := T_MD) (N := 28) hx hb hts i_MD hown hK hP 0 rfl rfl 6 (by decide) (hts _ wd_398) (fun _ h9 => h9) rfl d_MD_load_52 ?_
      refine lv_if_ne (tgt := 67) hx hb d_MD_load_55 (by decide) (fun c_4 => ?_) (fun c_4 => ?_)
      · skip
        refine lv_aload_n hx hb d_MD_load_67 rfl (lv_at hl 1 rfl) ?_
        refine va_get (D := (dC, dI)) (ci := 7) (v := .int (nI (mwC n fr (fF, fA, fB, fS, fW) (rm2 k)))) (C := R_MD) (T := T_MD) (N := 28) hx hb hts i_MD hown hK hP 0 rfl rfl 6 (by decide) (hts _ wd_398) (fun _ h9 => h9) rfl d_MD_load_68 ?_
        refine va_put (D := (dC, dI)) (ci := 7) (v := .int (nI (mwC n fr (fF, fA, fB, fS, fW) (rm2 k)))) (ty := .int) (C := R_MD) (T := T_MD) (N := 28) hx hb hts i_MD t_MD k_MD n_MD hown hK hP hD hS 0 rfl rfl 6 (by decide) (hts _ wd_398) (fun _ h9 => h9) rfl (by decide +kernel) rfl rfl (Nat.le_of_ble_eq_true rfl) d_MD_load_71 (fun H locs hP hD hS => ?_)
        have hP : va_P (dC, dI) vwCl (wsM bd cm 0 n fr a z le (nI (mwC n fr (fF, fA, fB, fS, fW) (rm2 k))) ((mwP n fr (fF, fA, fB, fS, fW)).1) ((mwP n fr (fF, fA, fB, fS, fW)).2.1) ((mwP n fr (fF, fA, fB, fS, fW)).2.2.1) ((mwP n fr (fF, fA, fB, fS, fW)).2.2.2.1) ((mwP n fr (fF, fA, fB, fS, fW)).2.2.2.2.1) ((mwP n fr (fF, fA, fB, fS, fW)).2.2.2.2.2.1) ((mwP n fr (fF, fA, fB, fS, fW)).2.2.2.2.2.2) sk pg ye ys yt yg yp tk gF gA gB gS gW yk) H := hP
        have hD : va_D A (wsM bd cm 0 n fr a z le (nI (mwC n fr (fF, fA, fB, fS, fW) (rm2 k))) ((mwP n fr (fF, fA, fB, fS, fW)).1) ((mwP n fr (fF, fA, fB, fS, fW)).2.1) ((mwP n fr (fF, fA, fB, fS, fW)).2.2.1) ((mwP n fr (fF, fA, fB, fS, fW)).2.2.2.1) ((mwP n fr (fF, fA, fB, fS, fW)).2.2.2.2.1) ((mwP n fr (fF, fA, fB, fS, fW)).2.2.2.2.2.1) ((mwP n fr (fF, fA, fB, fS, fW)).2.2.2.2.2.2) sk pg ye ys yt yg yp tk gF gA gB gS gW yk) := hD
        refine lv_aload_n hx hb d_MD_load_74 rfl (lv_at hl 1 rfl) ?_
        refine va_get (D := (dC, dI)) (ci := 7) (v := .int (nI (mwC n fr (fF, fA, fB, fS, fW) (rm2 k)))) (C := R_MD) (T := T_MD) (N := 28) hx hb hts i_MD hown hK hP 0 rfl rfl 6 (by decide) (hts _ wd_398) (fun _ h9 => h9) rfl d_MD_load_75 ?_
        refine lv_if_le (tgt := 83) hx hb d_MD_load_78 (by decide) (fun c_5 => ?_) (fun c_5 => ?_)
        · skip
          exact absurd ((nI_leI (a := mwC n fr (fF, fA, fB, fS, fW) (rm2 k)) (b := 0) (by omega) (by omega)).mp c_5) (by omega)
        · skip
          refine lv_iconst (v := (-1)) hx hb d_MD_load_81 (by decide) ?_
          exact xreti (v := (-1)) hx hb hr hlocks hK hP hD hS (rfl) (rfl) d_MD_load_82
      · skip
        exact absurd ((nI_eq (a := mwC n fr (fF, fA, fB, fS, fW) (rm2 k)) (b := 0) (by omega) (by omega)).mp c_4) hX
    · skip
      exact absurd ((nI_eq (a := mwC n fr (fF, fA, fB, fS, fW) (rm2 k)) (b := 0) (by omega) (by omega)).mp c_3) hX
  · skip
    refine lv_bipush (v := 32) hx hb d_MD_load_13 (by decide) ?_
    refine lv_goto (tgt := 19) hx hb d_MD_load_15 (by decide) ?_
    refine xtopi (y := rm2 k) ((if_neg c_1).symm) ?_
    refine xcalli (va_runV (As := [.int (rm2 k)]) (rest := [.ref (bd 0)]) ⟨hx, hb, hml, hown, hts⟩ (m_wrong l dC dI bd cm 0 n fr a z le wy fo en fF fA fB fS fW sk pg ye ys yt yg yp tk gF gA gB gS gW yk (rm2 k) hn H.size) (cwV 1 hts (xgV wd_515 wd_517 wd_5 wd_22 wd_518) rfl rfl rfl (by decide +kernel) ⟨Nat.le_of_ble_eq_true rfl, Nat.le_of_ble_eq_true rfl⟩) (xpreV (q0 := 0) hK hN hZ hA hS hP hD rfl rfl) rfl rfl hl.1 rfl (lv_room (Nat.le_of_ble_eq_true rfl)) d_MD_load_19 ⟨Nat.zero_le _, Nat.zero_le _⟩) hD hS hA (fun r_6 H locs hr_6 hP hD hS => ?_)
    subst hr_6
    refine va_put (D := (dC, dI)) (ci := 7) (v := .int (nI (mwC n fr (fF, fA, fB, fS, fW) (rm2 k)))) (ty := .int) (C := R_MD) (T := T_MD) (N := 28) hx hb hts i_MD t_MD k_MD n_MD hown hK hP hD hS 0 rfl rfl 6 (by decide) (hts _ wd_398) (fun _ h9 => h9) rfl (by decide +kernel) rfl rfl (Nat.le_of_ble_eq_true rfl) d_MD_load_22 (fun H locs hP hD hS => ?_)
    have hP : va_P (dC, dI) vwCl (wsM bd cm 0 n fr a z le (nI (mwC n fr (fF, fA, fB, fS, fW) (rm2 k))) ((mwP n fr (fF, fA, fB, fS, fW)).1) ((mwP n fr (fF, fA, fB, fS, fW)).2.1) ((mwP n fr (fF, fA, fB, fS, fW)).2.2.1) ((mwP n fr (fF, fA, fB, fS, fW)).2.2.2.1) ((mwP n fr (fF, fA, fB, fS, fW)).2.2.2.2.1) ((mwP n fr (fF, fA, fB, fS, fW)).2.2.2.2.2.1) ((mwP n fr (fF, fA, fB, fS, fW)).2.2.2.2.2.2) sk pg ye ys yt yg yp tk gF gA gB gS gW yk) H := hP
    have hD : va_D A (wsM bd cm 0 n fr a z le (nI (mwC n fr (fF, fA, fB, fS, fW) (rm2 k))) ((mwP n fr (fF, fA, fB, fS, fW)).1) ((mwP n fr (fF, fA, fB, fS, fW)).2.1) ((mwP n fr (fF, fA, fB, fS, fW)).2.2.1) ((mwP n fr (fF, fA, fB, fS, fW)).2.2.2.1) ((mwP n fr (fF, fA, fB, fS, fW)).2.2.2.2.1) ((mwP n fr (fF, fA, fB, fS, fW)).2.2.2.2.2.1) ((mwP n fr (fF, fA, fB, fS, fW)).2.2.2.2.2.2) sk pg ye ys yt yg yp tk gF gA gB gS gW yk) := hD
    refine lv_aload_n hx hb d_MD_load_25 rfl (lv_at hl 0 rfl) ?_
    refine va_get (D := (dC, dI)) (ci := 7) (v := .int (nI (mwC n fr (fF, fA, fB, fS, fW) (rm2 k)))) (C := R_MD) (T := T_MD) (N := 28) hx hb hts i_MD hown hK hP 0 rfl rfl 6 (by decide) (hts _ wd_398) (fun _ h9 => h9) rfl d_MD_load_26 ?_
    refine lv_if_ne (tgt := 48) hx hb d_MD_load_29 (by decide) (fun c_7 => ?_) (fun c_7 => ?_)
    · skip
      refine lv_iconst (v := 0) hx hb d_MD_load_48 (by decide) ?_
      refine lv_istore_n (lv' := [(2, .int 0), (0, .ref (bd 0)), (1, .int k)]) hx hb d_MD_load_49 rfl hl (by decide) rfl (fun ls hl => ?_)
      refine lv_aload_n hx hb d_MD_load_50 rfl (lv_at hl 1 rfl) ?_
      refine lv_aload_n hx hb d_MD_load_51 rfl (lv_at hl 1 rfl) ?_
      refine va_get (D := (dC, dI)) (ci := 7) (v := .int (nI (mwC n fr (fF, fA, fB, fS, fW) (rm2 k)))) (C := R_MD) (T := T_MD) (N := 28) hx hb hts i_MD hown hK hP 0 rfl rfl 6 (by decide) (hts _ wd_398) (fun _ h9 => h9) rfl d_MD_load_52 ?_
      refine lv_if_ne (tgt := 67) hx hb d_MD_load_55 (by decide) (fun c_8 => ?_) (fun c_8 => ?_)
      · skip
        refine lv_aload_n hx hb d_MD_load_67 rfl (lv_at hl 1 rfl) ?_
        refine va_get (D := (dC, dI)) (ci := 7) (v := .int (nI (mwC n fr (fF, fA, fB, fS, fW) (rm2 k)))) (C := R_MD) (T := T_MD) (N := 28) hx hb hts i_MD hown hK hP 0 rfl rfl 6 (by decide) (hts _ wd_398) (fun _ h9 => h9) rfl d_MD_load_68 ?_
        refine va_put (D := (dC, dI)) (ci := 7) (v := .int (nI (mwC n fr (fF, fA, fB, fS, fW) (rm2 k)))) (ty := .int) (C := R_MD) (T := T_MD) (N := 28) hx hb hts i_MD t_MD k_MD n_MD hown hK hP hD hS 0 rfl rfl 6 (by decide) (hts _ wd_398) (fun _ h9 => h9) rfl (by decide +kernel) rfl rfl (Nat.le_of_ble_eq_true rfl) d_MD_load_71 (fun H locs hP hD hS => ?_)
        have hP : va_P (dC, dI) vwCl (wsM bd cm 0 n fr a z le (nI (mwC n fr (fF, fA, fB, fS, fW) (rm2 k))) ((mwP n fr (fF, fA, fB, fS, fW)).1) ((mwP n fr (fF, fA, fB, fS, fW)).2.1) ((mwP n fr (fF, fA, fB, fS, fW)).2.2.1) ((mwP n fr (fF, fA, fB, fS, fW)).2.2.2.1) ((mwP n fr (fF, fA, fB, fS, fW)).2.2.2.2.1) ((mwP n fr (fF, fA, fB, fS, fW)).2.2.2.2.2.1) ((mwP n fr (fF, fA, fB, fS, fW)).2.2.2.2.2.2) sk pg ye ys yt yg yp tk gF gA gB gS gW yk) H := hP
        have hD : va_D A (wsM bd cm 0 n fr a z le (nI (mwC n fr (fF, fA, fB, fS, fW) (rm2 k))) ((mwP n fr (fF, fA, fB, fS, fW)).1) ((mwP n fr (fF, fA, fB, fS, fW)).2.1) ((mwP n fr (fF, fA, fB, fS, fW)).2.2.1) ((mwP n fr (fF, fA, fB, fS, fW)).2.2.2.1) ((mwP n fr (fF, fA, fB, fS, fW)).2.2.2.2.1) ((mwP n fr (fF, fA, fB, fS, fW)).2.2.2.2.2.1) ((mwP n fr (fF, fA, fB, fS, fW)).2.2.2.2.2.2) sk pg ye ys yt yg yp tk gF gA gB gS gW yk) := hD
        refine lv_aload_n hx hb d_MD_load_74 rfl (lv_at hl 1 rfl) ?_
        refine va_get (D := (dC, dI)) (ci := 7) (v := .int (nI (mwC n fr (fF, fA, fB, fS, fW) (rm2 k)))) (C := R_MD) (T := T_MD) (N := 28) hx hb hts i_MD hown hK hP 0 rfl rfl 6 (by decide) (hts _ wd_398) (fun _ h9 => h9) rfl d_MD_load_75 ?_
        refine lv_if_le (tgt := 83) hx hb d_MD_load_78 (by decide) (fun c_9 => ?_) (fun c_9 => ?_)
        · skip
          exact absurd ((nI_leI (a := mwC n fr (fF, fA, fB, fS, fW) (rm2 k)) (b := 0) (by omega) (by omega)).mp c_9) (by omega)
        · skip
          refine lv_iconst (v := (-1)) hx hb d_MD_load_81 (by decide) ?_
          exact xreti (v := (-1)) hx hb hr hlocks hK hP hD hS (rfl) (rfl) d_MD_load_82
      · skip
        exact absurd ((nI_eq (a := mwC n fr (fF, fA, fB, fS, fW) (rm2 k)) (b := 0) (by omega) (by omega)).mp c_8) hX
    · skip
      exact absurd ((nI_eq (a := mwC n fr (fF, fA, fB, fS, fW) (rm2 k)) (b := 0) (by omega) (by omega)).mp c_7) hX
set_option maxHeartbeats 4000000 in
set_option maxRecDepth 100000 in
theorem m_load6 (l : Launch) (dC : Nat → ClassId) (dI : Nat → Nat → Nat) (bd : Nat → Nat) (cm : Nat → ClassId) (th : Int32) (n : Nat) (fr : Nat → Int32) (a : Nat) (z : Nat → Nat) (le : Nat → Int32) (wy : Int32) (fo : Nat) (en : Nat) (fF : Nat → Nat) (fA : Nat → Nat) (fB : Nat → Nat) (fS : Nat → Nat) (fW : Nat → Int32) (sk : Nat → Int32) (pg : Nat) (ye : Int32) (ys : Int32) (yt : Nat) (yg : Nat) (yp : Nat) (tk : Nat → Int32) (gF : Nat → Nat) (gA : Nat → Nat) (gB : Nat → Nat) (gS : Nat → Nat) (gW : Nat → Int32) (yk : Nat → Int32) (k : Int32) (fo2 en2 : Nat) (F2 A2 B2 S2 : Nat → Nat) (W2 : Nat → Int32) (h0 : mwC n fr (fF, fA, fB, fS, fW) (rm2 k) = 0) (hq : (mwP n fr (fF, fA, fB, fS, fW)) = (fo2, en2, F2, A2, B2, S2, W2)) (hen : en2 ≤ 1073733632) (hneg : ¬ 0 ≤ spOf z a) (hLe : sb_Fit le) (ha : a ≤ 32) (hz : ∀ j, z j ≤ 127) (hn : n ≤ 65536) (sz : Nat) : Met l y_MD_load w_MD_load { frames := 3, cells := 0, slots := 0, locals := 120 } (va_Pc [.ref (bd 0), .int k] (xP (dC, dI) (tyM cm) (wsM bd cm th n fr a z le wy fo en fF fA fB fS fW sk pg ye ys yt yg yp tk gF gA gB gS gW yk) sz)) (xQi (dC, dI) (tyM cm) (va_A (wsM bd cm th n fr a z le wy fo en fF fA fB fS fW sk pg ye ys yt yg yp tk gF gA gB gS gW yk) sz) (wsM bd cm 0 n fr a z le 6 fo2 en2 F2 A2 B2 S2 W2 (zf 4096 sk) pg ye ys yt yg yp tk gF gA gB gS gW yk) (fun r => r = -1)) 0 0 (va_A (wsM bd cm th n fr a z le wy fo en fF fA fB fS fW sk pg ye ys yt yg yp tk gF gA gB gS gW yk) sz) := by
  refine xof (cc := b_MD_load) (maxL := 4) (ret := (some .int)) (own := R_MD) (Qc := fun A => (xQi (dC, dI) (tyM cm) A (wsM bd cm 0 n fr a z le 6 fo2 en2 F2 A2 B2 S2 W2 (zf 4096 sk) pg ye ys yt yg yp tk gF gA gB gS gW yk) (fun r => r = -1))) (by decide) rfl rfl (Nat.le_of_ble_eq_true rfl) ?_ sz
  intro p e s m below meth c A C hnm hK hP hD hA hN hZ hS ls hl
  obtain ⟨hx, hb, hr, hml, hown, hts, hlocks⟩ := C
  have hl : lv_has ls 4 [(0, .ref (bd 0)), (1, .int k)] := hl
  refine lv_aload_n hx hb d_MD_load_0 rfl (lv_at hl 0 rfl) ?_
  refine lv_iconst (v := 0) hx hb d_MD_load_1 (by decide) ?_
  refine va_put (D := (dC, dI)) (ci := 7) (v := .int 0) (ty := .int) (C := R_MD) (T := T_MD) (N := 28) hx hb hts i_MD t_MD k_MD n_MD hown hK hP hD hS 0 rfl rfl 0 (by decide) (hts _ wd_392) (fun _ h9 => h9) rfl (by decide +kernel) rfl rfl (Nat.le_of_ble_eq_true rfl) d_MD_load_2 (fun H locs hP hD hS => ?_)
  have hP : va_P (dC, dI) vwCl (wsM bd cm 0 n fr a z le wy fo en fF fA fB fS fW sk pg ye ys yt yg yp tk gF gA gB gS gW yk) H := hP
  have hD : va_D A (wsM bd cm 0 n fr a z le wy fo en fF fA fB fS fW sk pg ye ys yt yg yp tk gF gA gB gS gW yk) := hD
  refine lv_aload_n hx hb d_MD_load_5 rfl (lv_at hl 0 rfl) ?_
  refine lv_aload_n hx hb d_MD_load_6 rfl (lv_at hl 0 rfl) ?_
  refine lv_iload_n hx hb d_MD_load_7 rfl (lv_at hl 1 rfl) ?_
  refine lv_bipush (v := 32) hx hb d_MD_load_8 (by decide) ?_
  refine lv_icmp_le (tgt := 18) hx hb d_MD_load_10 (by decide) (fun c_1 => ?_) (fun c_1 => ?_)
  · skip
    refine lv_iload_n hx hb d_MD_load_18 rfl (lv_at hl 1 rfl) ?_
    refine xtopi (y := rm2 k) ((if_pos c_1).symm) ?_
    refine xcalli (va_runV (As := [.int (rm2 k)]) (rest := [.ref (bd 0)]) ⟨hx, hb, hml, hown, hts⟩ (m_wrong l dC dI bd cm 0 n fr a z le wy fo en fF fA fB fS fW sk pg ye ys yt yg yp tk gF gA gB gS gW yk (rm2 k) hn H.size) (cwV 1 hts (xgV wd_515 wd_517 wd_5 wd_22 wd_518) rfl rfl rfl (by decide +kernel) ⟨Nat.le_of_ble_eq_true rfl, Nat.le_of_ble_eq_true rfl⟩) (xpreV (q0 := 0) hK hN hZ hA hS hP hD rfl rfl) rfl rfl hl.1 rfl (lv_room (Nat.le_of_ble_eq_true rfl)) d_MD_load_19 ⟨Nat.zero_le _, Nat.zero_le _⟩) hD hS hA (fun r_2 H locs hr_2 hP hD hS => ?_)
    subst hr_2
    refine va_put (D := (dC, dI)) (ci := 7) (v := .int (nI (mwC n fr (fF, fA, fB, fS, fW) (rm2 k)))) (ty := .int) (C := R_MD) (T := T_MD) (N := 28) hx hb hts i_MD t_MD k_MD n_MD hown hK hP hD hS 0 rfl rfl 6 (by decide) (hts _ wd_398) (fun _ h9 => h9) rfl (by decide +kernel) rfl rfl (Nat.le_of_ble_eq_true rfl) d_MD_load_22 (fun H locs hP hD hS => ?_)
    have hP : va_P (dC, dI) vwCl (wsM bd cm 0 n fr a z le (nI (mwC n fr (fF, fA, fB, fS, fW) (rm2 k))) ((mwP n fr (fF, fA, fB, fS, fW)).1) ((mwP n fr (fF, fA, fB, fS, fW)).2.1) ((mwP n fr (fF, fA, fB, fS, fW)).2.2.1) ((mwP n fr (fF, fA, fB, fS, fW)).2.2.2.1) ((mwP n fr (fF, fA, fB, fS, fW)).2.2.2.2.1) ((mwP n fr (fF, fA, fB, fS, fW)).2.2.2.2.2.1) ((mwP n fr (fF, fA, fB, fS, fW)).2.2.2.2.2.2) sk pg ye ys yt yg yp tk gF gA gB gS gW yk) H := hP
    have hD : va_D A (wsM bd cm 0 n fr a z le (nI (mwC n fr (fF, fA, fB, fS, fW) (rm2 k))) ((mwP n fr (fF, fA, fB, fS, fW)).1) ((mwP n fr (fF, fA, fB, fS, fW)).2.1) ((mwP n fr (fF, fA, fB, fS, fW)).2.2.1) ((mwP n fr (fF, fA, fB, fS, fW)).2.2.2.1) ((mwP n fr (fF, fA, fB, fS, fW)).2.2.2.2.1) ((mwP n fr (fF, fA, fB, fS, fW)).2.2.2.2.2.1) ((mwP n fr (fF, fA, fB, fS, fW)).2.2.2.2.2.2) sk pg ye ys yt yg yp tk gF gA gB gS gW yk) := hD
    have hP : va_P (dC, dI) vwCl (wsM bd cm 0 n fr a z le (nI (mwC n fr (fF, fA, fB, fS, fW) (rm2 k))) fo2 en2 F2 A2 B2 S2 W2 sk pg ye ys yt yg yp tk gF gA gB gS gW yk) H := by rw [hq] at hP; exact hP
    have hD : va_D A (wsM bd cm 0 n fr a z le (nI (mwC n fr (fF, fA, fB, fS, fW) (rm2 k))) fo2 en2 F2 A2 B2 S2 W2 sk pg ye ys yt yg yp tk gF gA gB gS gW yk) := by rw [hq] at hD; exact hD
    refine lv_aload_n hx hb d_MD_load_25 rfl (lv_at hl 0 rfl) ?_
    refine va_get (D := (dC, dI)) (ci := 7) (v := .int (nI (mwC n fr (fF, fA, fB, fS, fW) (rm2 k)))) (C := R_MD) (T := T_MD) (N := 28) hx hb hts i_MD hown hK hP 0 rfl rfl 6 (by decide) (hts _ wd_398) (fun _ h9 => h9) rfl d_MD_load_26 ?_
    refine lv_if_ne (tgt := 48) hx hb d_MD_load_29 (by decide) (fun c_3 => ?_) (fun c_3 => ?_)
    · skip
      exact absurd (by rw [h0]; rfl) c_3
    · skip
      refine lv_aload_n hx hb d_MD_load_32 rfl (lv_at hl 0 rfl) ?_
      refine lv_aload_n hx hb d_MD_load_33 rfl (lv_at hl 0 rfl) ?_
      refine va_get (D := (dC, dI)) (ci := 7) (v := .long (lN en2)) (C := R_MD) (T := T_MD) (N := 28) hx hb hts i_MD hown hK hP 0 rfl rfl 8 (by decide) (hts _ wd_400) (fun _ h9 => h9) rfl d_MD_load_34 ?_
      refine lv_l2i hx hb d_MD_load_37 rfl ?_
      refine xtopi (y := nI en2) (lN_i (en2)) ?_
      refine lv_sipush (v := 8192) hx hb d_MD_load_38 (by decide) ?_
      refine lv_iadd hx hb d_MD_load_41 ?_
      refine xtopi (y := nI (en2 + 8192)) (nI_add (en2) (8192)) ?_
      refine xcalli (va_runV (As := [.int (nI (en2 + 8192))]) (rest := []) ⟨hx, hb, hml, hown, hts⟩ (m_laidX l dC dI bd cm 0 n fr a z le (nI (mwC n fr (fF, fA, fB, fS, fW) (rm2 k))) fo2 en2 F2 A2 B2 S2 W2 sk pg ye ys yt yg yp tk gF gA gB gS gW yk (en2 + 8192) (by omega) (by omega) hneg hLe ha hz H.size) (cwV 1 hts (xgV wd_561 wd_563 wd_11 wd_22 wd_564) rfl rfl rfl (by decide +kernel) ⟨Nat.le_of_ble_eq_true rfl, Nat.le_of_ble_eq_true rfl⟩) (xpreV (q0 := 0) hK hN hZ hA hS hP hD rfl rfl) rfl rfl hl.1 rfl (lv_room (Nat.le_of_ble_eq_true rfl)) d_MD_load_42 ⟨Nat.zero_le _, Nat.zero_le _⟩) hD hS hA (fun r_4 H locs hr_4 hP hD hS => ?_)
      subst hr_4
      refine lv_goto (tgt := 49) hx hb d_MD_load_45 (by decide) ?_
      refine lv_istore_n (lv' := [(2, .int (-1)), (0, .ref (bd 0)), (1, .int k)]) hx hb d_MD_load_49 rfl hl (by decide) rfl (fun ls hl => ?_)
      refine lv_aload_n hx hb d_MD_load_50 rfl (lv_at hl 1 rfl) ?_
      refine lv_aload_n hx hb d_MD_load_51 rfl (lv_at hl 1 rfl) ?_
      refine va_get (D := (dC, dI)) (ci := 7) (v := .int (nI (mwC n fr (fF, fA, fB, fS, fW) (rm2 k)))) (C := R_MD) (T := T_MD) (N := 28) hx hb hts i_MD hown hK hP 0 rfl rfl 6 (by decide) (hts _ wd_398) (fun _ h9 => h9) rfl d_MD_load_52 ?_
      refine lv_if_ne (tgt := 67) hx hb d_MD_load_55 (by decide) (fun c_5 => ?_) (fun c_5 => ?_)
      · skip
        exact absurd (by rw [h0]; rfl) c_5
      · skip
        refine lv_iload_n hx hb d_MD_load_58 rfl (lv_at hl 0 rfl) ?_
        refine lv_if_ge (tgt := 67) hx hb d_MD_load_59 (by decide) (fun c_6 => ?_) (fun c_6 => ?_)
        · exact absurd c_6 (by decide)
        · skip
          refine lv_bipush (v := 6) hx hb d_MD_load_62 (by decide) ?_
          refine lv_goto (tgt := 71) hx hb d_MD_load_64 (by decide) ?_
          refine va_put (D := (dC, dI)) (ci := 7) (v := .int 6) (ty := .int) (C := R_MD) (T := T_MD) (N := 28) hx hb hts i_MD t_MD k_MD n_MD hown hK hP hD hS 0 rfl rfl 6 (by decide) (hts _ wd_398) (fun _ h9 => h9) rfl (by decide +kernel) rfl rfl (Nat.le_of_ble_eq_true rfl) d_MD_load_71 (fun H locs hP hD hS => ?_)
          have hP : va_P (dC, dI) vwCl (wsM bd cm 0 n fr a z le 6 fo2 en2 F2 A2 B2 S2 W2 (zf 4096 sk) pg ye ys yt yg yp tk gF gA gB gS gW yk) H := hP
          have hD : va_D A (wsM bd cm 0 n fr a z le 6 fo2 en2 F2 A2 B2 S2 W2 (zf 4096 sk) pg ye ys yt yg yp tk gF gA gB gS gW yk) := hD
          refine lv_aload_n hx hb d_MD_load_74 rfl (lv_at hl 1 rfl) ?_
          refine va_get (D := (dC, dI)) (ci := 7) (v := .int 6) (C := R_MD) (T := T_MD) (N := 28) hx hb hts i_MD hown hK hP 0 rfl rfl 6 (by decide) (hts _ wd_398) (fun _ h9 => h9) rfl d_MD_load_75 ?_
          refine lv_if_le (tgt := 83) hx hb d_MD_load_78 (by decide) (fun c_7 => ?_) (fun c_7 => ?_)
          · skip
            exact absurd c_7 (by decide)
          · skip
            refine lv_iconst (v := (-1)) hx hb d_MD_load_81 (by decide) ?_
            exact xreti (v := (-1)) hx hb hr hlocks hK hP hD hS (rfl) (rfl) d_MD_load_82
  · skip
    refine lv_bipush (v := 32) hx hb d_MD_load_13 (by decide) ?_
    refine lv_goto (tgt := 19) hx hb d_MD_load_15 (by decide) ?_
    refine xtopi (y := rm2 k) ((if_neg c_1).symm) ?_
    refine xcalli (va_runV (As := [.int (rm2 k)]) (rest := [.ref (bd 0)]) ⟨hx, hb, hml, hown, hts⟩ (m_wrong l dC dI bd cm 0 n fr a z le wy fo en fF fA fB fS fW sk pg ye ys yt yg yp tk gF gA gB gS gW yk (rm2 k) hn H.size) (cwV 1 hts (xgV wd_515 wd_517 wd_5 wd_22 wd_518) rfl rfl rfl (by decide +kernel) ⟨Nat.le_of_ble_eq_true rfl, Nat.le_of_ble_eq_true rfl⟩) (xpreV (q0 := 0) hK hN hZ hA hS hP hD rfl rfl) rfl rfl hl.1 rfl (lv_room (Nat.le_of_ble_eq_true rfl)) d_MD_load_19 ⟨Nat.zero_le _, Nat.zero_le _⟩) hD hS hA (fun r_8 H locs hr_8 hP hD hS => ?_)
    subst hr_8
    refine va_put (D := (dC, dI)) (ci := 7) (v := .int (nI (mwC n fr (fF, fA, fB, fS, fW) (rm2 k)))) (ty := .int) (C := R_MD) (T := T_MD) (N := 28) hx hb hts i_MD t_MD k_MD n_MD hown hK hP hD hS 0 rfl rfl 6 (by decide) (hts _ wd_398) (fun _ h9 => h9) rfl (by decide +kernel) rfl rfl (Nat.le_of_ble_eq_true rfl) d_MD_load_22 (fun H locs hP hD hS => ?_)
    have hP : va_P (dC, dI) vwCl (wsM bd cm 0 n fr a z le (nI (mwC n fr (fF, fA, fB, fS, fW) (rm2 k))) ((mwP n fr (fF, fA, fB, fS, fW)).1) ((mwP n fr (fF, fA, fB, fS, fW)).2.1) ((mwP n fr (fF, fA, fB, fS, fW)).2.2.1) ((mwP n fr (fF, fA, fB, fS, fW)).2.2.2.1) ((mwP n fr (fF, fA, fB, fS, fW)).2.2.2.2.1) ((mwP n fr (fF, fA, fB, fS, fW)).2.2.2.2.2.1) ((mwP n fr (fF, fA, fB, fS, fW)).2.2.2.2.2.2) sk pg ye ys yt yg yp tk gF gA gB gS gW yk) H := hP
    have hD : va_D A (wsM bd cm 0 n fr a z le (nI (mwC n fr (fF, fA, fB, fS, fW) (rm2 k))) ((mwP n fr (fF, fA, fB, fS, fW)).1) ((mwP n fr (fF, fA, fB, fS, fW)).2.1) ((mwP n fr (fF, fA, fB, fS, fW)).2.2.1) ((mwP n fr (fF, fA, fB, fS, fW)).2.2.2.1) ((mwP n fr (fF, fA, fB, fS, fW)).2.2.2.2.1) ((mwP n fr (fF, fA, fB, fS, fW)).2.2.2.2.2.1) ((mwP n fr (fF, fA, fB, fS, fW)).2.2.2.2.2.2) sk pg ye ys yt yg yp tk gF gA gB gS gW yk) := hD
    have hP : va_P (dC, dI) vwCl (wsM bd cm 0 n fr a z le (nI (mwC n fr (fF, fA, fB, fS, fW) (rm2 k))) fo2 en2 F2 A2 B2 S2 W2 sk pg ye ys yt yg yp tk gF gA gB gS gW yk) H := by rw [hq] at hP; exact hP
    have hD : va_D A (wsM bd cm 0 n fr a z le (nI (mwC n fr (fF, fA, fB, fS, fW) (rm2 k))) fo2 en2 F2 A2 B2 S2 W2 sk pg ye ys yt yg yp tk gF gA gB gS gW yk) := by rw [hq] at hD; exact hD
    refine lv_aload_n hx hb d_MD_load_25 rfl (lv_at hl 0 rfl) ?_
    refine va_get (D := (dC, dI)) (ci := 7) (v := .int (nI (mwC n fr (fF, fA, fB, fS, fW) (rm2 k)))) (C := R_MD) (T := T_MD) (N := 28) hx hb hts i_MD hown hK hP 0 rfl rfl 6 (by decide) (hts _ wd_398) (fun _ h9 => h9) rfl d_MD_load_26 ?_
    refine lv_if_ne (tgt := 48) hx hb d_MD_load_29 (by decide) (fun c_9 => ?_) (fun c_9 => ?_)
    · skip
      exact absurd (by rw [h0]; rfl) c_9
    · skip
      refine lv_aload_n hx hb d_MD_load_32 rfl (lv_at hl 0 rfl) ?_
      refine lv_aload_n hx hb d_MD_load_33 rfl (lv_at hl 0 rfl) ?_
      refine va_get (D := (dC, dI)) (ci := 7) (v := .long (lN en2)) (C := R_MD) (T := T_MD) (N := 28) hx hb hts i_MD hown hK hP 0 rfl rfl 8 (by decide) (hts _ wd_400) (fun _ h9 => h9) rfl d_MD_load_34 ?_
      refine lv_l2i hx hb d_MD_load_37 rfl ?_
      refine xtopi (y := nI en2) (lN_i (en2)) ?_
      refine lv_sipush (v := 8192) hx hb d_MD_load_38 (by decide) ?_
      refine lv_iadd hx hb d_MD_load_41 ?_
      refine xtopi (y := nI (en2 + 8192)) (nI_add (en2) (8192)) ?_
      refine xcalli (va_runV (As := [.int (nI (en2 + 8192))]) (rest := []) ⟨hx, hb, hml, hown, hts⟩ (m_laidX l dC dI bd cm 0 n fr a z le (nI (mwC n fr (fF, fA, fB, fS, fW) (rm2 k))) fo2 en2 F2 A2 B2 S2 W2 sk pg ye ys yt yg yp tk gF gA gB gS gW yk (en2 + 8192) (by omega) (by omega) hneg hLe ha hz H.size) (cwV 1 hts (xgV wd_561 wd_563 wd_11 wd_22 wd_564) rfl rfl rfl (by decide +kernel) ⟨Nat.le_of_ble_eq_true rfl, Nat.le_of_ble_eq_true rfl⟩) (xpreV (q0 := 0) hK hN hZ hA hS hP hD rfl rfl) rfl rfl hl.1 rfl (lv_room (Nat.le_of_ble_eq_true rfl)) d_MD_load_42 ⟨Nat.zero_le _, Nat.zero_le _⟩) hD hS hA (fun r_10 H locs hr_10 hP hD hS => ?_)
      subst hr_10
      refine lv_goto (tgt := 49) hx hb d_MD_load_45 (by decide) ?_
      refine lv_istore_n (lv' := [(2, .int (-1)), (0, .ref (bd 0)), (1, .int k)]) hx hb d_MD_load_49 rfl hl (by decide) rfl (fun ls hl => ?_)
      refine lv_aload_n hx hb d_MD_load_50 rfl (lv_at hl 1 rfl) ?_
      refine lv_aload_n hx hb d_MD_load_51 rfl (lv_at hl 1 rfl) ?_
      refine va_get (D := (dC, dI)) (ci := 7) (v := .int (nI (mwC n fr (fF, fA, fB, fS, fW) (rm2 k)))) (C := R_MD) (T := T_MD) (N := 28) hx hb hts i_MD hown hK hP 0 rfl rfl 6 (by decide) (hts _ wd_398) (fun _ h9 => h9) rfl d_MD_load_52 ?_
      refine lv_if_ne (tgt := 67) hx hb d_MD_load_55 (by decide) (fun c_11 => ?_) (fun c_11 => ?_)
      · skip
        exact absurd (by rw [h0]; rfl) c_11
      · skip
        refine lv_iload_n hx hb d_MD_load_58 rfl (lv_at hl 0 rfl) ?_
        refine lv_if_ge (tgt := 67) hx hb d_MD_load_59 (by decide) (fun c_12 => ?_) (fun c_12 => ?_)
        · exact absurd c_12 (by decide)
        · skip
          refine lv_bipush (v := 6) hx hb d_MD_load_62 (by decide) ?_
          refine lv_goto (tgt := 71) hx hb d_MD_load_64 (by decide) ?_
          refine va_put (D := (dC, dI)) (ci := 7) (v := .int 6) (ty := .int) (C := R_MD) (T := T_MD) (N := 28) hx hb hts i_MD t_MD k_MD n_MD hown hK hP hD hS 0 rfl rfl 6 (by decide) (hts _ wd_398) (fun _ h9 => h9) rfl (by decide +kernel) rfl rfl (Nat.le_of_ble_eq_true rfl) d_MD_load_71 (fun H locs hP hD hS => ?_)
          have hP : va_P (dC, dI) vwCl (wsM bd cm 0 n fr a z le 6 fo2 en2 F2 A2 B2 S2 W2 (zf 4096 sk) pg ye ys yt yg yp tk gF gA gB gS gW yk) H := hP
          have hD : va_D A (wsM bd cm 0 n fr a z le 6 fo2 en2 F2 A2 B2 S2 W2 (zf 4096 sk) pg ye ys yt yg yp tk gF gA gB gS gW yk) := hD
          refine lv_aload_n hx hb d_MD_load_74 rfl (lv_at hl 1 rfl) ?_
          refine va_get (D := (dC, dI)) (ci := 7) (v := .int 6) (C := R_MD) (T := T_MD) (N := 28) hx hb hts i_MD hown hK hP 0 rfl rfl 6 (by decide) (hts _ wd_398) (fun _ h9 => h9) rfl d_MD_load_75 ?_
          refine lv_if_le (tgt := 83) hx hb d_MD_load_78 (by decide) (fun c_13 => ?_) (fun c_13 => ?_)
          · skip
            exact absurd c_13 (by decide)
          · skip
            refine lv_iconst (v := (-1)) hx hb d_MD_load_81 (by decide) ?_
            exact xreti (v := (-1)) hx hb hr hlocks hK hP hD hS (rfl) (rfl) d_MD_load_82
set_option maxHeartbeats 4000000 in
set_option maxRecDepth 100000 in
theorem m_load0 (l : Launch) (dC : Nat → ClassId) (dI : Nat → Nat → Nat) (bd : Nat → Nat) (cm : Nat → ClassId) (th : Int32) (n : Nat) (fr : Nat → Int32) (a : Nat) (z : Nat → Nat) (le : Nat → Int32) (wy : Int32) (fo : Nat) (en : Nat) (fF : Nat → Nat) (fA : Nat → Nat) (fB : Nat → Nat) (fS : Nat → Nat) (fW : Nat → Int32) (sk : Nat → Int32) (pg : Nat) (ye : Int32) (ys : Int32) (yt : Nat) (yg : Nat) (yp : Nat) (tk : Nat → Int32) (gF : Nat → Nat) (gA : Nat → Nat) (gB : Nat → Nat) (gS : Nat → Nat) (gW : Nat → Int32) (yk : Nat → Int32) (k : Int32) (P : Nat) (fo2 en2 : Nat) (F2 A2 B2 S2 : Nat → Nat) (W2 : Nat → Int32) (h0 : mwC n fr (fF, fA, fB, fS, fW) (rm2 k) = 0) (hq : (mwP n fr (fF, fA, fB, fS, fW)) = (fo2, en2, F2, A2, B2, S2, W2)) (hen : en2 ≤ 1073733632) (hfo : fo2 ≤ 8) (hS2 : ∀ i, i < fo2 → S2 i ≤ 1073733632) (hsp : spOf z a = nI P) (hP4 : P + 4 * (a + 1) ≤ tpN z a) (hLe : sb_Fit le) (hFr : sb_Fit fr) (hSk : sb_Fit sk) (ha : a ≤ 32) (hz : ∀ j, z j ≤ 127) (hn : n ≤ 65536) (sz : Nat) : Met l y_MD_load w_MD_load { frames := 3, cells := 0, slots := 0, locals := 120 } (va_Pc [.ref (bd 0), .int k] (xP (dC, dI) (tyM cm) (wsM bd cm th n fr a z le wy fo en fF fA fB fS fW sk pg ye ys yt yg yp tk gF gA gB gS gW yk) sz)) (xQi (dC, dI) (tyM cm) (va_A (wsM bd cm th n fr a z le wy fo en fF fA fB fS fW sk pg ye ys yt yg yp tk gF gA gB gS gW yk) sz) (wsM bd cm 0 n fr a z le (nI (mwC n fr (fF, fA, fB, fS, fW) (rm2 k))) fo2 en2 F2 A2 B2 S2 W2 (mkT (zf 4096 sk) le z P (en2 + 8192) a) (2 + wsum S2 fo2) (nI (nbN fr 24 4)) (nI (en2 + 8192 - 4096 + P)) (en2 + 8192) a fo2 (cpk fr tk n) (cpn F2 gF fo2) (cpn A2 gA fo2) (cpn B2 gB fo2) (cpn S2 gS fo2) (cpk W2 gW fo2) (cpk (mkT (zf 4096 sk) le z P (en2 + 8192) a) yk 4096)) (fun r => r = nI (2 + wsum S2 fo2))) 0 0 (va_A (wsM bd cm th n fr a z le wy fo en fF fA fB fS fW sk pg ye ys yt yg yp tk gF gA gB gS gW yk) sz) := by
  refine xof (cc := b_MD_load) (maxL := 4) (ret := (some .int)) (own := R_MD) (Qc := fun A => (xQi (dC, dI) (tyM cm) A (wsM bd cm 0 n fr a z le (nI (mwC n fr (fF, fA, fB, fS, fW) (rm2 k))) fo2 en2 F2 A2 B2 S2 W2 (mkT (zf 4096 sk) le z P (en2 + 8192) a) (2 + wsum S2 fo2) (nI (nbN fr 24 4)) (nI (en2 + 8192 - 4096 + P)) (en2 + 8192) a fo2 (cpk fr tk n) (cpn F2 gF fo2) (cpn A2 gA fo2) (cpn B2 gB fo2) (cpn S2 gS fo2) (cpk W2 gW fo2) (cpk (mkT (zf 4096 sk) le z P (en2 + 8192) a) yk 4096)) (fun r => r = nI (2 + wsum S2 fo2)))) (by decide) rfl rfl (Nat.le_of_ble_eq_true rfl) ?_ sz
  intro p e s m below meth c A C hnm hK hP hD hA hN hZ hS ls hl
  obtain ⟨hx, hb, hr, hml, hown, hts, hlocks⟩ := C
  have hl : lv_has ls 4 [(0, .ref (bd 0)), (1, .int k)] := hl
  have hSk2 : sb_Fit (mkT (zf 4096 sk) le z P (en2 + 8192) a) := mkT_fit (zf_fit hSk) hLe a
  have htl9 := tpN_le z a
  refine lv_aload_n hx hb d_MD_load_0 rfl (lv_at hl 0 rfl) ?_
  refine lv_iconst (v := 0) hx hb d_MD_load_1 (by decide) ?_
  refine va_put (D := (dC, dI)) (ci := 7) (v := .int 0) (ty := .int) (C := R_MD) (T := T_MD) (N := 28) hx hb hts i_MD t_MD k_MD n_MD hown hK hP hD hS 0 rfl rfl 0 (by decide) (hts _ wd_392) (fun _ h9 => h9) rfl (by decide +kernel) rfl rfl (Nat.le_of_ble_eq_true rfl) d_MD_load_2 (fun H locs hP hD hS => ?_)
  have hP : va_P (dC, dI) vwCl (wsM bd cm 0 n fr a z le wy fo en fF fA fB fS fW sk pg ye ys yt yg yp tk gF gA gB gS gW yk) H := hP
  have hD : va_D A (wsM bd cm 0 n fr a z le wy fo en fF fA fB fS fW sk pg ye ys yt yg yp tk gF gA gB gS gW yk) := hD
  refine lv_aload_n hx hb d_MD_load_5 rfl (lv_at hl 0 rfl) ?_
  refine lv_aload_n hx hb d_MD_load_6 rfl (lv_at hl 0 rfl) ?_
  refine lv_iload_n hx hb d_MD_load_7 rfl (lv_at hl 1 rfl) ?_
  refine lv_bipush (v := 32) hx hb d_MD_load_8 (by decide) ?_
  refine lv_icmp_le (tgt := 18) hx hb d_MD_load_10 (by decide) (fun c_1 => ?_) (fun c_1 => ?_)
  · skip
    refine lv_iload_n hx hb d_MD_load_18 rfl (lv_at hl 1 rfl) ?_
    refine xtopi (y := rm2 k) ((if_pos c_1).symm) ?_
    refine xcalli (va_runV (As := [.int (rm2 k)]) (rest := [.ref (bd 0)]) ⟨hx, hb, hml, hown, hts⟩ (m_wrong l dC dI bd cm 0 n fr a z le wy fo en fF fA fB fS fW sk pg ye ys yt yg yp tk gF gA gB gS gW yk (rm2 k) hn H.size) (cwV 1 hts (xgV wd_515 wd_517 wd_5 wd_22 wd_518) rfl rfl rfl (by decide +kernel) ⟨Nat.le_of_ble_eq_true rfl, Nat.le_of_ble_eq_true rfl⟩) (xpreV (q0 := 0) hK hN hZ hA hS hP hD rfl rfl) rfl rfl hl.1 rfl (lv_room (Nat.le_of_ble_eq_true rfl)) d_MD_load_19 ⟨Nat.zero_le _, Nat.zero_le _⟩) hD hS hA (fun r_2 H locs hr_2 hP hD hS => ?_)
    subst hr_2
    refine va_put (D := (dC, dI)) (ci := 7) (v := .int (nI (mwC n fr (fF, fA, fB, fS, fW) (rm2 k)))) (ty := .int) (C := R_MD) (T := T_MD) (N := 28) hx hb hts i_MD t_MD k_MD n_MD hown hK hP hD hS 0 rfl rfl 6 (by decide) (hts _ wd_398) (fun _ h9 => h9) rfl (by decide +kernel) rfl rfl (Nat.le_of_ble_eq_true rfl) d_MD_load_22 (fun H locs hP hD hS => ?_)
    have hP : va_P (dC, dI) vwCl (wsM bd cm 0 n fr a z le (nI (mwC n fr (fF, fA, fB, fS, fW) (rm2 k))) ((mwP n fr (fF, fA, fB, fS, fW)).1) ((mwP n fr (fF, fA, fB, fS, fW)).2.1) ((mwP n fr (fF, fA, fB, fS, fW)).2.2.1) ((mwP n fr (fF, fA, fB, fS, fW)).2.2.2.1) ((mwP n fr (fF, fA, fB, fS, fW)).2.2.2.2.1) ((mwP n fr (fF, fA, fB, fS, fW)).2.2.2.2.2.1) ((mwP n fr (fF, fA, fB, fS, fW)).2.2.2.2.2.2) sk pg ye ys yt yg yp tk gF gA gB gS gW yk) H := hP
    have hD : va_D A (wsM bd cm 0 n fr a z le (nI (mwC n fr (fF, fA, fB, fS, fW) (rm2 k))) ((mwP n fr (fF, fA, fB, fS, fW)).1) ((mwP n fr (fF, fA, fB, fS, fW)).2.1) ((mwP n fr (fF, fA, fB, fS, fW)).2.2.1) ((mwP n fr (fF, fA, fB, fS, fW)).2.2.2.1) ((mwP n fr (fF, fA, fB, fS, fW)).2.2.2.2.1) ((mwP n fr (fF, fA, fB, fS, fW)).2.2.2.2.2.1) ((mwP n fr (fF, fA, fB, fS, fW)).2.2.2.2.2.2) sk pg ye ys yt yg yp tk gF gA gB gS gW yk) := hD
    have hP : va_P (dC, dI) vwCl (wsM bd cm 0 n fr a z le (nI (mwC n fr (fF, fA, fB, fS, fW) (rm2 k))) fo2 en2 F2 A2 B2 S2 W2 sk pg ye ys yt yg yp tk gF gA gB gS gW yk) H := by rw [hq] at hP; exact hP
    have hD : va_D A (wsM bd cm 0 n fr a z le (nI (mwC n fr (fF, fA, fB, fS, fW) (rm2 k))) fo2 en2 F2 A2 B2 S2 W2 sk pg ye ys yt yg yp tk gF gA gB gS gW yk) := by rw [hq] at hD; exact hD
    refine lv_aload_n hx hb d_MD_load_25 rfl (lv_at hl 0 rfl) ?_
    refine va_get (D := (dC, dI)) (ci := 7) (v := .int (nI (mwC n fr (fF, fA, fB, fS, fW) (rm2 k)))) (C := R_MD) (T := T_MD) (N := 28) hx hb hts i_MD hown hK hP 0 rfl rfl 6 (by decide) (hts _ wd_398) (fun _ h9 => h9) rfl d_MD_load_26 ?_
    refine lv_if_ne (tgt := 48) hx hb d_MD_load_29 (by decide) (fun c_3 => ?_) (fun c_3 => ?_)
    · skip
      exact absurd (by rw [h0]; rfl) c_3
    · skip
      refine lv_aload_n hx hb d_MD_load_32 rfl (lv_at hl 0 rfl) ?_
      refine lv_aload_n hx hb d_MD_load_33 rfl (lv_at hl 0 rfl) ?_
      refine va_get (D := (dC, dI)) (ci := 7) (v := .long (lN en2)) (C := R_MD) (T := T_MD) (N := 28) hx hb hts i_MD hown hK hP 0 rfl rfl 8 (by decide) (hts _ wd_400) (fun _ h9 => h9) rfl d_MD_load_34 ?_
      refine lv_l2i hx hb d_MD_load_37 rfl ?_
      refine xtopi (y := nI en2) (lN_i (en2)) ?_
      refine lv_sipush (v := 8192) hx hb d_MD_load_38 (by decide) ?_
      refine lv_iadd hx hb d_MD_load_41 ?_
      refine xtopi (y := nI (en2 + 8192)) (nI_add (en2) (8192)) ?_
      refine xcalli (va_runV (As := [.int (nI (en2 + 8192))]) (rest := []) ⟨hx, hb, hml, hown, hts⟩ (m_laid0 l dC dI bd cm 0 n fr a z le (nI (mwC n fr (fF, fA, fB, fS, fW) (rm2 k))) fo2 en2 F2 A2 B2 S2 W2 sk pg ye ys yt yg yp tk gF gA gB gS gW yk (en2 + 8192) P (by omega) (by omega) hsp hP4 hLe ha hz H.size) (cwV 1 hts (xgV wd_561 wd_563 wd_11 wd_22 wd_564) rfl rfl rfl (by decide +kernel) ⟨Nat.le_of_ble_eq_true rfl, Nat.le_of_ble_eq_true rfl⟩) (xpreV (q0 := 0) hK hN hZ hA hS hP hD rfl rfl) rfl rfl hl.1 rfl (lv_room (Nat.le_of_ble_eq_true rfl)) d_MD_load_42 ⟨Nat.zero_le _, Nat.zero_le _⟩) hD hS hA (fun r_4 H locs hr_4 hP hD hS => ?_)
      subst hr_4
      refine lv_goto (tgt := 49) hx hb d_MD_load_45 (by decide) ?_
      refine lv_istore_n (lv' := [(2, .int (nI (en2 + 8192 - 4096 + P))), (0, .ref (bd 0)), (1, .int k)]) hx hb d_MD_load_49 rfl hl (by decide) rfl (fun ls hl => ?_)
      refine lv_aload_n hx hb d_MD_load_50 rfl (lv_at hl 1 rfl) ?_
      refine lv_aload_n hx hb d_MD_load_51 rfl (lv_at hl 1 rfl) ?_
      refine va_get (D := (dC, dI)) (ci := 7) (v := .int (nI (mwC n fr (fF, fA, fB, fS, fW) (rm2 k)))) (C := R_MD) (T := T_MD) (N := 28) hx hb hts i_MD hown hK hP 0 rfl rfl 6 (by decide) (hts _ wd_398) (fun _ h9 => h9) rfl d_MD_load_52 ?_
      refine lv_if_ne (tgt := 67) hx hb d_MD_load_55 (by decide) (fun c_5 => ?_) (fun c_5 => ?_)
      · skip
        exact absurd (by rw [h0]; rfl) c_5
      · skip
        refine lv_iload_n hx hb d_MD_load_58 rfl (lv_at hl 0 rfl) ?_
        refine lv_if_ge (tgt := 67) hx hb d_MD_load_59 (by decide) (fun c_6 => ?_) (fun c_6 => ?_)
        · skip
          have c_6 : 0 ≤ en2 + 8192 - 4096 + P := (nI_leI (a := 0) (b := en2 + 8192 - 4096 + P) (by omega) (by omega)).mp c_6
          refine lv_aload_n hx hb d_MD_load_67 rfl (lv_at hl 1 rfl) ?_
          refine va_get (D := (dC, dI)) (ci := 7) (v := .int (nI (mwC n fr (fF, fA, fB, fS, fW) (rm2 k)))) (C := R_MD) (T := T_MD) (N := 28) hx hb hts i_MD hown hK hP 0 rfl rfl 6 (by decide) (hts _ wd_398) (fun _ h9 => h9) rfl d_MD_load_68 ?_
          refine va_put (D := (dC, dI)) (ci := 7) (v := .int (nI (mwC n fr (fF, fA, fB, fS, fW) (rm2 k)))) (ty := .int) (C := R_MD) (T := T_MD) (N := 28) hx hb hts i_MD t_MD k_MD n_MD hown hK hP hD hS 0 rfl rfl 6 (by decide) (hts _ wd_398) (fun _ h9 => h9) rfl (by decide +kernel) rfl rfl (Nat.le_of_ble_eq_true rfl) d_MD_load_71 (fun H locs hP hD hS => ?_)
          have hP : va_P (dC, dI) vwCl (wsM bd cm 0 n fr a z le (nI (mwC n fr (fF, fA, fB, fS, fW) (rm2 k))) fo2 en2 F2 A2 B2 S2 W2 (mkT (zf 4096 sk) le z P (en2 + 8192) a) pg ye ys yt yg yp tk gF gA gB gS gW yk) H := hP
          have hD : va_D A (wsM bd cm 0 n fr a z le (nI (mwC n fr (fF, fA, fB, fS, fW) (rm2 k))) fo2 en2 F2 A2 B2 S2 W2 (mkT (zf 4096 sk) le z P (en2 + 8192) a) pg ye ys yt yg yp tk gF gA gB gS gW yk) := hD
          refine lv_aload_n hx hb d_MD_load_74 rfl (lv_at hl 1 rfl) ?_
          refine va_get (D := (dC, dI)) (ci := 7) (v := .int (nI (mwC n fr (fF, fA, fB, fS, fW) (rm2 k)))) (C := R_MD) (T := T_MD) (N := 28) hx hb hts i_MD hown hK hP 0 rfl rfl 6 (by decide) (hts _ wd_398) (fun _ h9 => h9) rfl d_MD_load_75 ?_
          refine lv_if_le (tgt := 83) hx hb d_MD_load_78 (by decide) (fun c_7 => ?_) (fun c_7 => ?_)
          · skip
            refine lv_aload_n hx hb d_MD_load_83 rfl (lv_at hl 1 rfl) ?_
            refine lv_aload_n hx hb d_MD_load_84 rfl (lv_at hl 1 rfl) ?_
            refine lv_ldc2 (v := 24) hx hb hown (hts _ wd_552) d_MD_load_85 ?_
            refine lv_iconst (v := 4) hx hb d_MD_load_88 (by decide) ?_
            refine xcalll (va_runV (As := [.long 24, .int 4]) (rest := [.ref (bd 0)]) ⟨hx, hb, hml, hown, hts⟩ (m_number4 l dC dI bd cm 0 n fr a z le (nI (mwC n fr (fF, fA, fB, fS, fW) (rm2 k))) fo2 en2 F2 A2 B2 S2 W2 (mkT (zf 4096 sk) le z P (en2 + 8192) a) pg ye ys yt yg yp tk gF gA gB gS gW yk 24 (by omega) H.size) (cwV 2 hts (xgV wd_523 wd_525 wd_7 wd_22 wd_526) rfl rfl rfl (by decide +kernel) ⟨Nat.le_of_ble_eq_true rfl, Nat.le_of_ble_eq_true rfl⟩) (xpreV (q0 := 0) hK hN hZ hA hS hP hD rfl rfl) rfl rfl hl.1 rfl (lv_room (Nat.le_of_ble_eq_true rfl)) d_MD_load_89 ⟨Nat.zero_le _, Nat.zero_le _⟩) hD hS hA (fun r_8 H locs hr_8 hP hD hS => ?_)
            subst hr_8
            refine lv_l2i hx hb d_MD_load_92 rfl ?_
            refine xtopi (y := nI (nbN fr 24 4)) (lN_i (nbN fr 24 4)) ?_
            refine va_put (D := (dC, dI)) (ci := 7) (v := .int (nI (nbN fr 24 4))) (ty := .int) (C := R_MD) (T := T_MD) (N := 28) hx hb hts i_MD t_MD k_MD n_MD hown hK hP hD hS 0 rfl rfl 16 (by decide) (hts _ wd_408) (fun _ h9 => h9) rfl (by decide +kernel) rfl rfl (Nat.le_of_ble_eq_true rfl) d_MD_load_93 (fun H locs hP hD hS => ?_)
            have hP : va_P (dC, dI) vwCl (wsM bd cm 0 n fr a z le (nI (mwC n fr (fF, fA, fB, fS, fW) (rm2 k))) fo2 en2 F2 A2 B2 S2 W2 (mkT (zf 4096 sk) le z P (en2 + 8192) a) pg (nI (nbN fr 24 4)) ys yt yg yp tk gF gA gB gS gW yk) H := hP
            have hD : va_D A (wsM bd cm 0 n fr a z le (nI (mwC n fr (fF, fA, fB, fS, fW) (rm2 k))) fo2 en2 F2 A2 B2 S2 W2 (mkT (zf 4096 sk) le z P (en2 + 8192) a) pg (nI (nbN fr 24 4)) ys yt yg yp tk gF gA gB gS gW yk) := hD
            refine lv_aload_n hx hb d_MD_load_96 rfl (lv_at hl 1 rfl) ?_
            refine lv_iload_n hx hb d_MD_load_97 rfl (lv_at hl 0 rfl) ?_
            refine va_put (D := (dC, dI)) (ci := 7) (v := .int (nI (en2 + 8192 - 4096 + P))) (ty := .int) (C := R_MD) (T := T_MD) (N := 28) hx hb hts i_MD t_MD k_MD n_MD hown hK hP hD hS 0 rfl rfl 17 (by decide) (hts _ wd_409) (fun _ h9 => h9) rfl (by decide +kernel) rfl rfl (Nat.le_of_ble_eq_true rfl) d_MD_load_98 (fun H locs hP hD hS => ?_)
            have hP : va_P (dC, dI) vwCl (wsM bd cm 0 n fr a z le (nI (mwC n fr (fF, fA, fB, fS, fW) (rm2 k))) fo2 en2 F2 A2 B2 S2 W2 (mkT (zf 4096 sk) le z P (en2 + 8192) a) pg (nI (nbN fr 24 4)) (nI (en2 + 8192 - 4096 + P)) yt yg yp tk gF gA gB gS gW yk) H := hP
            have hD : va_D A (wsM bd cm 0 n fr a z le (nI (mwC n fr (fF, fA, fB, fS, fW) (rm2 k))) fo2 en2 F2 A2 B2 S2 W2 (mkT (zf 4096 sk) le z P (en2 + 8192) a) pg (nI (nbN fr 24 4)) (nI (en2 + 8192 - 4096 + P)) yt yg yp tk gF gA gB gS gW yk) := hD
            refine lv_aload_n hx hb d_MD_load_101 rfl (lv_at hl 1 rfl) ?_
            refine lv_aload_n hx hb d_MD_load_102 rfl (lv_at hl 1 rfl) ?_
            refine va_get (D := (dC, dI)) (ci := 7) (v := .long (lN en2)) (C := R_MD) (T := T_MD) (N := 28) hx hb hts i_MD hown hK hP 0 rfl rfl 8 (by decide) (hts _ wd_400) (fun _ h9 => h9) rfl d_MD_load_103 ?_
            refine lv_l2i hx hb d_MD_load_106 rfl ?_
            refine xtopi (y := nI en2) (lN_i (en2)) ?_
            refine lv_sipush (v := 8192) hx hb d_MD_load_107 (by decide) ?_
            refine lv_iadd hx hb d_MD_load_110 ?_
            refine xtopi (y := nI (en2 + 8192)) (nI_add (en2) (8192)) ?_
            refine va_put (D := (dC, dI)) (ci := 7) (v := .int (nI (en2 + 8192))) (ty := .int) (C := R_MD) (T := T_MD) (N := 28) hx hb hts i_MD t_MD k_MD n_MD hown hK hP hD hS 0 rfl rfl 18 (by decide) (hts _ wd_410) (fun _ h9 => h9) rfl (by decide +kernel) rfl rfl (Nat.le_of_ble_eq_true rfl) d_MD_load_111 (fun H locs hP hD hS => ?_)
            have hP : va_P (dC, dI) vwCl (wsM bd cm 0 n fr a z le (nI (mwC n fr (fF, fA, fB, fS, fW) (rm2 k))) fo2 en2 F2 A2 B2 S2 W2 (mkT (zf 4096 sk) le z P (en2 + 8192) a) pg (nI (nbN fr 24 4)) (nI (en2 + 8192 - 4096 + P)) (en2 + 8192) yg yp tk gF gA gB gS gW yk) H := hP
            have hD : va_D A (wsM bd cm 0 n fr a z le (nI (mwC n fr (fF, fA, fB, fS, fW) (rm2 k))) fo2 en2 F2 A2 B2 S2 W2 (mkT (zf 4096 sk) le z P (en2 + 8192) a) pg (nI (nbN fr 24 4)) (nI (en2 + 8192 - 4096 + P)) (en2 + 8192) yg yp tk gF gA gB gS gW yk) := hD
            refine lv_aload_n hx hb d_MD_load_114 rfl (lv_at hl 1 rfl) ?_
            refine lv_aload_n hx hb d_MD_load_115 rfl (lv_at hl 1 rfl) ?_
            refine va_get (D := (dC, dI)) (ci := 7) (v := .int (nI a)) (C := R_MD) (T := T_MD) (N := 28) hx hb hts i_MD hown hK hP 0 rfl rfl 3 (by decide) (hts _ wd_395) (fun _ h9 => h9) rfl d_MD_load_116 ?_
            refine va_put (D := (dC, dI)) (ci := 7) (v := .int (nI a)) (ty := .int) (C := R_MD) (T := T_MD) (N := 28) hx hb hts i_MD t_MD k_MD n_MD hown hK hP hD hS 0 rfl rfl 19 (by decide) (hts _ wd_411) (fun _ h9 => h9) rfl (by decide +kernel) rfl rfl (Nat.le_of_ble_eq_true rfl) d_MD_load_119 (fun H locs hP hD hS => ?_)
            have hP : va_P (dC, dI) vwCl (wsM bd cm 0 n fr a z le (nI (mwC n fr (fF, fA, fB, fS, fW) (rm2 k))) fo2 en2 F2 A2 B2 S2 W2 (mkT (zf 4096 sk) le z P (en2 + 8192) a) pg (nI (nbN fr 24 4)) (nI (en2 + 8192 - 4096 + P)) (en2 + 8192) a yp tk gF gA gB gS gW yk) H := hP
            have hD : va_D A (wsM bd cm 0 n fr a z le (nI (mwC n fr (fF, fA, fB, fS, fW) (rm2 k))) fo2 en2 F2 A2 B2 S2 W2 (mkT (zf 4096 sk) le z P (en2 + 8192) a) pg (nI (nbN fr 24 4)) (nI (en2 + 8192 - 4096 + P)) (en2 + 8192) a yp tk gF gA gB gS gW yk) := hD
            refine lv_aload_n hx hb d_MD_load_122 rfl (lv_at hl 1 rfl) ?_
            refine lv_aload_n hx hb d_MD_load_123 rfl (lv_at hl 1 rfl) ?_
            refine xcalli (va_runV (As := []) (rest := [.ref (bd 0)]) ⟨hx, hb, hml, hown, hts⟩ (m_wanted l dC dI bd cm 0 n fr a z le (nI (mwC n fr (fF, fA, fB, fS, fW) (rm2 k))) fo2 en2 F2 A2 B2 S2 W2 (mkT (zf 4096 sk) le z P (en2 + 8192) a) pg (nI (nbN fr 24 4)) (nI (en2 + 8192 - 4096 + P)) (en2 + 8192) a yp tk gF gA gB gS gW yk hfo hS2 H.size) (cwV 0 hts (xgV wd_557 wd_559 wd_10 wd_22 wd_560) rfl rfl rfl (by decide +kernel) ⟨Nat.le_of_ble_eq_true rfl, Nat.le_of_ble_eq_true rfl⟩) (xpreV (q0 := 0) hK hN hZ hA hS hP hD rfl rfl) rfl rfl hl.1 rfl (lv_room (Nat.le_of_ble_eq_true rfl)) d_MD_load_124 ⟨Nat.zero_le _, Nat.zero_le _⟩) hD hS hA (fun r_9 H locs hr_9 hP hD hS => ?_)
            subst hr_9
            refine va_put (D := (dC, dI)) (ci := 7) (v := .int (nI (2 + wsum S2 fo2))) (ty := .int) (C := R_MD) (T := T_MD) (N := 28) hx hb hts i_MD t_MD k_MD n_MD hown hK hP hD hS 0 rfl rfl 15 (by decide) (hts _ wd_407) (fun _ h9 => h9) rfl (by decide +kernel) rfl rfl (Nat.le_of_ble_eq_true rfl) d_MD_load_127 (fun H locs hP hD hS => ?_)
            have hP : va_P (dC, dI) vwCl (wsM bd cm 0 n fr a z le (nI (mwC n fr (fF, fA, fB, fS, fW) (rm2 k))) fo2 en2 F2 A2 B2 S2 W2 (mkT (zf 4096 sk) le z P (en2 + 8192) a) (2 + wsum S2 fo2) (nI (nbN fr 24 4)) (nI (en2 + 8192 - 4096 + P)) (en2 + 8192) a yp tk gF gA gB gS gW yk) H := hP
            have hD : va_D A (wsM bd cm 0 n fr a z le (nI (mwC n fr (fF, fA, fB, fS, fW) (rm2 k))) fo2 en2 F2 A2 B2 S2 W2 (mkT (zf 4096 sk) le z P (en2 + 8192) a) (2 + wsum S2 fo2) (nI (nbN fr 24 4)) (nI (en2 + 8192 - 4096 + P)) (en2 + 8192) a yp tk gF gA gB gS gW yk) := hD
            refine lv_aload_n hx hb d_MD_load_130 rfl (lv_at hl 1 rfl) ?_
            refine lv_aload_n hx hb d_MD_load_131 rfl (lv_at hl 1 rfl) ?_
            refine va_get (D := (dC, dI)) (ci := 7) (v := .int (nI fo2)) (C := R_MD) (T := T_MD) (N := 28) hx hb hts i_MD hown hK hP 0 rfl rfl 7 (by decide) (hts _ wd_399) (fun _ h9 => h9) rfl d_MD_load_132 ?_
            refine va_put (D := (dC, dI)) (ci := 7) (v := .int (nI fo2)) (ty := .int) (C := R_MD) (T := T_MD) (N := 28) hx hb hts i_MD t_MD k_MD n_MD hown hK hP hD hS 0 rfl rfl 20 (by decide) (hts _ wd_412) (fun _ h9 => h9) rfl (by decide +kernel) rfl rfl (Nat.le_of_ble_eq_true rfl) d_MD_load_135 (fun H locs hP hD hS => ?_)
            have hP : va_P (dC, dI) vwCl (wsM bd cm 0 n fr a z le (nI (mwC n fr (fF, fA, fB, fS, fW) (rm2 k))) fo2 en2 F2 A2 B2 S2 W2 (mkT (zf 4096 sk) le z P (en2 + 8192) a) (2 + wsum S2 fo2) (nI (nbN fr 24 4)) (nI (en2 + 8192 - 4096 + P)) (en2 + 8192) a fo2 tk gF gA gB gS gW yk) H := hP
            have hD : va_D A (wsM bd cm 0 n fr a z le (nI (mwC n fr (fF, fA, fB, fS, fW) (rm2 k))) fo2 en2 F2 A2 B2 S2 W2 (mkT (zf 4096 sk) le z P (en2 + 8192) a) (2 + wsum S2 fo2) (nI (nbN fr 24 4)) (nI (en2 + 8192 - 4096 + P)) (en2 + 8192) a fo2 tk gF gA gB gS gW yk) := hD
            refine lv_iconst (v := 0) hx hb d_MD_load_138 (by decide) ?_
            refine lv_istore_n (lv' := [(3, .int 0), (2, .int (nI (en2 + 8192 - 4096 + P))), (0, .ref (bd 0)), (1, .int k)]) hx hb d_MD_load_139 rfl hl (by decide) rfl (fun ls hl => ?_)
            have lp140 : ∀ (fu140 : Nat) (t : Nat), (n - t < fu140) → (t ≤ n) → ∀ (H : Heap) (locs : List Loc), va_P (dC, dI) vwCl (wsM bd cm 0 n fr a z le (nI (mwC n fr (fF, fA, fB, fS, fW) (rm2 k))) fo2 en2 F2 A2 B2 S2 W2 (mkT (zf 4096 sk) le z P (en2 + 8192) a) (2 + wsum S2 fo2) (nI (nbN fr 24 4)) (nI (en2 + 8192 - 4096 + P)) (en2 + 8192) a fo2 (cpk fr tk t) gF gA gB gS gW yk) H → va_D A (wsM bd cm 0 n fr a z le (nI (mwC n fr (fF, fA, fB, fS, fW) (rm2 k))) fo2 en2 F2 A2 B2 S2 W2 (mkT (zf 4096 sk) le z P (en2 + 8192) a) (2 + wsum S2 fo2) (nI (nbN fr 24 4)) (nI (en2 + 8192 - 4096 + P)) (en2 + 8192) a fo2 (cpk fr tk t) gF gA gB gS gW yk) → va_S A s.heap H locs → ∀ ls : Array Slot, lv_has ls 4 [(0, .ref (bd 0)), (1, .int k), (2, .int (nI (en2 + 8192 - 4096 + P))), (3, .int (nI t))] → W p l e { frames := 3, cells := 0, slots := 0, locals := 120 } s m [.ref (bd 0), .int k].toArray below meth c H locs 0 0 (MQ below (xQi (dC, dI) (tyM cm) A (wsM bd cm 0 n fr a z le (nI (mwC n fr (fF, fA, fB, fS, fW) (rm2 k))) fo2 en2 F2 A2 B2 S2 W2 (mkT (zf 4096 sk) le z P (en2 + 8192) a) (2 + wsum S2 fo2) (nI (nbN fr 24 4)) (nI (en2 + 8192 - 4096 + P)) (en2 + 8192) a fo2 (cpk fr tk n) (cpn F2 gF fo2) (cpn A2 gA fo2) (cpn B2 gB fo2) (cpn S2 gS fo2) (cpk W2 gW fo2) (cpk (mkT (zf 4096 sk) le z P (en2 + 8192) a) yk 4096)) (fun r => r = nI (2 + wsum S2 fo2))) [.ref (bd 0), .int k].toArray s 0 0 A) (F0 m 140 ls []) := by
              intro fu140
              induction fu140 with
              | zero => intro t hfu140; exact absurd hfu140 (Nat.not_lt_zero _)
              | succ fu140 ih140 =>
                intro t hfu140 ht H locs hP hD hS ls hl
                refine lv_iload_n hx hb d_MD_load_140 rfl (lv_at hl 3 rfl) ?_
                refine lv_aload_n hx hb d_MD_load_141 rfl (lv_at hl 0 rfl) ?_
                refine va_get (D := (dC, dI)) (ci := 7) (v := .int (nI n)) (C := R_MD) (T := T_MD) (N := 28) hx hb hts i_MD hown hK hP 0 rfl rfl 1 (by decide) (hts _ wd_393) (fun _ h9 => h9) rfl d_MD_load_142 ?_
                refine lv_icmp_ge (tgt := 166) hx hb d_MD_load_145 (by decide) (fun c_10 => ?_) (fun c_10 => ?_)
                · skip
                  have c_10 : n ≤ t := (nI_leI (a := n) (b := t) (by omega) (by omega)).mp c_10
                  have e5 : t = n := by omega
                  rw [e5] at hP hD
                  have hl := lv_sub hl [0, 1, 2] rfl
                  have hl : lv_has ls 4 [(0, .ref (bd 0)), (1, .int k), (2, .int (nI (en2 + 8192 - 4096 + P)))] := hl
                  refine lv_iconst (v := 0) hx hb d_MD_load_166 (by decide) ?_
                  refine lv_istore_n (lv' := [(3, .int 0), (0, .ref (bd 0)), (1, .int k), (2, .int (nI (en2 + 8192 - 4096 + P)))]) hx hb d_MD_load_167 rfl hl (by decide) rfl (fun ls hl => ?_)
                  have lp168 : ∀ (fu168 : Nat) (t : Nat), (fo2 - t < fu168) → (t ≤ fo2) → ∀ (H : Heap) (locs : List Loc), va_P (dC, dI) vwCl (wsM bd cm 0 n fr a z le (nI (mwC n fr (fF, fA, fB, fS, fW) (rm2 k))) fo2 en2 F2 A2 B2 S2 W2 (mkT (zf 4096 sk) le z P (en2 + 8192) a) (2 + wsum S2 fo2) (nI (nbN fr 24 4)) (nI (en2 + 8192 - 4096 + P)) (en2 + 8192) a fo2 (cpk fr tk n) (cpn F2 gF t) (cpn A2 gA t) (cpn B2 gB t) (cpn S2 gS t) (cpk W2 gW t) yk) H → va_D A (wsM bd cm 0 n fr a z le (nI (mwC n fr (fF, fA, fB, fS, fW) (rm2 k))) fo2 en2 F2 A2 B2 S2 W2 (mkT (zf 4096 sk) le z P (en2 + 8192) a) (2 + wsum S2 fo2) (nI (nbN fr 24 4)) (nI (en2 + 8192 - 4096 + P)) (en2 + 8192) a fo2 (cpk fr tk n) (cpn F2 gF t) (cpn A2 gA t) (cpn B2 gB t) (cpn S2 gS t) (cpk W2 gW t) yk) → va_S A s.heap H locs → ∀ ls : Array Slot, lv_has ls 4 [(0, .ref (bd 0)), (1, .int k), (2, .int (nI (en2 + 8192 - 4096 + P))), (3, .int (nI t))] → W p l e { frames := 3, cells := 0, slots := 0, locals := 120 } s m [.ref (bd 0), .int k].toArray below meth c H locs 0 0 (MQ below (xQi (dC, dI) (tyM cm) A (wsM bd cm 0 n fr a z le (nI (mwC n fr (fF, fA, fB, fS, fW) (rm2 k))) fo2 en2 F2 A2 B2 S2 W2 (mkT (zf 4096 sk) le z P (en2 + 8192) a) (2 + wsum S2 fo2) (nI (nbN fr 24 4)) (nI (en2 + 8192 - 4096 + P)) (en2 + 8192) a fo2 (cpk fr tk n) (cpn F2 gF fo2) (cpn A2 gA fo2) (cpn B2 gB fo2) (cpn S2 gS fo2) (cpk W2 gW fo2) (cpk (mkT (zf 4096 sk) le z P (en2 + 8192) a) yk 4096)) (fun r => r = nI (2 + wsum S2 fo2))) [.ref (bd 0), .int k].toArray s 0 0 A) (F0 m 168 ls []) := by
                    intro fu168
                    induction fu168 with
                    | zero => intro t hfu168; exact absurd hfu168 (Nat.not_lt_zero _)
                    | succ fu168 ih168 =>
                      intro t hfu168 ht H locs hP hD hS ls hl
                      refine lv_iload_n hx hb d_MD_load_168 rfl (lv_at hl 3 rfl) ?_
                      refine lv_aload_n hx hb d_MD_load_169 rfl (lv_at hl 0 rfl) ?_
                      refine va_get (D := (dC, dI)) (ci := 7) (v := .int (nI fo2)) (C := R_MD) (T := T_MD) (N := 28) hx hb hts i_MD hown hK hP 0 rfl rfl 7 (by decide) (hts _ wd_399) (fun _ h9 => h9) rfl d_MD_load_170 ?_
                      refine lv_icmp_ge (tgt := 242) hx hb d_MD_load_173 (by decide) (fun c_11 => ?_) (fun c_11 => ?_)
                      · skip
                        have c_11 : fo2 ≤ t := (nI_leI (a := fo2) (b := t) (by omega) (by omega)).mp c_11
                        have e5 : t = fo2 := by omega
                        rw [e5] at hP hD
                        have hl := lv_sub hl [0, 1, 2] rfl
                        have hl : lv_has ls 4 [(0, .ref (bd 0)), (1, .int k), (2, .int (nI (en2 + 8192 - 4096 + P)))] := hl
                        refine lv_iconst (v := 0) hx hb d_MD_load_242 (by decide) ?_
                        refine lv_istore_n (lv' := [(3, .int 0), (0, .ref (bd 0)), (1, .int k), (2, .int (nI (en2 + 8192 - 4096 + P)))]) hx hb d_MD_load_243 rfl hl (by decide) rfl (fun ls hl => ?_)
                        have lp244 : ∀ (fu244 : Nat) (t : Nat), (4096 - t < fu244) → (t ≤ 4096) → ∀ (H : Heap) (locs : List Loc), va_P (dC, dI) vwCl (wsM bd cm 0 n fr a z le (nI (mwC n fr (fF, fA, fB, fS, fW) (rm2 k))) fo2 en2 F2 A2 B2 S2 W2 (mkT (zf 4096 sk) le z P (en2 + 8192) a) (2 + wsum S2 fo2) (nI (nbN fr 24 4)) (nI (en2 + 8192 - 4096 + P)) (en2 + 8192) a fo2 (cpk fr tk n) (cpn F2 gF fo2) (cpn A2 gA fo2) (cpn B2 gB fo2) (cpn S2 gS fo2) (cpk W2 gW fo2) (cpk (mkT (zf 4096 sk) le z P (en2 + 8192) a) yk t)) H → va_D A (wsM bd cm 0 n fr a z le (nI (mwC n fr (fF, fA, fB, fS, fW) (rm2 k))) fo2 en2 F2 A2 B2 S2 W2 (mkT (zf 4096 sk) le z P (en2 + 8192) a) (2 + wsum S2 fo2) (nI (nbN fr 24 4)) (nI (en2 + 8192 - 4096 + P)) (en2 + 8192) a fo2 (cpk fr tk n) (cpn F2 gF fo2) (cpn A2 gA fo2) (cpn B2 gB fo2) (cpn S2 gS fo2) (cpk W2 gW fo2) (cpk (mkT (zf 4096 sk) le z P (en2 + 8192) a) yk t)) → va_S A s.heap H locs → ∀ ls : Array Slot, lv_has ls 4 [(0, .ref (bd 0)), (1, .int k), (2, .int (nI (en2 + 8192 - 4096 + P))), (3, .int (nI t))] → W p l e { frames := 3, cells := 0, slots := 0, locals := 120 } s m [.ref (bd 0), .int k].toArray below meth c H locs 0 0 (MQ below (xQi (dC, dI) (tyM cm) A (wsM bd cm 0 n fr a z le (nI (mwC n fr (fF, fA, fB, fS, fW) (rm2 k))) fo2 en2 F2 A2 B2 S2 W2 (mkT (zf 4096 sk) le z P (en2 + 8192) a) (2 + wsum S2 fo2) (nI (nbN fr 24 4)) (nI (en2 + 8192 - 4096 + P)) (en2 + 8192) a fo2 (cpk fr tk n) (cpn F2 gF fo2) (cpn A2 gA fo2) (cpn B2 gB fo2) (cpn S2 gS fo2) (cpk W2 gW fo2) (cpk (mkT (zf 4096 sk) le z P (en2 + 8192) a) yk 4096)) (fun r => r = nI (2 + wsum S2 fo2))) [.ref (bd 0), .int k].toArray s 0 0 A) (F0 m 244 ls []) := by
                          intro fu244
                          induction fu244 with
                          | zero => intro t hfu244; exact absurd hfu244 (Nat.not_lt_zero _)
                          | succ fu244 ih244 =>
                            intro t hfu244 ht H locs hP hD hS ls hl
                            refine lv_iload_n hx hb d_MD_load_244 rfl (lv_at hl 3 rfl) ?_
                            refine lv_sipush (v := 4096) hx hb d_MD_load_245 (by decide) ?_
                            refine lv_icmp_ge (tgt := 269) hx hb d_MD_load_248 (by decide) (fun c_12 => ?_) (fun c_12 => ?_)
                            · skip
                              have c_12 : 4096 ≤ t := (nI_leI (a := 4096) (b := t) (by omega) (by omega)).mp c_12
                              have e5 : t = 4096 := by omega
                              rw [e5] at hP hD
                              have hl := lv_sub hl [0, 1, 2] rfl
                              have hl : lv_has ls 4 [(0, .ref (bd 0)), (1, .int k), (2, .int (nI (en2 + 8192 - 4096 + P)))] := hl
                              refine lv_aload_n hx hb d_MD_load_269 rfl (lv_at hl 0 rfl) ?_
                              refine va_get (D := (dC, dI)) (ci := 7) (v := .int (nI (2 + wsum S2 fo2))) (C := R_MD) (T := T_MD) (N := 28) hx hb hts i_MD hown hK hP 0 rfl rfl 15 (by decide) (hts _ wd_407) (fun _ h9 => h9) rfl d_MD_load_270 ?_
                              exact xreti (v := nI (2 + wsum S2 fo2)) hx hb hr hlocks hK hP hD hS (rfl) (rfl) d_MD_load_273
                            · skip
                              have c_12 : ¬ (4096 ≤ t) := fun h9 => c_12 ((nI_leI (a := 4096) (b := t) (by omega) (by omega)).mpr h9)
                              refine lv_aload_n hx hb d_MD_load_251 rfl (lv_at hl 0 rfl) ?_
                              refine va_get (D := (dC, dI)) (ci := 7) (v := .ref (bd 16)) (C := R_MD) (T := T_MD) (N := 28) hx hb hts i_MD hown hK hP 0 rfl rfl 27 (by decide) (hts _ wd_419) (fun _ h9 => h9) rfl d_MD_load_252 ?_
                              refine lv_iload_n hx hb d_MD_load_255 rfl (lv_at hl 3 rfl) ?_
                              refine lv_aload_n hx hb d_MD_load_256 rfl (lv_at hl 0 rfl) ?_
                              refine va_get (D := (dC, dI)) (ci := 7) (v := .ref (bd 9)) (C := R_MD) (T := T_MD) (N := 28) hx hb hts i_MD hown hK hP 0 rfl rfl 14 (by decide) (hts _ wd_406) (fun _ h9 => h9) rfl d_MD_load_257 ?_
                              refine lv_iload_n hx hb d_MD_load_260 rfl (lv_at hl 3 rfl) ?_
                              refine xbald (k := t) hx hb hK hP 9 0 rfl rfl (rfl) (by omega) (by decide) d_MD_load_261 ?_
                              refine xbast (k := t) (x' := (mkT (zf 4096 sk) le z P (en2 + 8192) a) t) (ws1 := wsM bd cm 0 n fr a z le (nI (mwC n fr (fF, fA, fB, fS, fW) (rm2 k))) fo2 en2 F2 A2 B2 S2 W2 (mkT (zf 4096 sk) le z P (en2 + 8192) a) (2 + wsum S2 fo2) (nI (nbN fr 24 4)) (nI (en2 + 8192 - 4096 + P)) (en2 + 8192) a fo2 (cpk fr tk n) (cpn F2 gF fo2) (cpn A2 gA fo2) (cpn B2 gB fo2) (cpn S2 gS fo2) (cpk W2 gW fo2) (upd (cpk (mkT (zf 4096 sk) le z P (en2 + 8192) a) yk t) t ((mkT (zf 4096 sk) le z P (en2 + 8192) a) t))) hx hb hK hP hD hS 16 0 rfl rfl (rfl) (by omega) (by decide) (fitnar (hSk2 _)) rfl d_MD_load_262 (fun H locs hP hD hS => ?_)
                              refine lv_iinc (v := nI (t + 1)) (lv' := [(3, .int (nI (t + 1))), (0, .ref (bd 0)), (1, .int k), (2, .int (nI (en2 + 8192 - 4096 + P)))]) hx hb d_MD_load_263 hl (k := 3) rfl (nI_1 _) (by decide) rfl (fun ls hl => ?_)
                              refine lv_goto (tgt := 244) hx hb d_MD_load_266 (by decide) ?_
                              have hw9 : wsM bd cm 0 n fr a z le (nI (mwC n fr (fF, fA, fB, fS, fW) (rm2 k))) fo2 en2 F2 A2 B2 S2 W2 (mkT (zf 4096 sk) le z P (en2 + 8192) a) (2 + wsum S2 fo2) (nI (nbN fr 24 4)) (nI (en2 + 8192 - 4096 + P)) (en2 + 8192) a fo2 (cpk fr tk n) (cpn F2 gF fo2) (cpn A2 gA fo2) (cpn B2 gB fo2) (cpn S2 gS fo2) (cpk W2 gW fo2) (upd (cpk (mkT (zf 4096 sk) le z P (en2 + 8192) a) yk t) t ((mkT (zf 4096 sk) le z P (en2 + 8192) a) t)) = wsM bd cm 0 n fr a z le (nI (mwC n fr (fF, fA, fB, fS, fW) (rm2 k))) fo2 en2 F2 A2 B2 S2 W2 (mkT (zf 4096 sk) le z P (en2 + 8192) a) (2 + wsum S2 fo2) (nI (nbN fr 24 4)) (nI (en2 + 8192 - 4096 + P)) (en2 + 8192) a fo2 (cpk fr tk n) (cpn F2 gF fo2) (cpn A2 gA fo2) (cpn B2 gB fo2) (cpn S2 gS fo2) (cpk W2 gW fo2) (cpk (mkT (zf 4096 sk) le z P (en2 + 8192) a) yk (t + 1)) := rfl
                              rw [hw9] at hP hD
                              exact ih244 (t + 1) (by omega) (by omega) _ _ hP hD hS _ (lv_sub hl [1, 2, 3, 0] rfl)
                        exact lp244 ((4096 - 0) + 1) 0 (Nat.lt_succ_self _) (by omega) _ _ hP hD hS _ (lv_sub hl [1, 2, 3, 0] rfl)
                      · skip
                        have c_11 : ¬ (fo2 ≤ t) := fun h9 => c_11 ((nI_leI (a := fo2) (b := t) (by omega) (by omega)).mpr h9)
                        refine lv_aload_n hx hb d_MD_load_176 rfl (lv_at hl 0 rfl) ?_
                        refine va_get (D := (dC, dI)) (ci := 7) (v := .ref (bd 11)) (C := R_MD) (T := T_MD) (N := 28) hx hb hts i_MD hown hK hP 0 rfl rfl 22 (by decide) (hts _ wd_414) (fun _ h9 => h9) rfl d_MD_load_177 ?_
                        refine lv_iload_n hx hb d_MD_load_180 rfl (lv_at hl 3 rfl) ?_
                        refine lv_aload_n hx hb d_MD_load_181 rfl (lv_at hl 0 rfl) ?_
                        refine va_get (D := (dC, dI)) (ci := 7) (v := .ref (bd 4)) (C := R_MD) (T := T_MD) (N := 28) hx hb hts i_MD hown hK hP 0 rfl rfl 9 (by decide) (hts _ wd_401) (fun _ h9 => h9) rfl d_MD_load_182 ?_
                        refine lv_iload_n hx hb d_MD_load_185 rfl (lv_at hl 3 rfl) ?_
                        refine xiald (k := t) hx hb hK hP 4 1 rfl rfl (rfl) (by omega) (by decide) d_MD_load_186 ?_
                        refine xiast (k := t) (ws1 := wsM bd cm 0 n fr a z le (nI (mwC n fr (fF, fA, fB, fS, fW) (rm2 k))) fo2 en2 F2 A2 B2 S2 W2 (mkT (zf 4096 sk) le z P (en2 + 8192) a) (2 + wsum S2 fo2) (nI (nbN fr 24 4)) (nI (en2 + 8192 - 4096 + P)) (en2 + 8192) a fo2 (cpk fr tk n) (upn (cpn F2 gF t) t (F2 t)) (cpn A2 gA t) (cpn B2 gB t) (cpn S2 gS t) (cpk W2 gW t) yk) hx hb hK hP hD hS 11 1 rfl rfl (rfl) (by omega) (by decide) wsM_put_gF d_MD_load_187 (fun H locs hP hD hS => ?_)
                        refine lv_aload_n hx hb d_MD_load_188 rfl (lv_at hl 0 rfl) ?_
                        refine va_get (D := (dC, dI)) (ci := 7) (v := .ref (bd 12)) (C := R_MD) (T := T_MD) (N := 28) hx hb hts i_MD hown hK hP 0 rfl rfl 23 (by decide) (hts _ wd_415) (fun _ h9 => h9) rfl d_MD_load_189 ?_
                        refine lv_iload_n hx hb d_MD_load_192 rfl (lv_at hl 3 rfl) ?_
                        refine lv_aload_n hx hb d_MD_load_193 rfl (lv_at hl 0 rfl) ?_
                        refine va_get (D := (dC, dI)) (ci := 7) (v := .ref (bd 5)) (C := R_MD) (T := T_MD) (N := 28) hx hb hts i_MD hown hK hP 0 rfl rfl 10 (by decide) (hts _ wd_402) (fun _ h9 => h9) rfl d_MD_load_194 ?_
                        refine lv_iload_n hx hb d_MD_load_197 rfl (lv_at hl 3 rfl) ?_
                        refine xiald (k := t) hx hb hK hP 5 1 rfl rfl (rfl) (by omega) (by decide) d_MD_load_198 ?_
                        refine xiast (k := t) (ws1 := wsM bd cm 0 n fr a z le (nI (mwC n fr (fF, fA, fB, fS, fW) (rm2 k))) fo2 en2 F2 A2 B2 S2 W2 (mkT (zf 4096 sk) le z P (en2 + 8192) a) (2 + wsum S2 fo2) (nI (nbN fr 24 4)) (nI (en2 + 8192 - 4096 + P)) (en2 + 8192) a fo2 (cpk fr tk n) (upn (cpn F2 gF t) t (F2 t)) (upn (cpn A2 gA t) t (A2 t)) (cpn B2 gB t) (cpn S2 gS t) (cpk W2 gW t) yk) hx hb hK hP hD hS 12 1 rfl rfl (rfl) (by omega) (by decide) wsM_put_gA d_MD_load_199 (fun H locs hP hD hS => ?_)
                        refine lv_aload_n hx hb d_MD_load_200 rfl (lv_at hl 0 rfl) ?_
                        refine va_get (D := (dC, dI)) (ci := 7) (v := .ref (bd 13)) (C := R_MD) (T := T_MD) (N := 28) hx hb hts i_MD hown hK hP 0 rfl rfl 24 (by decide) (hts _ wd_416) (fun _ h9 => h9) rfl d_MD_load_201 ?_
                        refine lv_iload_n hx hb d_MD_load_204 rfl (lv_at hl 3 rfl) ?_
                        refine lv_aload_n hx hb d_MD_load_205 rfl (lv_at hl 0 rfl) ?_
                        refine va_get (D := (dC, dI)) (ci := 7) (v := .ref (bd 6)) (C := R_MD) (T := T_MD) (N := 28) hx hb hts i_MD hown hK hP 0 rfl rfl 11 (by decide) (hts _ wd_403) (fun _ h9 => h9) rfl d_MD_load_206 ?_
                        refine lv_iload_n hx hb d_MD_load_209 rfl (lv_at hl 3 rfl) ?_
                        refine xiald (k := t) hx hb hK hP 6 1 rfl rfl (rfl) (by omega) (by decide) d_MD_load_210 ?_
                        refine xiast (k := t) (ws1 := wsM bd cm 0 n fr a z le (nI (mwC n fr (fF, fA, fB, fS, fW) (rm2 k))) fo2 en2 F2 A2 B2 S2 W2 (mkT (zf 4096 sk) le z P (en2 + 8192) a) (2 + wsum S2 fo2) (nI (nbN fr 24 4)) (nI (en2 + 8192 - 4096 + P)) (en2 + 8192) a fo2 (cpk fr tk n) (upn (cpn F2 gF t) t (F2 t)) (upn (cpn A2 gA t) t (A2 t)) (upn (cpn B2 gB t) t (B2 t)) (cpn S2 gS t) (cpk W2 gW t) yk) hx hb hK hP hD hS 13 1 rfl rfl (rfl) (by omega) (by decide) wsM_put_gB d_MD_load_211 (fun H locs hP hD hS => ?_)
                        refine lv_aload_n hx hb d_MD_load_212 rfl (lv_at hl 0 rfl) ?_
                        refine va_get (D := (dC, dI)) (ci := 7) (v := .ref (bd 14)) (C := R_MD) (T := T_MD) (N := 28) hx hb hts i_MD hown hK hP 0 rfl rfl 25 (by decide) (hts _ wd_417) (fun _ h9 => h9) rfl d_MD_load_213 ?_
                        refine lv_iload_n hx hb d_MD_load_216 rfl (lv_at hl 3 rfl) ?_
                        refine lv_aload_n hx hb d_MD_load_217 rfl (lv_at hl 0 rfl) ?_
                        refine va_get (D := (dC, dI)) (ci := 7) (v := .ref (bd 7)) (C := R_MD) (T := T_MD) (N := 28) hx hb hts i_MD hown hK hP 0 rfl rfl 12 (by decide) (hts _ wd_404) (fun _ h9 => h9) rfl d_MD_load_218 ?_
                        refine lv_iload_n hx hb d_MD_load_221 rfl (lv_at hl 3 rfl) ?_
                        refine xiald (k := t) hx hb hK hP 7 1 rfl rfl (rfl) (by omega) (by decide) d_MD_load_222 ?_
                        refine xiast (k := t) (ws1 := wsM bd cm 0 n fr a z le (nI (mwC n fr (fF, fA, fB, fS, fW) (rm2 k))) fo2 en2 F2 A2 B2 S2 W2 (mkT (zf 4096 sk) le z P (en2 + 8192) a) (2 + wsum S2 fo2) (nI (nbN fr 24 4)) (nI (en2 + 8192 - 4096 + P)) (en2 + 8192) a fo2 (cpk fr tk n) (upn (cpn F2 gF t) t (F2 t)) (upn (cpn A2 gA t) t (A2 t)) (upn (cpn B2 gB t) t (B2 t)) (upn (cpn S2 gS t) t (S2 t)) (cpk W2 gW t) yk) hx hb hK hP hD hS 14 1 rfl rfl (rfl) (by omega) (by decide) wsM_put_gS d_MD_load_223 (fun H locs hP hD hS => ?_)
                        refine lv_aload_n hx hb d_MD_load_224 rfl (lv_at hl 0 rfl) ?_
                        refine va_get (D := (dC, dI)) (ci := 7) (v := .ref (bd 15)) (C := R_MD) (T := T_MD) (N := 28) hx hb hts i_MD hown hK hP 0 rfl rfl 26 (by decide) (hts _ wd_418) (fun _ h9 => h9) rfl d_MD_load_225 ?_
                        refine lv_iload_n hx hb d_MD_load_228 rfl (lv_at hl 3 rfl) ?_
                        refine lv_aload_n hx hb d_MD_load_229 rfl (lv_at hl 0 rfl) ?_
                        refine va_get (D := (dC, dI)) (ci := 7) (v := .ref (bd 8)) (C := R_MD) (T := T_MD) (N := 28) hx hb hts i_MD hown hK hP 0 rfl rfl 13 (by decide) (hts _ wd_405) (fun _ h9 => h9) rfl d_MD_load_230 ?_
                        refine lv_iload_n hx hb d_MD_load_233 rfl (lv_at hl 3 rfl) ?_
                        refine xiald (k := t) hx hb hK hP 8 1 rfl rfl (rfl) (by omega) (by decide) d_MD_load_234 ?_
                        refine xiast (k := t) (ws1 := wsM bd cm 0 n fr a z le (nI (mwC n fr (fF, fA, fB, fS, fW) (rm2 k))) fo2 en2 F2 A2 B2 S2 W2 (mkT (zf 4096 sk) le z P (en2 + 8192) a) (2 + wsum S2 fo2) (nI (nbN fr 24 4)) (nI (en2 + 8192 - 4096 + P)) (en2 + 8192) a fo2 (cpk fr tk n) (upn (cpn F2 gF t) t (F2 t)) (upn (cpn A2 gA t) t (A2 t)) (upn (cpn B2 gB t) t (B2 t)) (upn (cpn S2 gS t) t (S2 t)) (upd (cpk W2 gW t) t (W2 t)) yk) hx hb hK hP hD hS 15 1 rfl rfl (rfl) (by omega) (by decide) rfl d_MD_load_235 (fun H locs hP hD hS => ?_)
                        refine lv_iinc (v := nI (t + 1)) (lv' := [(3, .int (nI (t + 1))), (0, .ref (bd 0)), (1, .int k), (2, .int (nI (en2 + 8192 - 4096 + P)))]) hx hb d_MD_load_236 hl (k := 3) rfl (nI_1 _) (by decide) rfl (fun ls hl => ?_)
                        refine lv_goto (tgt := 168) hx hb d_MD_load_239 (by decide) ?_
                        have hw9 : wsM bd cm 0 n fr a z le (nI (mwC n fr (fF, fA, fB, fS, fW) (rm2 k))) fo2 en2 F2 A2 B2 S2 W2 (mkT (zf 4096 sk) le z P (en2 + 8192) a) (2 + wsum S2 fo2) (nI (nbN fr 24 4)) (nI (en2 + 8192 - 4096 + P)) (en2 + 8192) a fo2 (cpk fr tk n) (upn (cpn F2 gF t) t (F2 t)) (upn (cpn A2 gA t) t (A2 t)) (upn (cpn B2 gB t) t (B2 t)) (upn (cpn S2 gS t) t (S2 t)) (upd (cpk W2 gW t) t (W2 t)) yk = wsM bd cm 0 n fr a z le (nI (mwC n fr (fF, fA, fB, fS, fW) (rm2 k))) fo2 en2 F2 A2 B2 S2 W2 (mkT (zf 4096 sk) le z P (en2 + 8192) a) (2 + wsum S2 fo2) (nI (nbN fr 24 4)) (nI (en2 + 8192 - 4096 + P)) (en2 + 8192) a fo2 (cpk fr tk n) (cpn F2 gF (t + 1)) (cpn A2 gA (t + 1)) (cpn B2 gB (t + 1)) (cpn S2 gS (t + 1)) (cpk W2 gW (t + 1)) yk := rfl
                        rw [hw9] at hP hD
                        exact ih168 (t + 1) (by omega) (by omega) _ _ hP hD hS _ (lv_sub hl [1, 2, 3, 0] rfl)
                  exact lp168 ((fo2 - 0) + 1) 0 (Nat.lt_succ_self _) (by omega) _ _ hP hD hS _ (lv_sub hl [1, 2, 3, 0] rfl)
                · skip
                  have c_10 : ¬ (n ≤ t) := fun h9 => c_10 ((nI_leI (a := n) (b := t) (by omega) (by omega)).mpr h9)
                  refine lv_aload_n hx hb d_MD_load_148 rfl (lv_at hl 0 rfl) ?_
                  refine va_get (D := (dC, dI)) (ci := 7) (v := .ref (bd 10)) (C := R_MD) (T := T_MD) (N := 28) hx hb hts i_MD hown hK hP 0 rfl rfl 21 (by decide) (hts _ wd_413) (fun _ h9 => h9) rfl d_MD_load_149 ?_
                  refine lv_iload_n hx hb d_MD_load_152 rfl (lv_at hl 3 rfl) ?_
                  refine lv_aload_n hx hb d_MD_load_153 rfl (lv_at hl 0 rfl) ?_
                  refine va_get (D := (dC, dI)) (ci := 7) (v := .ref (bd 1)) (C := R_MD) (T := T_MD) (N := 28) hx hb hts i_MD hown hK hP 0 rfl rfl 2 (by decide) (hts _ wd_394) (fun _ h9 => h9) rfl d_MD_load_154 ?_
                  refine lv_iload_n hx hb d_MD_load_157 rfl (lv_at hl 3 rfl) ?_
                  refine xbald (k := t) hx hb hK hP 1 0 rfl rfl (rfl) (by omega) (by decide) d_MD_load_158 ?_
                  refine xbast (k := t) (x' := fr t) (ws1 := wsM bd cm 0 n fr a z le (nI (mwC n fr (fF, fA, fB, fS, fW) (rm2 k))) fo2 en2 F2 A2 B2 S2 W2 (mkT (zf 4096 sk) le z P (en2 + 8192) a) (2 + wsum S2 fo2) (nI (nbN fr 24 4)) (nI (en2 + 8192 - 4096 + P)) (en2 + 8192) a fo2 (upd (cpk fr tk t) t (fr t)) gF gA gB gS gW yk) hx hb hK hP hD hS 10 0 rfl rfl (rfl) (by omega) (by decide) (fitnar (hFr _)) rfl d_MD_load_159 (fun H locs hP hD hS => ?_)
                  refine lv_iinc (v := nI (t + 1)) (lv' := [(3, .int (nI (t + 1))), (0, .ref (bd 0)), (1, .int k), (2, .int (nI (en2 + 8192 - 4096 + P)))]) hx hb d_MD_load_160 hl (k := 3) rfl (nI_1 _) (by decide) rfl (fun ls hl => ?_)
                  refine lv_goto (tgt := 140) hx hb d_MD_load_163 (by decide) ?_
                  have hw9 : wsM bd cm 0 n fr a z le (nI (mwC n fr (fF, fA, fB, fS, fW) (rm2 k))) fo2 en2 F2 A2 B2 S2 W2 (mkT (zf 4096 sk) le z P (en2 + 8192) a) (2 + wsum S2 fo2) (nI (nbN fr 24 4)) (nI (en2 + 8192 - 4096 + P)) (en2 + 8192) a fo2 (upd (cpk fr tk t) t (fr t)) gF gA gB gS gW yk = wsM bd cm 0 n fr a z le (nI (mwC n fr (fF, fA, fB, fS, fW) (rm2 k))) fo2 en2 F2 A2 B2 S2 W2 (mkT (zf 4096 sk) le z P (en2 + 8192) a) (2 + wsum S2 fo2) (nI (nbN fr 24 4)) (nI (en2 + 8192 - 4096 + P)) (en2 + 8192) a fo2 (cpk fr tk (t + 1)) gF gA gB gS gW yk := rfl
                  rw [hw9] at hP hD
                  exact ih140 (t + 1) (by omega) (by omega) _ _ hP hD hS _ (lv_sub hl [1, 2, 3, 0] rfl)
            exact lp140 ((n - 0) + 1) 0 (Nat.lt_succ_self _) (by omega) _ _ hP hD hS _ (lv_sub hl [2, 3, 1, 0] rfl)
          · skip
            exact absurd (by rw [h0]; decide) c_7
        · skip
          have c_6 : ¬ (0 ≤ en2 + 8192 - 4096 + P) := fun h9 => c_6 ((nI_leI (a := 0) (b := en2 + 8192 - 4096 + P) (by omega) (by omega)).mpr h9)
          exact absurd (Nat.zero_le _) c_6
  · skip
    refine lv_bipush (v := 32) hx hb d_MD_load_13 (by decide) ?_
    refine lv_goto (tgt := 19) hx hb d_MD_load_15 (by decide) ?_
    refine xtopi (y := rm2 k) ((if_neg c_1).symm) ?_
    refine xcalli (va_runV (As := [.int (rm2 k)]) (rest := [.ref (bd 0)]) ⟨hx, hb, hml, hown, hts⟩ (m_wrong l dC dI bd cm 0 n fr a z le wy fo en fF fA fB fS fW sk pg ye ys yt yg yp tk gF gA gB gS gW yk (rm2 k) hn H.size) (cwV 1 hts (xgV wd_515 wd_517 wd_5 wd_22 wd_518) rfl rfl rfl (by decide +kernel) ⟨Nat.le_of_ble_eq_true rfl, Nat.le_of_ble_eq_true rfl⟩) (xpreV (q0 := 0) hK hN hZ hA hS hP hD rfl rfl) rfl rfl hl.1 rfl (lv_room (Nat.le_of_ble_eq_true rfl)) d_MD_load_19 ⟨Nat.zero_le _, Nat.zero_le _⟩) hD hS hA (fun r_13 H locs hr_13 hP hD hS => ?_)
    subst hr_13
    refine va_put (D := (dC, dI)) (ci := 7) (v := .int (nI (mwC n fr (fF, fA, fB, fS, fW) (rm2 k)))) (ty := .int) (C := R_MD) (T := T_MD) (N := 28) hx hb hts i_MD t_MD k_MD n_MD hown hK hP hD hS 0 rfl rfl 6 (by decide) (hts _ wd_398) (fun _ h9 => h9) rfl (by decide +kernel) rfl rfl (Nat.le_of_ble_eq_true rfl) d_MD_load_22 (fun H locs hP hD hS => ?_)
    have hP : va_P (dC, dI) vwCl (wsM bd cm 0 n fr a z le (nI (mwC n fr (fF, fA, fB, fS, fW) (rm2 k))) ((mwP n fr (fF, fA, fB, fS, fW)).1) ((mwP n fr (fF, fA, fB, fS, fW)).2.1) ((mwP n fr (fF, fA, fB, fS, fW)).2.2.1) ((mwP n fr (fF, fA, fB, fS, fW)).2.2.2.1) ((mwP n fr (fF, fA, fB, fS, fW)).2.2.2.2.1) ((mwP n fr (fF, fA, fB, fS, fW)).2.2.2.2.2.1) ((mwP n fr (fF, fA, fB, fS, fW)).2.2.2.2.2.2) sk pg ye ys yt yg yp tk gF gA gB gS gW yk) H := hP
    have hD : va_D A (wsM bd cm 0 n fr a z le (nI (mwC n fr (fF, fA, fB, fS, fW) (rm2 k))) ((mwP n fr (fF, fA, fB, fS, fW)).1) ((mwP n fr (fF, fA, fB, fS, fW)).2.1) ((mwP n fr (fF, fA, fB, fS, fW)).2.2.1) ((mwP n fr (fF, fA, fB, fS, fW)).2.2.2.1) ((mwP n fr (fF, fA, fB, fS, fW)).2.2.2.2.1) ((mwP n fr (fF, fA, fB, fS, fW)).2.2.2.2.2.1) ((mwP n fr (fF, fA, fB, fS, fW)).2.2.2.2.2.2) sk pg ye ys yt yg yp tk gF gA gB gS gW yk) := hD
    have hP : va_P (dC, dI) vwCl (wsM bd cm 0 n fr a z le (nI (mwC n fr (fF, fA, fB, fS, fW) (rm2 k))) fo2 en2 F2 A2 B2 S2 W2 sk pg ye ys yt yg yp tk gF gA gB gS gW yk) H := by rw [hq] at hP; exact hP
    have hD : va_D A (wsM bd cm 0 n fr a z le (nI (mwC n fr (fF, fA, fB, fS, fW) (rm2 k))) fo2 en2 F2 A2 B2 S2 W2 sk pg ye ys yt yg yp tk gF gA gB gS gW yk) := by rw [hq] at hD; exact hD
    refine lv_aload_n hx hb d_MD_load_25 rfl (lv_at hl 0 rfl) ?_
    refine va_get (D := (dC, dI)) (ci := 7) (v := .int (nI (mwC n fr (fF, fA, fB, fS, fW) (rm2 k)))) (C := R_MD) (T := T_MD) (N := 28) hx hb hts i_MD hown hK hP 0 rfl rfl 6 (by decide) (hts _ wd_398) (fun _ h9 => h9) rfl d_MD_load_26 ?_
    refine lv_if_ne (tgt := 48) hx hb d_MD_load_29 (by decide) (fun c_14 => ?_) (fun c_14 => ?_)
    · skip
      exact absurd (by rw [h0]; rfl) c_14
    · skip
      refine lv_aload_n hx hb d_MD_load_32 rfl (lv_at hl 0 rfl) ?_
      refine lv_aload_n hx hb d_MD_load_33 rfl (lv_at hl 0 rfl) ?_
      refine va_get (D := (dC, dI)) (ci := 7) (v := .long (lN en2)) (C := R_MD) (T := T_MD) (N := 28) hx hb hts i_MD hown hK hP 0 rfl rfl 8 (by decide) (hts _ wd_400) (fun _ h9 => h9) rfl d_MD_load_34 ?_
      refine lv_l2i hx hb d_MD_load_37 rfl ?_
      refine xtopi (y := nI en2) (lN_i (en2)) ?_
      refine lv_sipush (v := 8192) hx hb d_MD_load_38 (by decide) ?_
      refine lv_iadd hx hb d_MD_load_41 ?_
      refine xtopi (y := nI (en2 + 8192)) (nI_add (en2) (8192)) ?_
      refine xcalli (va_runV (As := [.int (nI (en2 + 8192))]) (rest := []) ⟨hx, hb, hml, hown, hts⟩ (m_laid0 l dC dI bd cm 0 n fr a z le (nI (mwC n fr (fF, fA, fB, fS, fW) (rm2 k))) fo2 en2 F2 A2 B2 S2 W2 sk pg ye ys yt yg yp tk gF gA gB gS gW yk (en2 + 8192) P (by omega) (by omega) hsp hP4 hLe ha hz H.size) (cwV 1 hts (xgV wd_561 wd_563 wd_11 wd_22 wd_564) rfl rfl rfl (by decide +kernel) ⟨Nat.le_of_ble_eq_true rfl, Nat.le_of_ble_eq_true rfl⟩) (xpreV (q0 := 0) hK hN hZ hA hS hP hD rfl rfl) rfl rfl hl.1 rfl (lv_room (Nat.le_of_ble_eq_true rfl)) d_MD_load_42 ⟨Nat.zero_le _, Nat.zero_le _⟩) hD hS hA (fun r_15 H locs hr_15 hP hD hS => ?_)
      subst hr_15
      refine lv_goto (tgt := 49) hx hb d_MD_load_45 (by decide) ?_
      refine lv_istore_n (lv' := [(2, .int (nI (en2 + 8192 - 4096 + P))), (0, .ref (bd 0)), (1, .int k)]) hx hb d_MD_load_49 rfl hl (by decide) rfl (fun ls hl => ?_)
      refine lv_aload_n hx hb d_MD_load_50 rfl (lv_at hl 1 rfl) ?_
      refine lv_aload_n hx hb d_MD_load_51 rfl (lv_at hl 1 rfl) ?_
      refine va_get (D := (dC, dI)) (ci := 7) (v := .int (nI (mwC n fr (fF, fA, fB, fS, fW) (rm2 k)))) (C := R_MD) (T := T_MD) (N := 28) hx hb hts i_MD hown hK hP 0 rfl rfl 6 (by decide) (hts _ wd_398) (fun _ h9 => h9) rfl d_MD_load_52 ?_
      refine lv_if_ne (tgt := 67) hx hb d_MD_load_55 (by decide) (fun c_16 => ?_) (fun c_16 => ?_)
      · skip
        exact absurd (by rw [h0]; rfl) c_16
      · skip
        refine lv_iload_n hx hb d_MD_load_58 rfl (lv_at hl 0 rfl) ?_
        refine lv_if_ge (tgt := 67) hx hb d_MD_load_59 (by decide) (fun c_17 => ?_) (fun c_17 => ?_)
        · skip
          have c_17 : 0 ≤ en2 + 8192 - 4096 + P := (nI_leI (a := 0) (b := en2 + 8192 - 4096 + P) (by omega) (by omega)).mp c_17
          refine lv_aload_n hx hb d_MD_load_67 rfl (lv_at hl 1 rfl) ?_
          refine va_get (D := (dC, dI)) (ci := 7) (v := .int (nI (mwC n fr (fF, fA, fB, fS, fW) (rm2 k)))) (C := R_MD) (T := T_MD) (N := 28) hx hb hts i_MD hown hK hP 0 rfl rfl 6 (by decide) (hts _ wd_398) (fun _ h9 => h9) rfl d_MD_load_68 ?_
          refine va_put (D := (dC, dI)) (ci := 7) (v := .int (nI (mwC n fr (fF, fA, fB, fS, fW) (rm2 k)))) (ty := .int) (C := R_MD) (T := T_MD) (N := 28) hx hb hts i_MD t_MD k_MD n_MD hown hK hP hD hS 0 rfl rfl 6 (by decide) (hts _ wd_398) (fun _ h9 => h9) rfl (by decide +kernel) rfl rfl (Nat.le_of_ble_eq_true rfl) d_MD_load_71 (fun H locs hP hD hS => ?_)
          have hP : va_P (dC, dI) vwCl (wsM bd cm 0 n fr a z le (nI (mwC n fr (fF, fA, fB, fS, fW) (rm2 k))) fo2 en2 F2 A2 B2 S2 W2 (mkT (zf 4096 sk) le z P (en2 + 8192) a) pg ye ys yt yg yp tk gF gA gB gS gW yk) H := hP
          have hD : va_D A (wsM bd cm 0 n fr a z le (nI (mwC n fr (fF, fA, fB, fS, fW) (rm2 k))) fo2 en2 F2 A2 B2 S2 W2 (mkT (zf 4096 sk) le z P (en2 + 8192) a) pg ye ys yt yg yp tk gF gA gB gS gW yk) := hD
          refine lv_aload_n hx hb d_MD_load_74 rfl (lv_at hl 1 rfl) ?_
          refine va_get (D := (dC, dI)) (ci := 7) (v := .int (nI (mwC n fr (fF, fA, fB, fS, fW) (rm2 k)))) (C := R_MD) (T := T_MD) (N := 28) hx hb hts i_MD hown hK hP 0 rfl rfl 6 (by decide) (hts _ wd_398) (fun _ h9 => h9) rfl d_MD_load_75 ?_
          refine lv_if_le (tgt := 83) hx hb d_MD_load_78 (by decide) (fun c_18 => ?_) (fun c_18 => ?_)
          · skip
            refine lv_aload_n hx hb d_MD_load_83 rfl (lv_at hl 1 rfl) ?_
            refine lv_aload_n hx hb d_MD_load_84 rfl (lv_at hl 1 rfl) ?_
            refine lv_ldc2 (v := 24) hx hb hown (hts _ wd_552) d_MD_load_85 ?_
            refine lv_iconst (v := 4) hx hb d_MD_load_88 (by decide) ?_
            refine xcalll (va_runV (As := [.long 24, .int 4]) (rest := [.ref (bd 0)]) ⟨hx, hb, hml, hown, hts⟩ (m_number4 l dC dI bd cm 0 n fr a z le (nI (mwC n fr (fF, fA, fB, fS, fW) (rm2 k))) fo2 en2 F2 A2 B2 S2 W2 (mkT (zf 4096 sk) le z P (en2 + 8192) a) pg ye ys yt yg yp tk gF gA gB gS gW yk 24 (by omega) H.size) (cwV 2 hts (xgV wd_523 wd_525 wd_7 wd_22 wd_526) rfl rfl rfl (by decide +kernel) ⟨Nat.le_of_ble_eq_true rfl, Nat.le_of_ble_eq_true rfl⟩) (xpreV (q0 := 0) hK hN hZ hA hS hP hD rfl rfl) rfl rfl hl.1 rfl (lv_room (Nat.le_of_ble_eq_true rfl)) d_MD_load_89 ⟨Nat.zero_le _, Nat.zero_le _⟩) hD hS hA (fun r_19 H locs hr_19 hP hD hS => ?_)
            subst hr_19
            refine lv_l2i hx hb d_MD_load_92 rfl ?_
            refine xtopi (y := nI (nbN fr 24 4)) (lN_i (nbN fr 24 4)) ?_
            refine va_put (D := (dC, dI)) (ci := 7) (v := .int (nI (nbN fr 24 4))) (ty := .int) (C := R_MD) (T := T_MD) (N := 28) hx hb hts i_MD t_MD k_MD n_MD hown hK hP hD hS 0 rfl rfl 16 (by decide) (hts _ wd_408) (fun _ h9 => h9) rfl (by decide +kernel) rfl rfl (Nat.le_of_ble_eq_true rfl) d_MD_load_93 (fun H locs hP hD hS => ?_)
            have hP : va_P (dC, dI) vwCl (wsM bd cm 0 n fr a z le (nI (mwC n fr (fF, fA, fB, fS, fW) (rm2 k))) fo2 en2 F2 A2 B2 S2 W2 (mkT (zf 4096 sk) le z P (en2 + 8192) a) pg (nI (nbN fr 24 4)) ys yt yg yp tk gF gA gB gS gW yk) H := hP
            have hD : va_D A (wsM bd cm 0 n fr a z le (nI (mwC n fr (fF, fA, fB, fS, fW) (rm2 k))) fo2 en2 F2 A2 B2 S2 W2 (mkT (zf 4096 sk) le z P (en2 + 8192) a) pg (nI (nbN fr 24 4)) ys yt yg yp tk gF gA gB gS gW yk) := hD
            refine lv_aload_n hx hb d_MD_load_96 rfl (lv_at hl 1 rfl) ?_
            refine lv_iload_n hx hb d_MD_load_97 rfl (lv_at hl 0 rfl) ?_
            refine va_put (D := (dC, dI)) (ci := 7) (v := .int (nI (en2 + 8192 - 4096 + P))) (ty := .int) (C := R_MD) (T := T_MD) (N := 28) hx hb hts i_MD t_MD k_MD n_MD hown hK hP hD hS 0 rfl rfl 17 (by decide) (hts _ wd_409) (fun _ h9 => h9) rfl (by decide +kernel) rfl rfl (Nat.le_of_ble_eq_true rfl) d_MD_load_98 (fun H locs hP hD hS => ?_)
            have hP : va_P (dC, dI) vwCl (wsM bd cm 0 n fr a z le (nI (mwC n fr (fF, fA, fB, fS, fW) (rm2 k))) fo2 en2 F2 A2 B2 S2 W2 (mkT (zf 4096 sk) le z P (en2 + 8192) a) pg (nI (nbN fr 24 4)) (nI (en2 + 8192 - 4096 + P)) yt yg yp tk gF gA gB gS gW yk) H := hP
            have hD : va_D A (wsM bd cm 0 n fr a z le (nI (mwC n fr (fF, fA, fB, fS, fW) (rm2 k))) fo2 en2 F2 A2 B2 S2 W2 (mkT (zf 4096 sk) le z P (en2 + 8192) a) pg (nI (nbN fr 24 4)) (nI (en2 + 8192 - 4096 + P)) yt yg yp tk gF gA gB gS gW yk) := hD
            refine lv_aload_n hx hb d_MD_load_101 rfl (lv_at hl 1 rfl) ?_
            refine lv_aload_n hx hb d_MD_load_102 rfl (lv_at hl 1 rfl) ?_
            refine va_get (D := (dC, dI)) (ci := 7) (v := .long (lN en2)) (C := R_MD) (T := T_MD) (N := 28) hx hb hts i_MD hown hK hP 0 rfl rfl 8 (by decide) (hts _ wd_400) (fun _ h9 => h9) rfl d_MD_load_103 ?_
            refine lv_l2i hx hb d_MD_load_106 rfl ?_
            refine xtopi (y := nI en2) (lN_i (en2)) ?_
            refine lv_sipush (v := 8192) hx hb d_MD_load_107 (by decide) ?_
            refine lv_iadd hx hb d_MD_load_110 ?_
            refine xtopi (y := nI (en2 + 8192)) (nI_add (en2) (8192)) ?_
            refine va_put (D := (dC, dI)) (ci := 7) (v := .int (nI (en2 + 8192))) (ty := .int) (C := R_MD) (T := T_MD) (N := 28) hx hb hts i_MD t_MD k_MD n_MD hown hK hP hD hS 0 rfl rfl 18 (by decide) (hts _ wd_410) (fun _ h9 => h9) rfl (by decide +kernel) rfl rfl (Nat.le_of_ble_eq_true rfl) d_MD_load_111 (fun H locs hP hD hS => ?_)
            have hP : va_P (dC, dI) vwCl (wsM bd cm 0 n fr a z le (nI (mwC n fr (fF, fA, fB, fS, fW) (rm2 k))) fo2 en2 F2 A2 B2 S2 W2 (mkT (zf 4096 sk) le z P (en2 + 8192) a) pg (nI (nbN fr 24 4)) (nI (en2 + 8192 - 4096 + P)) (en2 + 8192) yg yp tk gF gA gB gS gW yk) H := hP
            have hD : va_D A (wsM bd cm 0 n fr a z le (nI (mwC n fr (fF, fA, fB, fS, fW) (rm2 k))) fo2 en2 F2 A2 B2 S2 W2 (mkT (zf 4096 sk) le z P (en2 + 8192) a) pg (nI (nbN fr 24 4)) (nI (en2 + 8192 - 4096 + P)) (en2 + 8192) yg yp tk gF gA gB gS gW yk) := hD
            refine lv_aload_n hx hb d_MD_load_114 rfl (lv_at hl 1 rfl) ?_
            refine lv_aload_n hx hb d_MD_load_115 rfl (lv_at hl 1 rfl) ?_
            refine va_get (D := (dC, dI)) (ci := 7) (v := .int (nI a)) (C := R_MD) (T := T_MD) (N := 28) hx hb hts i_MD hown hK hP 0 rfl rfl 3 (by decide) (hts _ wd_395) (fun _ h9 => h9) rfl d_MD_load_116 ?_
            refine va_put (D := (dC, dI)) (ci := 7) (v := .int (nI a)) (ty := .int) (C := R_MD) (T := T_MD) (N := 28) hx hb hts i_MD t_MD k_MD n_MD hown hK hP hD hS 0 rfl rfl 19 (by decide) (hts _ wd_411) (fun _ h9 => h9) rfl (by decide +kernel) rfl rfl (Nat.le_of_ble_eq_true rfl) d_MD_load_119 (fun H locs hP hD hS => ?_)
            have hP : va_P (dC, dI) vwCl (wsM bd cm 0 n fr a z le (nI (mwC n fr (fF, fA, fB, fS, fW) (rm2 k))) fo2 en2 F2 A2 B2 S2 W2 (mkT (zf 4096 sk) le z P (en2 + 8192) a) pg (nI (nbN fr 24 4)) (nI (en2 + 8192 - 4096 + P)) (en2 + 8192) a yp tk gF gA gB gS gW yk) H := hP
            have hD : va_D A (wsM bd cm 0 n fr a z le (nI (mwC n fr (fF, fA, fB, fS, fW) (rm2 k))) fo2 en2 F2 A2 B2 S2 W2 (mkT (zf 4096 sk) le z P (en2 + 8192) a) pg (nI (nbN fr 24 4)) (nI (en2 + 8192 - 4096 + P)) (en2 + 8192) a yp tk gF gA gB gS gW yk) := hD
            refine lv_aload_n hx hb d_MD_load_122 rfl (lv_at hl 1 rfl) ?_
            refine lv_aload_n hx hb d_MD_load_123 rfl (lv_at hl 1 rfl) ?_
            refine xcalli (va_runV (As := []) (rest := [.ref (bd 0)]) ⟨hx, hb, hml, hown, hts⟩ (m_wanted l dC dI bd cm 0 n fr a z le (nI (mwC n fr (fF, fA, fB, fS, fW) (rm2 k))) fo2 en2 F2 A2 B2 S2 W2 (mkT (zf 4096 sk) le z P (en2 + 8192) a) pg (nI (nbN fr 24 4)) (nI (en2 + 8192 - 4096 + P)) (en2 + 8192) a yp tk gF gA gB gS gW yk hfo hS2 H.size) (cwV 0 hts (xgV wd_557 wd_559 wd_10 wd_22 wd_560) rfl rfl rfl (by decide +kernel) ⟨Nat.le_of_ble_eq_true rfl, Nat.le_of_ble_eq_true rfl⟩) (xpreV (q0 := 0) hK hN hZ hA hS hP hD rfl rfl) rfl rfl hl.1 rfl (lv_room (Nat.le_of_ble_eq_true rfl)) d_MD_load_124 ⟨Nat.zero_le _, Nat.zero_le _⟩) hD hS hA (fun r_20 H locs hr_20 hP hD hS => ?_)
            subst hr_20
            refine va_put (D := (dC, dI)) (ci := 7) (v := .int (nI (2 + wsum S2 fo2))) (ty := .int) (C := R_MD) (T := T_MD) (N := 28) hx hb hts i_MD t_MD k_MD n_MD hown hK hP hD hS 0 rfl rfl 15 (by decide) (hts _ wd_407) (fun _ h9 => h9) rfl (by decide +kernel) rfl rfl (Nat.le_of_ble_eq_true rfl) d_MD_load_127 (fun H locs hP hD hS => ?_)
            have hP : va_P (dC, dI) vwCl (wsM bd cm 0 n fr a z le (nI (mwC n fr (fF, fA, fB, fS, fW) (rm2 k))) fo2 en2 F2 A2 B2 S2 W2 (mkT (zf 4096 sk) le z P (en2 + 8192) a) (2 + wsum S2 fo2) (nI (nbN fr 24 4)) (nI (en2 + 8192 - 4096 + P)) (en2 + 8192) a yp tk gF gA gB gS gW yk) H := hP
            have hD : va_D A (wsM bd cm 0 n fr a z le (nI (mwC n fr (fF, fA, fB, fS, fW) (rm2 k))) fo2 en2 F2 A2 B2 S2 W2 (mkT (zf 4096 sk) le z P (en2 + 8192) a) (2 + wsum S2 fo2) (nI (nbN fr 24 4)) (nI (en2 + 8192 - 4096 + P)) (en2 + 8192) a yp tk gF gA gB gS gW yk) := hD
            refine lv_aload_n hx hb d_MD_load_130 rfl (lv_at hl 1 rfl) ?_
            refine lv_aload_n hx hb d_MD_load_131 rfl (lv_at hl 1 rfl) ?_
            refine va_get (D := (dC, dI)) (ci := 7) (v := .int (nI fo2)) (C := R_MD) (T := T_MD) (N := 28) hx hb hts i_MD hown hK hP 0 rfl rfl 7 (by decide) (hts _ wd_399) (fun _ h9 => h9) rfl d_MD_load_132 ?_
            refine va_put (D := (dC, dI)) (ci := 7) (v := .int (nI fo2)) (ty := .int) (C := R_MD) (T := T_MD) (N := 28) hx hb hts i_MD t_MD k_MD n_MD hown hK hP hD hS 0 rfl rfl 20 (by decide) (hts _ wd_412) (fun _ h9 => h9) rfl (by decide +kernel) rfl rfl (Nat.le_of_ble_eq_true rfl) d_MD_load_135 (fun H locs hP hD hS => ?_)
            have hP : va_P (dC, dI) vwCl (wsM bd cm 0 n fr a z le (nI (mwC n fr (fF, fA, fB, fS, fW) (rm2 k))) fo2 en2 F2 A2 B2 S2 W2 (mkT (zf 4096 sk) le z P (en2 + 8192) a) (2 + wsum S2 fo2) (nI (nbN fr 24 4)) (nI (en2 + 8192 - 4096 + P)) (en2 + 8192) a fo2 tk gF gA gB gS gW yk) H := hP
            have hD : va_D A (wsM bd cm 0 n fr a z le (nI (mwC n fr (fF, fA, fB, fS, fW) (rm2 k))) fo2 en2 F2 A2 B2 S2 W2 (mkT (zf 4096 sk) le z P (en2 + 8192) a) (2 + wsum S2 fo2) (nI (nbN fr 24 4)) (nI (en2 + 8192 - 4096 + P)) (en2 + 8192) a fo2 tk gF gA gB gS gW yk) := hD
            refine lv_iconst (v := 0) hx hb d_MD_load_138 (by decide) ?_
            refine lv_istore_n (lv' := [(3, .int 0), (2, .int (nI (en2 + 8192 - 4096 + P))), (0, .ref (bd 0)), (1, .int k)]) hx hb d_MD_load_139 rfl hl (by decide) rfl (fun ls hl => ?_)
            have lp140 : ∀ (fu140 : Nat) (t : Nat), (n - t < fu140) → (t ≤ n) → ∀ (H : Heap) (locs : List Loc), va_P (dC, dI) vwCl (wsM bd cm 0 n fr a z le (nI (mwC n fr (fF, fA, fB, fS, fW) (rm2 k))) fo2 en2 F2 A2 B2 S2 W2 (mkT (zf 4096 sk) le z P (en2 + 8192) a) (2 + wsum S2 fo2) (nI (nbN fr 24 4)) (nI (en2 + 8192 - 4096 + P)) (en2 + 8192) a fo2 (cpk fr tk t) gF gA gB gS gW yk) H → va_D A (wsM bd cm 0 n fr a z le (nI (mwC n fr (fF, fA, fB, fS, fW) (rm2 k))) fo2 en2 F2 A2 B2 S2 W2 (mkT (zf 4096 sk) le z P (en2 + 8192) a) (2 + wsum S2 fo2) (nI (nbN fr 24 4)) (nI (en2 + 8192 - 4096 + P)) (en2 + 8192) a fo2 (cpk fr tk t) gF gA gB gS gW yk) → va_S A s.heap H locs → ∀ ls : Array Slot, lv_has ls 4 [(0, .ref (bd 0)), (1, .int k), (2, .int (nI (en2 + 8192 - 4096 + P))), (3, .int (nI t))] → W p l e { frames := 3, cells := 0, slots := 0, locals := 120 } s m [.ref (bd 0), .int k].toArray below meth c H locs 0 0 (MQ below (xQi (dC, dI) (tyM cm) A (wsM bd cm 0 n fr a z le (nI (mwC n fr (fF, fA, fB, fS, fW) (rm2 k))) fo2 en2 F2 A2 B2 S2 W2 (mkT (zf 4096 sk) le z P (en2 + 8192) a) (2 + wsum S2 fo2) (nI (nbN fr 24 4)) (nI (en2 + 8192 - 4096 + P)) (en2 + 8192) a fo2 (cpk fr tk n) (cpn F2 gF fo2) (cpn A2 gA fo2) (cpn B2 gB fo2) (cpn S2 gS fo2) (cpk W2 gW fo2) (cpk (mkT (zf 4096 sk) le z P (en2 + 8192) a) yk 4096)) (fun r => r = nI (2 + wsum S2 fo2))) [.ref (bd 0), .int k].toArray s 0 0 A) (F0 m 140 ls []) := by
              intro fu140
              induction fu140 with
              | zero => intro t hfu140; exact absurd hfu140 (Nat.not_lt_zero _)
              | succ fu140 ih140 =>
                intro t hfu140 ht H locs hP hD hS ls hl
                refine lv_iload_n hx hb d_MD_load_140 rfl (lv_at hl 3 rfl) ?_
                refine lv_aload_n hx hb d_MD_load_141 rfl (lv_at hl 0 rfl) ?_
                refine va_get (D := (dC, dI)) (ci := 7) (v := .int (nI n)) (C := R_MD) (T := T_MD) (N := 28) hx hb hts i_MD hown hK hP 0 rfl rfl 1 (by decide) (hts _ wd_393) (fun _ h9 => h9) rfl d_MD_load_142 ?_
                refine lv_icmp_ge (tgt := 166) hx hb d_MD_load_145 (by decide) (fun c_21 => ?_) (fun c_21 => ?_)
                · skip
                  have c_21 : n ≤ t := (nI_leI (a := n) (b := t) (by omega) (by omega)).mp c_21
                  have e5 : t = n := by omega
                  rw [e5] at hP hD
                  have hl := lv_sub hl [0, 1, 2] rfl
                  have hl : lv_has ls 4 [(0, .ref (bd 0)), (1, .int k), (2, .int (nI (en2 + 8192 - 4096 + P)))] := hl
                  refine lv_iconst (v := 0) hx hb d_MD_load_166 (by decide) ?_
                  refine lv_istore_n (lv' := [(3, .int 0), (0, .ref (bd 0)), (1, .int k), (2, .int (nI (en2 + 8192 - 4096 + P)))]) hx hb d_MD_load_167 rfl hl (by decide) rfl (fun ls hl => ?_)
                  have lp168 : ∀ (fu168 : Nat) (t : Nat), (fo2 - t < fu168) → (t ≤ fo2) → ∀ (H : Heap) (locs : List Loc), va_P (dC, dI) vwCl (wsM bd cm 0 n fr a z le (nI (mwC n fr (fF, fA, fB, fS, fW) (rm2 k))) fo2 en2 F2 A2 B2 S2 W2 (mkT (zf 4096 sk) le z P (en2 + 8192) a) (2 + wsum S2 fo2) (nI (nbN fr 24 4)) (nI (en2 + 8192 - 4096 + P)) (en2 + 8192) a fo2 (cpk fr tk n) (cpn F2 gF t) (cpn A2 gA t) (cpn B2 gB t) (cpn S2 gS t) (cpk W2 gW t) yk) H → va_D A (wsM bd cm 0 n fr a z le (nI (mwC n fr (fF, fA, fB, fS, fW) (rm2 k))) fo2 en2 F2 A2 B2 S2 W2 (mkT (zf 4096 sk) le z P (en2 + 8192) a) (2 + wsum S2 fo2) (nI (nbN fr 24 4)) (nI (en2 + 8192 - 4096 + P)) (en2 + 8192) a fo2 (cpk fr tk n) (cpn F2 gF t) (cpn A2 gA t) (cpn B2 gB t) (cpn S2 gS t) (cpk W2 gW t) yk) → va_S A s.heap H locs → ∀ ls : Array Slot, lv_has ls 4 [(0, .ref (bd 0)), (1, .int k), (2, .int (nI (en2 + 8192 - 4096 + P))), (3, .int (nI t))] → W p l e { frames := 3, cells := 0, slots := 0, locals := 120 } s m [.ref (bd 0), .int k].toArray below meth c H locs 0 0 (MQ below (xQi (dC, dI) (tyM cm) A (wsM bd cm 0 n fr a z le (nI (mwC n fr (fF, fA, fB, fS, fW) (rm2 k))) fo2 en2 F2 A2 B2 S2 W2 (mkT (zf 4096 sk) le z P (en2 + 8192) a) (2 + wsum S2 fo2) (nI (nbN fr 24 4)) (nI (en2 + 8192 - 4096 + P)) (en2 + 8192) a fo2 (cpk fr tk n) (cpn F2 gF fo2) (cpn A2 gA fo2) (cpn B2 gB fo2) (cpn S2 gS fo2) (cpk W2 gW fo2) (cpk (mkT (zf 4096 sk) le z P (en2 + 8192) a) yk 4096)) (fun r => r = nI (2 + wsum S2 fo2))) [.ref (bd 0), .int k].toArray s 0 0 A) (F0 m 168 ls []) := by
                    intro fu168
                    induction fu168 with
                    | zero => intro t hfu168; exact absurd hfu168 (Nat.not_lt_zero _)
                    | succ fu168 ih168 =>
                      intro t hfu168 ht H locs hP hD hS ls hl
                      refine lv_iload_n hx hb d_MD_load_168 rfl (lv_at hl 3 rfl) ?_
                      refine lv_aload_n hx hb d_MD_load_169 rfl (lv_at hl 0 rfl) ?_
                      refine va_get (D := (dC, dI)) (ci := 7) (v := .int (nI fo2)) (C := R_MD) (T := T_MD) (N := 28) hx hb hts i_MD hown hK hP 0 rfl rfl 7 (by decide) (hts _ wd_399) (fun _ h9 => h9) rfl d_MD_load_170 ?_
                      refine lv_icmp_ge (tgt := 242) hx hb d_MD_load_173 (by decide) (fun c_22 => ?_) (fun c_22 => ?_)
                      · skip
                        have c_22 : fo2 ≤ t := (nI_leI (a := fo2) (b := t) (by omega) (by omega)).mp c_22
                        have e5 : t = fo2 := by omega
                        rw [e5] at hP hD
                        have hl := lv_sub hl [0, 1, 2] rfl
                        have hl : lv_has ls 4 [(0, .ref (bd 0)), (1, .int k), (2, .int (nI (en2 + 8192 - 4096 + P)))] := hl
                        refine lv_iconst (v := 0) hx hb d_MD_load_242 (by decide) ?_
                        refine lv_istore_n (lv' := [(3, .int 0), (0, .ref (bd 0)), (1, .int k), (2, .int (nI (en2 + 8192 - 4096 + P)))]) hx hb d_MD_load_243 rfl hl (by decide) rfl (fun ls hl => ?_)
                        have lp244 : ∀ (fu244 : Nat) (t : Nat), (4096 - t < fu244) → (t ≤ 4096) → ∀ (H : Heap) (locs : List Loc), va_P (dC, dI) vwCl (wsM bd cm 0 n fr a z le (nI (mwC n fr (fF, fA, fB, fS, fW) (rm2 k))) fo2 en2 F2 A2 B2 S2 W2 (mkT (zf 4096 sk) le z P (en2 + 8192) a) (2 + wsum S2 fo2) (nI (nbN fr 24 4)) (nI (en2 + 8192 - 4096 + P)) (en2 + 8192) a fo2 (cpk fr tk n) (cpn F2 gF fo2) (cpn A2 gA fo2) (cpn B2 gB fo2) (cpn S2 gS fo2) (cpk W2 gW fo2) (cpk (mkT (zf 4096 sk) le z P (en2 + 8192) a) yk t)) H → va_D A (wsM bd cm 0 n fr a z le (nI (mwC n fr (fF, fA, fB, fS, fW) (rm2 k))) fo2 en2 F2 A2 B2 S2 W2 (mkT (zf 4096 sk) le z P (en2 + 8192) a) (2 + wsum S2 fo2) (nI (nbN fr 24 4)) (nI (en2 + 8192 - 4096 + P)) (en2 + 8192) a fo2 (cpk fr tk n) (cpn F2 gF fo2) (cpn A2 gA fo2) (cpn B2 gB fo2) (cpn S2 gS fo2) (cpk W2 gW fo2) (cpk (mkT (zf 4096 sk) le z P (en2 + 8192) a) yk t)) → va_S A s.heap H locs → ∀ ls : Array Slot, lv_has ls 4 [(0, .ref (bd 0)), (1, .int k), (2, .int (nI (en2 + 8192 - 4096 + P))), (3, .int (nI t))] → W p l e { frames := 3, cells := 0, slots := 0, locals := 120 } s m [.ref (bd 0), .int k].toArray below meth c H locs 0 0 (MQ below (xQi (dC, dI) (tyM cm) A (wsM bd cm 0 n fr a z le (nI (mwC n fr (fF, fA, fB, fS, fW) (rm2 k))) fo2 en2 F2 A2 B2 S2 W2 (mkT (zf 4096 sk) le z P (en2 + 8192) a) (2 + wsum S2 fo2) (nI (nbN fr 24 4)) (nI (en2 + 8192 - 4096 + P)) (en2 + 8192) a fo2 (cpk fr tk n) (cpn F2 gF fo2) (cpn A2 gA fo2) (cpn B2 gB fo2) (cpn S2 gS fo2) (cpk W2 gW fo2) (cpk (mkT (zf 4096 sk) le z P (en2 + 8192) a) yk 4096)) (fun r => r = nI (2 + wsum S2 fo2))) [.ref (bd 0), .int k].toArray s 0 0 A) (F0 m 244 ls []) := by
                          intro fu244
                          induction fu244 with
                          | zero => intro t hfu244; exact absurd hfu244 (Nat.not_lt_zero _)
                          | succ fu244 ih244 =>
                            intro t hfu244 ht H locs hP hD hS ls hl
                            refine lv_iload_n hx hb d_MD_load_244 rfl (lv_at hl 3 rfl) ?_
                            refine lv_sipush (v := 4096) hx hb d_MD_load_245 (by decide) ?_
                            refine lv_icmp_ge (tgt := 269) hx hb d_MD_load_248 (by decide) (fun c_23 => ?_) (fun c_23 => ?_)
                            · skip
                              have c_23 : 4096 ≤ t := (nI_leI (a := 4096) (b := t) (by omega) (by omega)).mp c_23
                              have e5 : t = 4096 := by omega
                              rw [e5] at hP hD
                              have hl := lv_sub hl [0, 1, 2] rfl
                              have hl : lv_has ls 4 [(0, .ref (bd 0)), (1, .int k), (2, .int (nI (en2 + 8192 - 4096 + P)))] := hl
                              refine lv_aload_n hx hb d_MD_load_269 rfl (lv_at hl 0 rfl) ?_
                              refine va_get (D := (dC, dI)) (ci := 7) (v := .int (nI (2 + wsum S2 fo2))) (C := R_MD) (T := T_MD) (N := 28) hx hb hts i_MD hown hK hP 0 rfl rfl 15 (by decide) (hts _ wd_407) (fun _ h9 => h9) rfl d_MD_load_270 ?_
                              exact xreti (v := nI (2 + wsum S2 fo2)) hx hb hr hlocks hK hP hD hS (rfl) (rfl) d_MD_load_273
                            · skip
                              have c_23 : ¬ (4096 ≤ t) := fun h9 => c_23 ((nI_leI (a := 4096) (b := t) (by omega) (by omega)).mpr h9)
                              refine lv_aload_n hx hb d_MD_load_251 rfl (lv_at hl 0 rfl) ?_
                              refine va_get (D := (dC, dI)) (ci := 7) (v := .ref (bd 16)) (C := R_MD) (T := T_MD) (N := 28) hx hb hts i_MD hown hK hP 0 rfl rfl 27 (by decide) (hts _ wd_419) (fun _ h9 => h9) rfl d_MD_load_252 ?_
                              refine lv_iload_n hx hb d_MD_load_255 rfl (lv_at hl 3 rfl) ?_
                              refine lv_aload_n hx hb d_MD_load_256 rfl (lv_at hl 0 rfl) ?_
                              refine va_get (D := (dC, dI)) (ci := 7) (v := .ref (bd 9)) (C := R_MD) (T := T_MD) (N := 28) hx hb hts i_MD hown hK hP 0 rfl rfl 14 (by decide) (hts _ wd_406) (fun _ h9 => h9) rfl d_MD_load_257 ?_
                              refine lv_iload_n hx hb d_MD_load_260 rfl (lv_at hl 3 rfl) ?_
                              refine xbald (k := t) hx hb hK hP 9 0 rfl rfl (rfl) (by omega) (by decide) d_MD_load_261 ?_
                              refine xbast (k := t) (x' := (mkT (zf 4096 sk) le z P (en2 + 8192) a) t) (ws1 := wsM bd cm 0 n fr a z le (nI (mwC n fr (fF, fA, fB, fS, fW) (rm2 k))) fo2 en2 F2 A2 B2 S2 W2 (mkT (zf 4096 sk) le z P (en2 + 8192) a) (2 + wsum S2 fo2) (nI (nbN fr 24 4)) (nI (en2 + 8192 - 4096 + P)) (en2 + 8192) a fo2 (cpk fr tk n) (cpn F2 gF fo2) (cpn A2 gA fo2) (cpn B2 gB fo2) (cpn S2 gS fo2) (cpk W2 gW fo2) (upd (cpk (mkT (zf 4096 sk) le z P (en2 + 8192) a) yk t) t ((mkT (zf 4096 sk) le z P (en2 + 8192) a) t))) hx hb hK hP hD hS 16 0 rfl rfl (rfl) (by omega) (by decide) (fitnar (hSk2 _)) rfl d_MD_load_262 (fun H locs hP hD hS => ?_)
                              refine lv_iinc (v := nI (t + 1)) (lv' := [(3, .int (nI (t + 1))), (0, .ref (bd 0)), (1, .int k), (2, .int (nI (en2 + 8192 - 4096 + P)))]) hx hb d_MD_load_263 hl (k := 3) rfl (nI_1 _) (by decide) rfl (fun ls hl => ?_)
                              refine lv_goto (tgt := 244) hx hb d_MD_load_266 (by decide) ?_
                              have hw9 : wsM bd cm 0 n fr a z le (nI (mwC n fr (fF, fA, fB, fS, fW) (rm2 k))) fo2 en2 F2 A2 B2 S2 W2 (mkT (zf 4096 sk) le z P (en2 + 8192) a) (2 + wsum S2 fo2) (nI (nbN fr 24 4)) (nI (en2 + 8192 - 4096 + P)) (en2 + 8192) a fo2 (cpk fr tk n) (cpn F2 gF fo2) (cpn A2 gA fo2) (cpn B2 gB fo2) (cpn S2 gS fo2) (cpk W2 gW fo2) (upd (cpk (mkT (zf 4096 sk) le z P (en2 + 8192) a) yk t) t ((mkT (zf 4096 sk) le z P (en2 + 8192) a) t)) = wsM bd cm 0 n fr a z le (nI (mwC n fr (fF, fA, fB, fS, fW) (rm2 k))) fo2 en2 F2 A2 B2 S2 W2 (mkT (zf 4096 sk) le z P (en2 + 8192) a) (2 + wsum S2 fo2) (nI (nbN fr 24 4)) (nI (en2 + 8192 - 4096 + P)) (en2 + 8192) a fo2 (cpk fr tk n) (cpn F2 gF fo2) (cpn A2 gA fo2) (cpn B2 gB fo2) (cpn S2 gS fo2) (cpk W2 gW fo2) (cpk (mkT (zf 4096 sk) le z P (en2 + 8192) a) yk (t + 1)) := rfl
                              rw [hw9] at hP hD
                              exact ih244 (t + 1) (by omega) (by omega) _ _ hP hD hS _ (lv_sub hl [1, 2, 3, 0] rfl)
                        exact lp244 ((4096 - 0) + 1) 0 (Nat.lt_succ_self _) (by omega) _ _ hP hD hS _ (lv_sub hl [1, 2, 3, 0] rfl)
                      · skip
                        have c_22 : ¬ (fo2 ≤ t) := fun h9 => c_22 ((nI_leI (a := fo2) (b := t) (by omega) (by omega)).mpr h9)
                        refine lv_aload_n hx hb d_MD_load_176 rfl (lv_at hl 0 rfl) ?_
                        refine va_get (D := (dC, dI)) (ci := 7) (v := .ref (bd 11)) (C := R_MD) (T := T_MD) (N := 28) hx hb hts i_MD hown hK hP 0 rfl rfl 22 (by decide) (hts _ wd_414) (fun _ h9 => h9) rfl d_MD_load_177 ?_
                        refine lv_iload_n hx hb d_MD_load_180 rfl (lv_at hl 3 rfl) ?_
                        refine lv_aload_n hx hb d_MD_load_181 rfl (lv_at hl 0 rfl) ?_
                        refine va_get (D := (dC, dI)) (ci := 7) (v := .ref (bd 4)) (C := R_MD) (T := T_MD) (N := 28) hx hb hts i_MD hown hK hP 0 rfl rfl 9 (by decide) (hts _ wd_401) (fun _ h9 => h9) rfl d_MD_load_182 ?_
                        refine lv_iload_n hx hb d_MD_load_185 rfl (lv_at hl 3 rfl) ?_
                        refine xiald (k := t) hx hb hK hP 4 1 rfl rfl (rfl) (by omega) (by decide) d_MD_load_186 ?_
                        refine xiast (k := t) (ws1 := wsM bd cm 0 n fr a z le (nI (mwC n fr (fF, fA, fB, fS, fW) (rm2 k))) fo2 en2 F2 A2 B2 S2 W2 (mkT (zf 4096 sk) le z P (en2 + 8192) a) (2 + wsum S2 fo2) (nI (nbN fr 24 4)) (nI (en2 + 8192 - 4096 + P)) (en2 + 8192) a fo2 (cpk fr tk n) (upn (cpn F2 gF t) t (F2 t)) (cpn A2 gA t) (cpn B2 gB t) (cpn S2 gS t) (cpk W2 gW t) yk) hx hb hK hP hD hS 11 1 rfl rfl (rfl) (by omega) (by decide) wsM_put_gF d_MD_load_187 (fun H locs hP hD hS => ?_)
                        refine lv_aload_n hx hb d_MD_load_188 rfl (lv_at hl 0 rfl) ?_
                        refine va_get (D := (dC, dI)) (ci := 7) (v := .ref (bd 12)) (C := R_MD) (T := T_MD) (N := 28) hx hb hts i_MD hown hK hP 0 rfl rfl 23 (by decide) (hts _ wd_415) (fun _ h9 => h9) rfl d_MD_load_189 ?_
                        refine lv_iload_n hx hb d_MD_load_192 rfl (lv_at hl 3 rfl) ?_
                        refine lv_aload_n hx hb d_MD_load_193 rfl (lv_at hl 0 rfl) ?_
                        refine va_get (D := (dC, dI)) (ci := 7) (v := .ref (bd 5)) (C := R_MD) (T := T_MD) (N := 28) hx hb hts i_MD hown hK hP 0 rfl rfl 10 (by decide) (hts _ wd_402) (fun _ h9 => h9) rfl d_MD_load_194 ?_
                        refine lv_iload_n hx hb d_MD_load_197 rfl (lv_at hl 3 rfl) ?_
                        refine xiald (k := t) hx hb hK hP 5 1 rfl rfl (rfl) (by omega) (by decide) d_MD_load_198 ?_
                        refine xiast (k := t) (ws1 := wsM bd cm 0 n fr a z le (nI (mwC n fr (fF, fA, fB, fS, fW) (rm2 k))) fo2 en2 F2 A2 B2 S2 W2 (mkT (zf 4096 sk) le z P (en2 + 8192) a) (2 + wsum S2 fo2) (nI (nbN fr 24 4)) (nI (en2 + 8192 - 4096 + P)) (en2 + 8192) a fo2 (cpk fr tk n) (upn (cpn F2 gF t) t (F2 t)) (upn (cpn A2 gA t) t (A2 t)) (cpn B2 gB t) (cpn S2 gS t) (cpk W2 gW t) yk) hx hb hK hP hD hS 12 1 rfl rfl (rfl) (by omega) (by decide) wsM_put_gA d_MD_load_199 (fun H locs hP hD hS => ?_)
                        refine lv_aload_n hx hb d_MD_load_200 rfl (lv_at hl 0 rfl) ?_
                        refine va_get (D := (dC, dI)) (ci := 7) (v := .ref (bd 13)) (C := R_MD) (T := T_MD) (N := 28) hx hb hts i_MD hown hK hP 0 rfl rfl 24 (by decide) (hts _ wd_416) (fun _ h9 => h9) rfl d_MD_load_201 ?_
                        refine lv_iload_n hx hb d_MD_load_204 rfl (lv_at hl 3 rfl) ?_
                        refine lv_aload_n hx hb d_MD_load_205 rfl (lv_at hl 0 rfl) ?_
                        refine va_get (D := (dC, dI)) (ci := 7) (v := .ref (bd 6)) (C := R_MD) (T := T_MD) (N := 28) hx hb hts i_MD hown hK hP 0 rfl rfl 11 (by decide) (hts _ wd_403) (fun _ h9 => h9) rfl d_MD_load_206 ?_
                        refine lv_iload_n hx hb d_MD_load_209 rfl (lv_at hl 3 rfl) ?_
                        refine xiald (k := t) hx hb hK hP 6 1 rfl rfl (rfl) (by omega) (by decide) d_MD_load_210 ?_
                        refine xiast (k := t) (ws1 := wsM bd cm 0 n fr a z le (nI (mwC n fr (fF, fA, fB, fS, fW) (rm2 k))) fo2 en2 F2 A2 B2 S2 W2 (mkT (zf 4096 sk) le z P (en2 + 8192) a) (2 + wsum S2 fo2) (nI (nbN fr 24 4)) (nI (en2 + 8192 - 4096 + P)) (en2 + 8192) a fo2 (cpk fr tk n) (upn (cpn F2 gF t) t (F2 t)) (upn (cpn A2 gA t) t (A2 t)) (upn (cpn B2 gB t) t (B2 t)) (cpn S2 gS t) (cpk W2 gW t) yk) hx hb hK hP hD hS 13 1 rfl rfl (rfl) (by omega) (by decide) wsM_put_gB d_MD_load_211 (fun H locs hP hD hS => ?_)
                        refine lv_aload_n hx hb d_MD_load_212 rfl (lv_at hl 0 rfl) ?_
                        refine va_get (D := (dC, dI)) (ci := 7) (v := .ref (bd 14)) (C := R_MD) (T := T_MD) (N := 28) hx hb hts i_MD hown hK hP 0 rfl rfl 25 (by decide) (hts _ wd_417) (fun _ h9 => h9) rfl d_MD_load_213 ?_
                        refine lv_iload_n hx hb d_MD_load_216 rfl (lv_at hl 3 rfl) ?_
                        refine lv_aload_n hx hb d_MD_load_217 rfl (lv_at hl 0 rfl) ?_
                        refine va_get (D := (dC, dI)) (ci := 7) (v := .ref (bd 7)) (C := R_MD) (T := T_MD) (N := 28) hx hb hts i_MD hown hK hP 0 rfl rfl 12 (by decide) (hts _ wd_404) (fun _ h9 => h9) rfl d_MD_load_218 ?_
                        refine lv_iload_n hx hb d_MD_load_221 rfl (lv_at hl 3 rfl) ?_
                        refine xiald (k := t) hx hb hK hP 7 1 rfl rfl (rfl) (by omega) (by decide) d_MD_load_222 ?_
                        refine xiast (k := t) (ws1 := wsM bd cm 0 n fr a z le (nI (mwC n fr (fF, fA, fB, fS, fW) (rm2 k))) fo2 en2 F2 A2 B2 S2 W2 (mkT (zf 4096 sk) le z P (en2 + 8192) a) (2 + wsum S2 fo2) (nI (nbN fr 24 4)) (nI (en2 + 8192 - 4096 + P)) (en2 + 8192) a fo2 (cpk fr tk n) (upn (cpn F2 gF t) t (F2 t)) (upn (cpn A2 gA t) t (A2 t)) (upn (cpn B2 gB t) t (B2 t)) (upn (cpn S2 gS t) t (S2 t)) (cpk W2 gW t) yk) hx hb hK hP hD hS 14 1 rfl rfl (rfl) (by omega) (by decide) wsM_put_gS d_MD_load_223 (fun H locs hP hD hS => ?_)
                        refine lv_aload_n hx hb d_MD_load_224 rfl (lv_at hl 0 rfl) ?_
                        refine va_get (D := (dC, dI)) (ci := 7) (v := .ref (bd 15)) (C := R_MD) (T := T_MD) (N := 28) hx hb hts i_MD hown hK hP 0 rfl rfl 26 (by decide) (hts _ wd_418) (fun _ h9 => h9) rfl d_MD_load_225 ?_
                        refine lv_iload_n hx hb d_MD_load_228 rfl (lv_at hl 3 rfl) ?_
                        refine lv_aload_n hx hb d_MD_load_229 rfl (lv_at hl 0 rfl) ?_
                        refine va_get (D := (dC, dI)) (ci := 7) (v := .ref (bd 8)) (C := R_MD) (T := T_MD) (N := 28) hx hb hts i_MD hown hK hP 0 rfl rfl 13 (by decide) (hts _ wd_405) (fun _ h9 => h9) rfl d_MD_load_230 ?_
                        refine lv_iload_n hx hb d_MD_load_233 rfl (lv_at hl 3 rfl) ?_
                        refine xiald (k := t) hx hb hK hP 8 1 rfl rfl (rfl) (by omega) (by decide) d_MD_load_234 ?_
                        refine xiast (k := t) (ws1 := wsM bd cm 0 n fr a z le (nI (mwC n fr (fF, fA, fB, fS, fW) (rm2 k))) fo2 en2 F2 A2 B2 S2 W2 (mkT (zf 4096 sk) le z P (en2 + 8192) a) (2 + wsum S2 fo2) (nI (nbN fr 24 4)) (nI (en2 + 8192 - 4096 + P)) (en2 + 8192) a fo2 (cpk fr tk n) (upn (cpn F2 gF t) t (F2 t)) (upn (cpn A2 gA t) t (A2 t)) (upn (cpn B2 gB t) t (B2 t)) (upn (cpn S2 gS t) t (S2 t)) (upd (cpk W2 gW t) t (W2 t)) yk) hx hb hK hP hD hS 15 1 rfl rfl (rfl) (by omega) (by decide) rfl d_MD_load_235 (fun H locs hP hD hS => ?_)
                        refine lv_iinc (v := nI (t + 1)) (lv' := [(3, .int (nI (t + 1))), (0, .ref (bd 0)), (1, .int k), (2, .int (nI (en2 + 8192 - 4096 + P)))]) hx hb d_MD_load_236 hl (k := 3) rfl (nI_1 _) (by decide) rfl (fun ls hl => ?_)
                        refine lv_goto (tgt := 168) hx hb d_MD_load_239 (by decide) ?_
                        have hw9 : wsM bd cm 0 n fr a z le (nI (mwC n fr (fF, fA, fB, fS, fW) (rm2 k))) fo2 en2 F2 A2 B2 S2 W2 (mkT (zf 4096 sk) le z P (en2 + 8192) a) (2 + wsum S2 fo2) (nI (nbN fr 24 4)) (nI (en2 + 8192 - 4096 + P)) (en2 + 8192) a fo2 (cpk fr tk n) (upn (cpn F2 gF t) t (F2 t)) (upn (cpn A2 gA t) t (A2 t)) (upn (cpn B2 gB t) t (B2 t)) (upn (cpn S2 gS t) t (S2 t)) (upd (cpk W2 gW t) t (W2 t)) yk = wsM bd cm 0 n fr a z le (nI (mwC n fr (fF, fA, fB, fS, fW) (rm2 k))) fo2 en2 F2 A2 B2 S2 W2 (mkT (zf 4096 sk) le z P (en2 + 8192) a) (2 + wsum S2 fo2) (nI (nbN fr 24 4)) (nI (en2 + 8192 - 4096 + P)) (en2 + 8192) a fo2 (cpk fr tk n) (cpn F2 gF (t + 1)) (cpn A2 gA (t + 1)) (cpn B2 gB (t + 1)) (cpn S2 gS (t + 1)) (cpk W2 gW (t + 1)) yk := rfl
                        rw [hw9] at hP hD
                        exact ih168 (t + 1) (by omega) (by omega) _ _ hP hD hS _ (lv_sub hl [1, 2, 3, 0] rfl)
                  exact lp168 ((fo2 - 0) + 1) 0 (Nat.lt_succ_self _) (by omega) _ _ hP hD hS _ (lv_sub hl [1, 2, 3, 0] rfl)
                · skip
                  have c_21 : ¬ (n ≤ t) := fun h9 => c_21 ((nI_leI (a := n) (b := t) (by omega) (by omega)).mpr h9)
                  refine lv_aload_n hx hb d_MD_load_148 rfl (lv_at hl 0 rfl) ?_
                  refine va_get (D := (dC, dI)) (ci := 7) (v := .ref (bd 10)) (C := R_MD) (T := T_MD) (N := 28) hx hb hts i_MD hown hK hP 0 rfl rfl 21 (by decide) (hts _ wd_413) (fun _ h9 => h9) rfl d_MD_load_149 ?_
                  refine lv_iload_n hx hb d_MD_load_152 rfl (lv_at hl 3 rfl) ?_
                  refine lv_aload_n hx hb d_MD_load_153 rfl (lv_at hl 0 rfl) ?_
                  refine va_get (D := (dC, dI)) (ci := 7) (v := .ref (bd 1)) (C := R_MD) (T := T_MD) (N := 28) hx hb hts i_MD hown hK hP 0 rfl rfl 2 (by decide) (hts _ wd_394) (fun _ h9 => h9) rfl d_MD_load_154 ?_
                  refine lv_iload_n hx hb d_MD_load_157 rfl (lv_at hl 3 rfl) ?_
                  refine xbald (k := t) hx hb hK hP 1 0 rfl rfl (rfl) (by omega) (by decide) d_MD_load_158 ?_
                  refine xbast (k := t) (x' := fr t) (ws1 := wsM bd cm 0 n fr a z le (nI (mwC n fr (fF, fA, fB, fS, fW) (rm2 k))) fo2 en2 F2 A2 B2 S2 W2 (mkT (zf 4096 sk) le z P (en2 + 8192) a) (2 + wsum S2 fo2) (nI (nbN fr 24 4)) (nI (en2 + 8192 - 4096 + P)) (en2 + 8192) a fo2 (upd (cpk fr tk t) t (fr t)) gF gA gB gS gW yk) hx hb hK hP hD hS 10 0 rfl rfl (rfl) (by omega) (by decide) (fitnar (hFr _)) rfl d_MD_load_159 (fun H locs hP hD hS => ?_)
                  refine lv_iinc (v := nI (t + 1)) (lv' := [(3, .int (nI (t + 1))), (0, .ref (bd 0)), (1, .int k), (2, .int (nI (en2 + 8192 - 4096 + P)))]) hx hb d_MD_load_160 hl (k := 3) rfl (nI_1 _) (by decide) rfl (fun ls hl => ?_)
                  refine lv_goto (tgt := 140) hx hb d_MD_load_163 (by decide) ?_
                  have hw9 : wsM bd cm 0 n fr a z le (nI (mwC n fr (fF, fA, fB, fS, fW) (rm2 k))) fo2 en2 F2 A2 B2 S2 W2 (mkT (zf 4096 sk) le z P (en2 + 8192) a) (2 + wsum S2 fo2) (nI (nbN fr 24 4)) (nI (en2 + 8192 - 4096 + P)) (en2 + 8192) a fo2 (upd (cpk fr tk t) t (fr t)) gF gA gB gS gW yk = wsM bd cm 0 n fr a z le (nI (mwC n fr (fF, fA, fB, fS, fW) (rm2 k))) fo2 en2 F2 A2 B2 S2 W2 (mkT (zf 4096 sk) le z P (en2 + 8192) a) (2 + wsum S2 fo2) (nI (nbN fr 24 4)) (nI (en2 + 8192 - 4096 + P)) (en2 + 8192) a fo2 (cpk fr tk (t + 1)) gF gA gB gS gW yk := rfl
                  rw [hw9] at hP hD
                  exact ih140 (t + 1) (by omega) (by omega) _ _ hP hD hS _ (lv_sub hl [1, 2, 3, 0] rfl)
            exact lp140 ((n - 0) + 1) 0 (Nat.lt_succ_self _) (by omega) _ _ hP hD hS _ (lv_sub hl [2, 3, 1, 0] rfl)
          · skip
            exact absurd (by rw [h0]; decide) c_18
        · skip
          have c_17 : ¬ (0 ≤ en2 + 8192 - 4096 + P) := fun h9 => c_17 ((nI_leI (a := 0) (b := en2 + 8192 - 4096 + P) (by omega) (by omega)).mpr h9)
          exact absurd (Nat.zero_le _) c_17
