set_option maxHeartbeats 4000000 in
set_option maxRecDepth 100000 in
theorem m_feed (l : Launch) (dC : Nat → ClassId) (dI : Nat → Nat → Nat) (bd : Nat → Nat) (cm : Nat → ClassId) (th : Int32) (n : Nat) (fr : Nat → Int32) (a : Nat) (z : Nat → Nat) (le : Nat → Int32) (wy : Int32) (fo : Nat) (en : Nat) (fF : Nat → Nat) (fA : Nat → Nat) (fB : Nat → Nat) (fS : Nat → Nat) (fW : Nat → Int32) (sk : Nat → Int32) (pg : Nat) (ye : Int32) (ys : Int32) (yt : Nat) (yg : Nat) (yp : Nat) (tk : Nat → Int32) (gF : Nat → Nat) (gA : Nat → Nat) (gB : Nat → Nat) (gS : Nat → Nat) (gW : Nat → Int32) (yk : Nat → Int32) (w1 w2 w3 w4 w5 : Int32) (hn : n ≤ 65536) (sz : Nat) : Met l y_MD_feed w_MD_feed { frames := 0, cells := 0, slots := 0, locals := 0 } (va_Pc [.ref (bd 0), .int w1, .int w2, .int w3, .int w4, .int w5] (xP (dC, dI) (tyM cm) (wsM bd cm th n fr a z le wy fo en fF fA fB fS fW sk pg ye ys yt yg yp tk gF gA gB gS gW yk) sz)) (xQi (dC, dI) (tyM cm) (va_A (wsM bd cm th n fr a z le wy fo en fF fA fB fS fW sk pg ye ys yt yg yp tk gF gA gB gS gW yk) sz) (wsM bd cm 0 (fdN n) (mfF n fr w1 w2 w3 w4 w5) a z le wy fo en fF fA fB fS fW sk pg ye ys yt yg yp tk gF gA gB gS gW yk) (fun r => r = bI (n + 20 ≤ 65536))) 0 0 (va_A (wsM bd cm th n fr a z le wy fo en fF fA fB fS fW sk pg ye ys yt yg yp tk gF gA gB gS gW yk) sz) := by
  refine xof (cc := b_MD_feed) (maxL := 8) (ret := (some .boolean)) (own := R_MD) (Qc := fun A => (xQi (dC, dI) (tyM cm) A (wsM bd cm 0 (fdN n) (mfF n fr w1 w2 w3 w4 w5) a z le wy fo en fF fA fB fS fW sk pg ye ys yt yg yp tk gF gA gB gS gW yk) (fun r => r = bI (n + 20 ≤ 65536)))) (by decide) rfl rfl (Nat.le_of_ble_eq_true rfl) ?_ sz
  intro p e s m below meth c A C hnm hK hP hD hA hN hZ hS ls hl
  obtain ⟨hx, hb, hr, hml, hown, hts, hlocks⟩ := C
  have hl : lv_has ls 8 [(0, .ref (bd 0)), (1, .int w1), (2, .int w2), (3, .int w3), (4, .int w4), (5, .int w5)] := hl
  refine lv_aload_n hx hb d_MD_feed_0 rfl (lv_at hl 0 rfl) ?_
  refine lv_iconst (v := 0) hx hb d_MD_feed_1 (by decide) ?_
  refine va_put (D := (dC, dI)) (ci := 7) (v := .int 0) (ty := .int) (C := R_MD) (T := T_MD) (N := 28) hx hb hts i_MD t_MD k_MD n_MD hown hK hP hD hS 0 rfl rfl 0 (by decide) (hts _ wd_392) (fun _ h9 => h9) rfl (by decide +kernel) rfl rfl (Nat.le_of_ble_eq_true rfl) d_MD_feed_2 (fun H locs hP hD hS => ?_)
  have hP : va_P (dC, dI) vwCl (wsM bd cm 0 n fr a z le wy fo en fF fA fB fS fW sk pg ye ys yt yg yp tk gF gA gB gS gW yk) H := hP
  have hD : va_D A (wsM bd cm 0 n fr a z le wy fo en fF fA fB fS fW sk pg ye ys yt yg yp tk gF gA gB gS gW yk) := hD
  refine lv_aload_n hx hb d_MD_feed_5 rfl (lv_at hl 0 rfl) ?_
  refine va_get (D := (dC, dI)) (ci := 7) (v := .int (nI n)) (C := R_MD) (T := T_MD) (N := 28) hx hb hts i_MD hown hK hP 0 rfl rfl 1 (by decide) (hts _ wd_393) (fun _ h9 => h9) rfl d_MD_feed_6 ?_
  refine lv_ldc (v := 65516) hx hb hown (hts _ wd_481) d_MD_feed_9 ?_
  refine lv_icmp_le (tgt := 16) hx hb d_MD_feed_11 (by decide) (fun c_1 => ?_) (fun c_1 => ?_)
  · skip
    have c_1 : n ≤ 65516 := (nI_leI (a := n) (b := 65516) (by omega) (by omega)).mp c_1
    refine lv_iconst (v := 0) hx hb d_MD_feed_16 (by decide) ?_
    refine lv_istore (lv' := [(6, .int 0), (0, .ref (bd 0)), (1, .int w1), (2, .int w2), (3, .int w3), (4, .int w4), (5, .int w5)]) hx hb d_MD_feed_17 hl (by decide) rfl (fun ls hl => ?_)
    refine lv_iload hx hb d_MD_feed_19 (lv_at hl 0 rfl) ?_
    refine lv_iconst (v := 4) hx hb d_MD_feed_21 (by decide) ?_
    refine lv_icmp_ge (tgt := 139) hx hb d_MD_feed_22 (by decide) (fun c_2 => ?_) (fun c_2 => ?_)
    · exact absurd c_2 (by decide)
    · skip
      refine lv_bipush (v := 24) hx hb d_MD_feed_25 (by decide) ?_
      refine lv_bipush (v := 8) hx hb d_MD_feed_27 (by decide) ?_
      refine lv_iload hx hb d_MD_feed_29 (lv_at hl 0 rfl) ?_
      refine lv_imul hx hb d_MD_feed_31 ?_
      refine lv_isub hx hb d_MD_feed_32 ?_
      refine xtopi (y := 24) (by decide) ?_
      refine lv_istore (lv' := [(7, .int 24), (6, .int 0), (0, .ref (bd 0)), (1, .int w1), (2, .int w2), (3, .int w3), (4, .int w4), (5, .int w5)]) hx hb d_MD_feed_33 hl (by decide) rfl (fun ls hl => ?_)
      refine lv_aload_n hx hb d_MD_feed_35 rfl (lv_at hl 2 rfl) ?_
      refine va_get (D := (dC, dI)) (ci := 7) (v := .ref (bd 1)) (C := R_MD) (T := T_MD) (N := 28) hx hb hts i_MD hown hK hP 0 rfl rfl 2 (by decide) (hts _ wd_394) (fun _ h9 => h9) rfl d_MD_feed_36 ?_
      refine lv_aload_n hx hb d_MD_feed_39 rfl (lv_at hl 2 rfl) ?_
      refine va_get (D := (dC, dI)) (ci := 7) (v := .int (nI n)) (C := R_MD) (T := T_MD) (N := 28) hx hb hts i_MD hown hK hP 0 rfl rfl 1 (by decide) (hts _ wd_393) (fun _ h9 => h9) rfl d_MD_feed_40 ?_
      refine lv_iload hx hb d_MD_feed_43 (lv_at hl 1 rfl) ?_
      refine lv_iadd hx hb d_MD_feed_45 ?_
      refine xtopi (y := nI (n + 0)) (nI_add (n) (0)) ?_
      refine lv_iload_n hx hb d_MD_feed_46 rfl (lv_at hl 3 rfl) ?_
      refine lv_iload hx hb d_MD_feed_47 (lv_at hl 0 rfl) ?_
      refine lv_ishr hx hb d_MD_feed_49 ?_
      refine lv_i2b hx hb d_MD_feed_50 rfl ?_
      refine xbast (k := n + 0) (x' := (w1 >>> ((24 : Int32) &&& 31)).toInt8.toInt32) (ws1 := wsM bd cm 0 n (upd fr (n + 0) ((w1 >>> ((24 : Int32) &&& 31)).toInt8.toInt32)) a z le wy fo en fF fA fB fS fW sk pg ye ys yt yg yp tk gF gA gB gS gW yk) hx hb hK hP hD hS 1 0 rfl rfl (rfl) (by omega) (by decide) (pk_vb _) rfl d_MD_feed_51 (fun H locs hP hD hS => ?_)
      refine lv_aload_n hx hb d_MD_feed_52 rfl (lv_at hl 2 rfl) ?_
      refine va_get (D := (dC, dI)) (ci := 7) (v := .ref (bd 1)) (C := R_MD) (T := T_MD) (N := 28) hx hb hts i_MD hown hK hP 0 rfl rfl 2 (by decide) (hts _ wd_394) (fun _ h9 => h9) rfl d_MD_feed_53 ?_
      refine lv_aload_n hx hb d_MD_feed_56 rfl (lv_at hl 2 rfl) ?_
      refine va_get (D := (dC, dI)) (ci := 7) (v := .int (nI n)) (C := R_MD) (T := T_MD) (N := 28) hx hb hts i_MD hown hK hP 0 rfl rfl 1 (by decide) (hts _ wd_393) (fun _ h9 => h9) rfl d_MD_feed_57 ?_
      refine lv_iconst (v := 4) hx hb d_MD_feed_60 (by decide) ?_
      refine lv_iadd hx hb d_MD_feed_61 ?_
      refine xtopi (y := nI (n + 4)) (nI_add (n) (4)) ?_
      refine lv_iload hx hb d_MD_feed_62 (lv_at hl 1 rfl) ?_
      refine lv_iadd hx hb d_MD_feed_64 ?_
      refine xtopi (y := nI ((n + 4) + 0)) (nI_add (n + 4) (0)) ?_
      refine lv_iload_n hx hb d_MD_feed_65 rfl (lv_at hl 4 rfl) ?_
      refine lv_iload hx hb d_MD_feed_66 (lv_at hl 0 rfl) ?_
      refine lv_ishr hx hb d_MD_feed_68 ?_
      refine lv_i2b hx hb d_MD_feed_69 rfl ?_
      refine xbast (k := (n + 4) + 0) (x' := (w2 >>> ((24 : Int32) &&& 31)).toInt8.toInt32) (ws1 := wsM bd cm 0 n (upd (upd fr (n + 0) ((w1 >>> ((24 : Int32) &&& 31)).toInt8.toInt32)) ((n + 4) + 0) ((w2 >>> ((24 : Int32) &&& 31)).toInt8.toInt32)) a z le wy fo en fF fA fB fS fW sk pg ye ys yt yg yp tk gF gA gB gS gW yk) hx hb hK hP hD hS 1 0 rfl rfl (rfl) (by omega) (by decide) (pk_vb _) rfl d_MD_feed_70 (fun H locs hP hD hS => ?_)
      refine lv_aload_n hx hb d_MD_feed_71 rfl (lv_at hl 2 rfl) ?_
      refine va_get (D := (dC, dI)) (ci := 7) (v := .ref (bd 1)) (C := R_MD) (T := T_MD) (N := 28) hx hb hts i_MD hown hK hP 0 rfl rfl 2 (by decide) (hts _ wd_394) (fun _ h9 => h9) rfl d_MD_feed_72 ?_
      refine lv_aload_n hx hb d_MD_feed_75 rfl (lv_at hl 2 rfl) ?_
      refine va_get (D := (dC, dI)) (ci := 7) (v := .int (nI n)) (C := R_MD) (T := T_MD) (N := 28) hx hb hts i_MD hown hK hP 0 rfl rfl 1 (by decide) (hts _ wd_393) (fun _ h9 => h9) rfl d_MD_feed_76 ?_
      refine lv_bipush (v := 8) hx hb d_MD_feed_79 (by decide) ?_
      refine lv_iadd hx hb d_MD_feed_81 ?_
      refine xtopi (y := nI (n + 8)) (nI_add (n) (8)) ?_
      refine lv_iload hx hb d_MD_feed_82 (lv_at hl 1 rfl) ?_
      refine lv_iadd hx hb d_MD_feed_84 ?_
      refine xtopi (y := nI ((n + 8) + 0)) (nI_add (n + 8) (0)) ?_
      refine lv_iload_n hx hb d_MD_feed_85 rfl (lv_at hl 5 rfl) ?_
      refine lv_iload hx hb d_MD_feed_86 (lv_at hl 0 rfl) ?_
      refine lv_ishr hx hb d_MD_feed_88 ?_
      refine lv_i2b hx hb d_MD_feed_89 rfl ?_
      refine xbast (k := (n + 8) + 0) (x' := (w3 >>> ((24 : Int32) &&& 31)).toInt8.toInt32) (ws1 := wsM bd cm 0 n (upd (upd (upd fr (n + 0) ((w1 >>> ((24 : Int32) &&& 31)).toInt8.toInt32)) ((n + 4) + 0) ((w2 >>> ((24 : Int32) &&& 31)).toInt8.toInt32)) ((n + 8) + 0) ((w3 >>> ((24 : Int32) &&& 31)).toInt8.toInt32)) a z le wy fo en fF fA fB fS fW sk pg ye ys yt yg yp tk gF gA gB gS gW yk) hx hb hK hP hD hS 1 0 rfl rfl (rfl) (by omega) (by decide) (pk_vb _) rfl d_MD_feed_90 (fun H locs hP hD hS => ?_)
      refine lv_aload_n hx hb d_MD_feed_91 rfl (lv_at hl 2 rfl) ?_
      refine va_get (D := (dC, dI)) (ci := 7) (v := .ref (bd 1)) (C := R_MD) (T := T_MD) (N := 28) hx hb hts i_MD hown hK hP 0 rfl rfl 2 (by decide) (hts _ wd_394) (fun _ h9 => h9) rfl d_MD_feed_92 ?_
      refine lv_aload_n hx hb d_MD_feed_95 rfl (lv_at hl 2 rfl) ?_
      refine va_get (D := (dC, dI)) (ci := 7) (v := .int (nI n)) (C := R_MD) (T := T_MD) (N := 28) hx hb hts i_MD hown hK hP 0 rfl rfl 1 (by decide) (hts _ wd_393) (fun _ h9 => h9) rfl d_MD_feed_96 ?_
      refine lv_bipush (v := 12) hx hb d_MD_feed_99 (by decide) ?_
      refine lv_iadd hx hb d_MD_feed_101 ?_
      refine xtopi (y := nI (n + 12)) (nI_add (n) (12)) ?_
      refine lv_iload hx hb d_MD_feed_102 (lv_at hl 1 rfl) ?_
      refine lv_iadd hx hb d_MD_feed_104 ?_
      refine xtopi (y := nI ((n + 12) + 0)) (nI_add (n + 12) (0)) ?_
      refine lv_iload hx hb d_MD_feed_105 (lv_at hl 6 rfl) ?_
      refine lv_iload hx hb d_MD_feed_107 (lv_at hl 0 rfl) ?_
      refine lv_ishr hx hb d_MD_feed_109 ?_
      refine lv_i2b hx hb d_MD_feed_110 rfl ?_
      refine xbast (k := (n + 12) + 0) (x' := (w4 >>> ((24 : Int32) &&& 31)).toInt8.toInt32) (ws1 := wsM bd cm 0 n (upd (upd (upd (upd fr (n + 0) ((w1 >>> ((24 : Int32) &&& 31)).toInt8.toInt32)) ((n + 4) + 0) ((w2 >>> ((24 : Int32) &&& 31)).toInt8.toInt32)) ((n + 8) + 0) ((w3 >>> ((24 : Int32) &&& 31)).toInt8.toInt32)) ((n + 12) + 0) ((w4 >>> ((24 : Int32) &&& 31)).toInt8.toInt32)) a z le wy fo en fF fA fB fS fW sk pg ye ys yt yg yp tk gF gA gB gS gW yk) hx hb hK hP hD hS 1 0 rfl rfl (rfl) (by omega) (by decide) (pk_vb _) rfl d_MD_feed_111 (fun H locs hP hD hS => ?_)
      refine lv_aload_n hx hb d_MD_feed_112 rfl (lv_at hl 2 rfl) ?_
      refine va_get (D := (dC, dI)) (ci := 7) (v := .ref (bd 1)) (C := R_MD) (T := T_MD) (N := 28) hx hb hts i_MD hown hK hP 0 rfl rfl 2 (by decide) (hts _ wd_394) (fun _ h9 => h9) rfl d_MD_feed_113 ?_
      refine lv_aload_n hx hb d_MD_feed_116 rfl (lv_at hl 2 rfl) ?_
      refine va_get (D := (dC, dI)) (ci := 7) (v := .int (nI n)) (C := R_MD) (T := T_MD) (N := 28) hx hb hts i_MD hown hK hP 0 rfl rfl 1 (by decide) (hts _ wd_393) (fun _ h9 => h9) rfl d_MD_feed_117 ?_
      refine lv_bipush (v := 16) hx hb d_MD_feed_120 (by decide) ?_
      refine lv_iadd hx hb d_MD_feed_122 ?_
      refine xtopi (y := nI (n + 16)) (nI_add (n) (16)) ?_
      refine lv_iload hx hb d_MD_feed_123 (lv_at hl 1 rfl) ?_
      refine lv_iadd hx hb d_MD_feed_125 ?_
      refine xtopi (y := nI ((n + 16) + 0)) (nI_add (n + 16) (0)) ?_
      refine lv_iload hx hb d_MD_feed_126 (lv_at hl 7 rfl) ?_
      refine lv_iload hx hb d_MD_feed_128 (lv_at hl 0 rfl) ?_
      refine lv_ishr hx hb d_MD_feed_130 ?_
      refine lv_i2b hx hb d_MD_feed_131 rfl ?_
      refine xbast (k := (n + 16) + 0) (x' := (w5 >>> ((24 : Int32) &&& 31)).toInt8.toInt32) (ws1 := wsM bd cm 0 n (upd (upd (upd (upd (upd fr (n + 0) ((w1 >>> ((24 : Int32) &&& 31)).toInt8.toInt32)) ((n + 4) + 0) ((w2 >>> ((24 : Int32) &&& 31)).toInt8.toInt32)) ((n + 8) + 0) ((w3 >>> ((24 : Int32) &&& 31)).toInt8.toInt32)) ((n + 12) + 0) ((w4 >>> ((24 : Int32) &&& 31)).toInt8.toInt32)) ((n + 16) + 0) ((w5 >>> ((24 : Int32) &&& 31)).toInt8.toInt32)) a z le wy fo en fF fA fB fS fW sk pg ye ys yt yg yp tk gF gA gB gS gW yk) hx hb hK hP hD hS 1 0 rfl rfl (rfl) (by omega) (by decide) (pk_vb _) rfl d_MD_feed_132 (fun H locs hP hD hS => ?_)
      refine lv_iinc (v := 1) (lv' := [(6, .int 1), (7, .int 24), (0, .ref (bd 0)), (1, .int w1), (2, .int w2), (3, .int w3), (4, .int w4), (5, .int w5)]) hx hb d_MD_feed_133 hl (k := 1) rfl rfl (by decide) rfl (fun ls hl => ?_)
      refine lv_goto (tgt := 19) hx hb d_MD_feed_136 (by decide) ?_
      refine lv_iload hx hb d_MD_feed_19 (lv_at hl 0 rfl) ?_
      refine lv_iconst (v := 4) hx hb d_MD_feed_21 (by decide) ?_
      refine lv_icmp_ge (tgt := 139) hx hb d_MD_feed_22 (by decide) (fun c_3 => ?_) (fun c_3 => ?_)
      · exact absurd c_3 (by decide)
      · skip
        refine lv_bipush (v := 24) hx hb d_MD_feed_25 (by decide) ?_
        refine lv_bipush (v := 8) hx hb d_MD_feed_27 (by decide) ?_
        refine lv_iload hx hb d_MD_feed_29 (lv_at hl 0 rfl) ?_
        refine lv_imul hx hb d_MD_feed_31 ?_
        refine lv_isub hx hb d_MD_feed_32 ?_
        refine xtopi (y := 16) (by decide) ?_
        refine lv_istore (lv' := [(7, .int 16), (6, .int 1), (0, .ref (bd 0)), (1, .int w1), (2, .int w2), (3, .int w3), (4, .int w4), (5, .int w5)]) hx hb d_MD_feed_33 hl (by decide) rfl (fun ls hl => ?_)
        refine lv_aload_n hx hb d_MD_feed_35 rfl (lv_at hl 2 rfl) ?_
        refine va_get (D := (dC, dI)) (ci := 7) (v := .ref (bd 1)) (C := R_MD) (T := T_MD) (N := 28) hx hb hts i_MD hown hK hP 0 rfl rfl 2 (by decide) (hts _ wd_394) (fun _ h9 => h9) rfl d_MD_feed_36 ?_
        refine lv_aload_n hx hb d_MD_feed_39 rfl (lv_at hl 2 rfl) ?_
        refine va_get (D := (dC, dI)) (ci := 7) (v := .int (nI n)) (C := R_MD) (T := T_MD) (N := 28) hx hb hts i_MD hown hK hP 0 rfl rfl 1 (by decide) (hts _ wd_393) (fun _ h9 => h9) rfl d_MD_feed_40 ?_
        refine lv_iload hx hb d_MD_feed_43 (lv_at hl 1 rfl) ?_
        refine lv_iadd hx hb d_MD_feed_45 ?_
        refine xtopi (y := nI (n + 1)) (nI_add (n) (1)) ?_
        refine lv_iload_n hx hb d_MD_feed_46 rfl (lv_at hl 3 rfl) ?_
        refine lv_iload hx hb d_MD_feed_47 (lv_at hl 0 rfl) ?_
        refine lv_ishr hx hb d_MD_feed_49 ?_
        refine lv_i2b hx hb d_MD_feed_50 rfl ?_
        refine xbast (k := n + 1) (x' := (w1 >>> ((16 : Int32) &&& 31)).toInt8.toInt32) (ws1 := wsM bd cm 0 n (upd (upd (upd (upd (upd (upd fr (n + 0) ((w1 >>> ((24 : Int32) &&& 31)).toInt8.toInt32)) ((n + 4) + 0) ((w2 >>> ((24 : Int32) &&& 31)).toInt8.toInt32)) ((n + 8) + 0) ((w3 >>> ((24 : Int32) &&& 31)).toInt8.toInt32)) ((n + 12) + 0) ((w4 >>> ((24 : Int32) &&& 31)).toInt8.toInt32)) ((n + 16) + 0) ((w5 >>> ((24 : Int32) &&& 31)).toInt8.toInt32)) (n + 1) ((w1 >>> ((16 : Int32) &&& 31)).toInt8.toInt32)) a z le wy fo en fF fA fB fS fW sk pg ye ys yt yg yp tk gF gA gB gS gW yk) hx hb hK hP hD hS 1 0 rfl rfl (rfl) (by omega) (by decide) (pk_vb _) rfl d_MD_feed_51 (fun H locs hP hD hS => ?_)
        refine lv_aload_n hx hb d_MD_feed_52 rfl (lv_at hl 2 rfl) ?_
        refine va_get (D := (dC, dI)) (ci := 7) (v := .ref (bd 1)) (C := R_MD) (T := T_MD) (N := 28) hx hb hts i_MD hown hK hP 0 rfl rfl 2 (by decide) (hts _ wd_394) (fun _ h9 => h9) rfl d_MD_feed_53 ?_
        refine lv_aload_n hx hb d_MD_feed_56 rfl (lv_at hl 2 rfl) ?_
        refine va_get (D := (dC, dI)) (ci := 7) (v := .int (nI n)) (C := R_MD) (T := T_MD) (N := 28) hx hb hts i_MD hown hK hP 0 rfl rfl 1 (by decide) (hts _ wd_393) (fun _ h9 => h9) rfl d_MD_feed_57 ?_
        refine lv_iconst (v := 4) hx hb d_MD_feed_60 (by decide) ?_
        refine lv_iadd hx hb d_MD_feed_61 ?_
        refine xtopi (y := nI (n + 4)) (nI_add (n) (4)) ?_
        refine lv_iload hx hb d_MD_feed_62 (lv_at hl 1 rfl) ?_
        refine lv_iadd hx hb d_MD_feed_64 ?_
        refine xtopi (y := nI ((n + 4) + 1)) (nI_add (n + 4) (1)) ?_
        refine lv_iload_n hx hb d_MD_feed_65 rfl (lv_at hl 4 rfl) ?_
        refine lv_iload hx hb d_MD_feed_66 (lv_at hl 0 rfl) ?_
        refine lv_ishr hx hb d_MD_feed_68 ?_
        refine lv_i2b hx hb d_MD_feed_69 rfl ?_
        refine xbast (k := (n + 4) + 1) (x' := (w2 >>> ((16 : Int32) &&& 31)).toInt8.toInt32) (ws1 := wsM bd cm 0 n (upd (upd (upd (upd (upd (upd (upd fr (n + 0) ((w1 >>> ((24 : Int32) &&& 31)).toInt8.toInt32)) ((n + 4) + 0) ((w2 >>> ((24 : Int32) &&& 31)).toInt8.toInt32)) ((n + 8) + 0) ((w3 >>> ((24 : Int32) &&& 31)).toInt8.toInt32)) ((n + 12) + 0) ((w4 >>> ((24 : Int32) &&& 31)).toInt8.toInt32)) ((n + 16) + 0) ((w5 >>> ((24 : Int32) &&& 31)).toInt8.toInt32)) (n + 1) ((w1 >>> ((16 : Int32) &&& 31)).toInt8.toInt32)) ((n + 4) + 1) ((w2 >>> ((16 : Int32) &&& 31)).toInt8.toInt32)) a z le wy fo en fF fA fB fS fW sk pg ye ys yt yg yp tk gF gA gB gS gW yk) hx hb hK hP hD hS 1 0 rfl rfl (rfl) (by omega) (by decide) (pk_vb _) rfl d_MD_feed_70 (fun H locs hP hD hS => ?_)
        refine lv_aload_n hx hb d_MD_feed_71 rfl (lv_at hl 2 rfl) ?_
        refine va_get (D := (dC, dI)) (ci := 7) (v := .ref (bd 1)) (C := R_MD) (T := T_MD) (N := 28) hx hb hts i_MD hown hK hP 0 rfl rfl 2 (by decide) (hts _ wd_394) (fun _ h9 => h9) rfl d_MD_feed_72 ?_
        refine lv_aload_n hx hb d_MD_feed_75 rfl (lv_at hl 2 rfl) ?_
        refine va_get (D := (dC, dI)) (ci := 7) (v := .int (nI n)) (C := R_MD) (T := T_MD) (N := 28) hx hb hts i_MD hown hK hP 0 rfl rfl 1 (by decide) (hts _ wd_393) (fun _ h9 => h9) rfl d_MD_feed_76 ?_
        refine lv_bipush (v := 8) hx hb d_MD_feed_79 (by decide) ?_
        refine lv_iadd hx hb d_MD_feed_81 ?_
        refine xtopi (y := nI (n + 8)) (nI_add (n) (8)) ?_
        refine lv_iload hx hb d_MD_feed_82 (lv_at hl 1 rfl) ?_
        refine lv_iadd hx hb d_MD_feed_84 ?_
        refine xtopi (y := nI ((n + 8) + 1)) (nI_add (n + 8) (1)) ?_
        refine lv_iload_n hx hb d_MD_feed_85 rfl (lv_at hl 5 rfl) ?_
        refine lv_iload hx hb d_MD_feed_86 (lv_at hl 0 rfl) ?_
        refine lv_ishr hx hb d_MD_feed_88 ?_
        refine lv_i2b hx hb d_MD_feed_89 rfl ?_
        refine xbast (k := (n + 8) + 1) (x' := (w3 >>> ((16 : Int32) &&& 31)).toInt8.toInt32) (ws1 := wsM bd cm 0 n (upd (upd (upd (upd (upd (upd (upd (upd fr (n + 0) ((w1 >>> ((24 : Int32) &&& 31)).toInt8.toInt32)) ((n + 4) + 0) ((w2 >>> ((24 : Int32) &&& 31)).toInt8.toInt32)) ((n + 8) + 0) ((w3 >>> ((24 : Int32) &&& 31)).toInt8.toInt32)) ((n + 12) + 0) ((w4 >>> ((24 : Int32) &&& 31)).toInt8.toInt32)) ((n + 16) + 0) ((w5 >>> ((24 : Int32) &&& 31)).toInt8.toInt32)) (n + 1) ((w1 >>> ((16 : Int32) &&& 31)).toInt8.toInt32)) ((n + 4) + 1) ((w2 >>> ((16 : Int32) &&& 31)).toInt8.toInt32)) ((n + 8) + 1) ((w3 >>> ((16 : Int32) &&& 31)).toInt8.toInt32)) a z le wy fo en fF fA fB fS fW sk pg ye ys yt yg yp tk gF gA gB gS gW yk) hx hb hK hP hD hS 1 0 rfl rfl (rfl) (by omega) (by decide) (pk_vb _) rfl d_MD_feed_90 (fun H locs hP hD hS => ?_)
        refine lv_aload_n hx hb d_MD_feed_91 rfl (lv_at hl 2 rfl) ?_
        refine va_get (D := (dC, dI)) (ci := 7) (v := .ref (bd 1)) (C := R_MD) (T := T_MD) (N := 28) hx hb hts i_MD hown hK hP 0 rfl rfl 2 (by decide) (hts _ wd_394) (fun _ h9 => h9) rfl d_MD_feed_92 ?_
        refine lv_aload_n hx hb d_MD_feed_95 rfl (lv_at hl 2 rfl) ?_
        refine va_get (D := (dC, dI)) (ci := 7) (v := .int (nI n)) (C := R_MD) (T := T_MD) (N := 28) hx hb hts i_MD hown hK hP 0 rfl rfl 1 (by decide) (hts _ wd_393) (fun _ h9 => h9) rfl d_MD_feed_96 ?_
        refine lv_bipush (v := 12) hx hb d_MD_feed_99 (by decide) ?_
        refine lv_iadd hx hb d_MD_feed_101 ?_
        refine xtopi (y := nI (n + 12)) (nI_add (n) (12)) ?_
        refine lv_iload hx hb d_MD_feed_102 (lv_at hl 1 rfl) ?_
        refine lv_iadd hx hb d_MD_feed_104 ?_
        refine xtopi (y := nI ((n + 12) + 1)) (nI_add (n + 12) (1)) ?_
        refine lv_iload hx hb d_MD_feed_105 (lv_at hl 6 rfl) ?_
        refine lv_iload hx hb d_MD_feed_107 (lv_at hl 0 rfl) ?_
        refine lv_ishr hx hb d_MD_feed_109 ?_
        refine lv_i2b hx hb d_MD_feed_110 rfl ?_
        refine xbast (k := (n + 12) + 1) (x' := (w4 >>> ((16 : Int32) &&& 31)).toInt8.toInt32) (ws1 := wsM bd cm 0 n (upd (upd (upd (upd (upd (upd (upd (upd (upd fr (n + 0) ((w1 >>> ((24 : Int32) &&& 31)).toInt8.toInt32)) ((n + 4) + 0) ((w2 >>> ((24 : Int32) &&& 31)).toInt8.toInt32)) ((n + 8) + 0) ((w3 >>> ((24 : Int32) &&& 31)).toInt8.toInt32)) ((n + 12) + 0) ((w4 >>> ((24 : Int32) &&& 31)).toInt8.toInt32)) ((n + 16) + 0) ((w5 >>> ((24 : Int32) &&& 31)).toInt8.toInt32)) (n + 1) ((w1 >>> ((16 : Int32) &&& 31)).toInt8.toInt32)) ((n + 4) + 1) ((w2 >>> ((16 : Int32) &&& 31)).toInt8.toInt32)) ((n + 8) + 1) ((w3 >>> ((16 : Int32) &&& 31)).toInt8.toInt32)) ((n + 12) + 1) ((w4 >>> ((16 : Int32) &&& 31)).toInt8.toInt32)) a z le wy fo en fF fA fB fS fW sk pg ye ys yt yg yp tk gF gA gB gS gW yk) hx hb hK hP hD hS 1 0 rfl rfl (rfl) (by omega) (by decide) (pk_vb _) rfl d_MD_feed_111 (fun H locs hP hD hS => ?_)
        refine lv_aload_n hx hb d_MD_feed_112 rfl (lv_at hl 2 rfl) ?_
        refine va_get (D := (dC, dI)) (ci := 7) (v := .ref (bd 1)) (C := R_MD) (T := T_MD) (N := 28) hx hb hts i_MD hown hK hP 0 rfl rfl 2 (by decide) (hts _ wd_394) (fun _ h9 => h9) rfl d_MD_feed_113 ?_
        refine lv_aload_n hx hb d_MD_feed_116 rfl (lv_at hl 2 rfl) ?_
        refine va_get (D := (dC, dI)) (ci := 7) (v := .int (nI n)) (C := R_MD) (T := T_MD) (N := 28) hx hb hts i_MD hown hK hP 0 rfl rfl 1 (by decide) (hts _ wd_393) (fun _ h9 => h9) rfl d_MD_feed_117 ?_
        refine lv_bipush (v := 16) hx hb d_MD_feed_120 (by decide) ?_
        refine lv_iadd hx hb d_MD_feed_122 ?_
        refine xtopi (y := nI (n + 16)) (nI_add (n) (16)) ?_
        refine lv_iload hx hb d_MD_feed_123 (lv_at hl 1 rfl) ?_
        refine lv_iadd hx hb d_MD_feed_125 ?_
        refine xtopi (y := nI ((n + 16) + 1)) (nI_add (n + 16) (1)) ?_
        refine lv_iload hx hb d_MD_feed_126 (lv_at hl 7 rfl) ?_
        refine lv_iload hx hb d_MD_feed_128 (lv_at hl 0 rfl) ?_
        refine lv_ishr hx hb d_MD_feed_130 ?_
        refine lv_i2b hx hb d_MD_feed_131 rfl ?_
        refine xbast (k := (n + 16) + 1) (x' := (w5 >>> ((16 : Int32) &&& 31)).toInt8.toInt32) (ws1 := wsM bd cm 0 n (upd (upd (upd (upd (upd (upd (upd (upd (upd (upd fr (n + 0) ((w1 >>> ((24 : Int32) &&& 31)).toInt8.toInt32)) ((n + 4) + 0) ((w2 >>> ((24 : Int32) &&& 31)).toInt8.toInt32)) ((n + 8) + 0) ((w3 >>> ((24 : Int32) &&& 31)).toInt8.toInt32)) ((n + 12) + 0) ((w4 >>> ((24 : Int32) &&& 31)).toInt8.toInt32)) ((n + 16) + 0) ((w5 >>> ((24 : Int32) &&& 31)).toInt8.toInt32)) (n + 1) ((w1 >>> ((16 : Int32) &&& 31)).toInt8.toInt32)) ((n + 4) + 1) ((w2 >>> ((16 : Int32) &&& 31)).toInt8.toInt32)) ((n + 8) + 1) ((w3 >>> ((16 : Int32) &&& 31)).toInt8.toInt32)) ((n + 12) + 1) ((w4 >>> ((16 : Int32) &&& 31)).toInt8.toInt32)) ((n + 16) + 1) ((w5 >>> ((16 : Int32) &&& 31)).toInt8.toInt32)) a z le wy fo en fF fA fB fS fW sk pg ye ys yt yg yp tk gF gA gB gS gW yk) hx hb hK hP hD hS 1 0 rfl rfl (rfl) (by omega) (by decide) (pk_vb _) rfl d_MD_feed_132 (fun H locs hP hD hS => ?_)
        refine lv_iinc (v := 2) (lv' := [(6, .int 2), (7, .int 16), (0, .ref (bd 0)), (1, .int w1), (2, .int w2), (3, .int w3), (4, .int w4), (5, .int w5)]) hx hb d_MD_feed_133 hl (k := 1) rfl rfl (by decide) rfl (fun ls hl => ?_)
        refine lv_goto (tgt := 19) hx hb d_MD_feed_136 (by decide) ?_
        refine lv_iload hx hb d_MD_feed_19 (lv_at hl 0 rfl) ?_
        refine lv_iconst (v := 4) hx hb d_MD_feed_21 (by decide) ?_
        refine lv_icmp_ge (tgt := 139) hx hb d_MD_feed_22 (by decide) (fun c_4 => ?_) (fun c_4 => ?_)
        · exact absurd c_4 (by decide)
        · skip
          refine lv_bipush (v := 24) hx hb d_MD_feed_25 (by decide) ?_
          refine lv_bipush (v := 8) hx hb d_MD_feed_27 (by decide) ?_
          refine lv_iload hx hb d_MD_feed_29 (lv_at hl 0 rfl) ?_
          refine lv_imul hx hb d_MD_feed_31 ?_
          refine lv_isub hx hb d_MD_feed_32 ?_
          refine xtopi (y := 8) (by decide) ?_
          refine lv_istore (lv' := [(7, .int 8), (6, .int 2), (0, .ref (bd 0)), (1, .int w1), (2, .int w2), (3, .int w3), (4, .int w4), (5, .int w5)]) hx hb d_MD_feed_33 hl (by decide) rfl (fun ls hl => ?_)
          refine lv_aload_n hx hb d_MD_feed_35 rfl (lv_at hl 2 rfl) ?_
          refine va_get (D := (dC, dI)) (ci := 7) (v := .ref (bd 1)) (C := R_MD) (T := T_MD) (N := 28) hx hb hts i_MD hown hK hP 0 rfl rfl 2 (by decide) (hts _ wd_394) (fun _ h9 => h9) rfl d_MD_feed_36 ?_
          refine lv_aload_n hx hb d_MD_feed_39 rfl (lv_at hl 2 rfl) ?_
          refine va_get (D := (dC, dI)) (ci := 7) (v := .int (nI n)) (C := R_MD) (T := T_MD) (N := 28) hx hb hts i_MD hown hK hP 0 rfl rfl 1 (by decide) (hts _ wd_393) (fun _ h9 => h9) rfl d_MD_feed_40 ?_
          refine lv_iload hx hb d_MD_feed_43 (lv_at hl 1 rfl) ?_
          refine lv_iadd hx hb d_MD_feed_45 ?_
          refine xtopi (y := nI (n + 2)) (nI_add (n) (2)) ?_
          refine lv_iload_n hx hb d_MD_feed_46 rfl (lv_at hl 3 rfl) ?_
          refine lv_iload hx hb d_MD_feed_47 (lv_at hl 0 rfl) ?_
          refine lv_ishr hx hb d_MD_feed_49 ?_
          refine lv_i2b hx hb d_MD_feed_50 rfl ?_
          refine xbast (k := n + 2) (x' := (w1 >>> ((8 : Int32) &&& 31)).toInt8.toInt32) (ws1 := wsM bd cm 0 n (upd (upd (upd (upd (upd (upd (upd (upd (upd (upd (upd fr (n + 0) ((w1 >>> ((24 : Int32) &&& 31)).toInt8.toInt32)) ((n + 4) + 0) ((w2 >>> ((24 : Int32) &&& 31)).toInt8.toInt32)) ((n + 8) + 0) ((w3 >>> ((24 : Int32) &&& 31)).toInt8.toInt32)) ((n + 12) + 0) ((w4 >>> ((24 : Int32) &&& 31)).toInt8.toInt32)) ((n + 16) + 0) ((w5 >>> ((24 : Int32) &&& 31)).toInt8.toInt32)) (n + 1) ((w1 >>> ((16 : Int32) &&& 31)).toInt8.toInt32)) ((n + 4) + 1) ((w2 >>> ((16 : Int32) &&& 31)).toInt8.toInt32)) ((n + 8) + 1) ((w3 >>> ((16 : Int32) &&& 31)).toInt8.toInt32)) ((n + 12) + 1) ((w4 >>> ((16 : Int32) &&& 31)).toInt8.toInt32)) ((n + 16) + 1) ((w5 >>> ((16 : Int32) &&& 31)).toInt8.toInt32)) (n + 2) ((w1 >>> ((8 : Int32) &&& 31)).toInt8.toInt32)) a z le wy fo en fF fA fB fS fW sk pg ye ys yt yg yp tk gF gA gB gS gW yk) hx hb hK hP hD hS 1 0 rfl rfl (rfl) (by omega) (by decide) (pk_vb _) rfl d_MD_feed_51 (fun H locs hP hD hS => ?_)
          refine lv_aload_n hx hb d_MD_feed_52 rfl (lv_at hl 2 rfl) ?_
          refine va_get (D := (dC, dI)) (ci := 7) (v := .ref (bd 1)) (C := R_MD) (T := T_MD) (N := 28) hx hb hts i_MD hown hK hP 0 rfl rfl 2 (by decide) (hts _ wd_394) (fun _ h9 => h9) rfl d_MD_feed_53 ?_
          refine lv_aload_n hx hb d_MD_feed_56 rfl (lv_at hl 2 rfl) ?_
          refine va_get (D := (dC, dI)) (ci := 7) (v := .int (nI n)) (C := R_MD) (T := T_MD) (N := 28) hx hb hts i_MD hown hK hP 0 rfl rfl 1 (by decide) (hts _ wd_393) (fun _ h9 => h9) rfl d_MD_feed_57 ?_
          refine lv_iconst (v := 4) hx hb d_MD_feed_60 (by decide) ?_
          refine lv_iadd hx hb d_MD_feed_61 ?_
          refine xtopi (y := nI (n + 4)) (nI_add (n) (4)) ?_
          refine lv_iload hx hb d_MD_feed_62 (lv_at hl 1 rfl) ?_
          refine lv_iadd hx hb d_MD_feed_64 ?_
          refine xtopi (y := nI ((n + 4) + 2)) (nI_add (n + 4) (2)) ?_
          refine lv_iload_n hx hb d_MD_feed_65 rfl (lv_at hl 4 rfl) ?_
          refine lv_iload hx hb d_MD_feed_66 (lv_at hl 0 rfl) ?_
          refine lv_ishr hx hb d_MD_feed_68 ?_
          refine lv_i2b hx hb d_MD_feed_69 rfl ?_
          refine xbast (k := (n + 4) + 2) (x' := (w2 >>> ((8 : Int32) &&& 31)).toInt8.toInt32) (ws1 := wsM bd cm 0 n (upd (upd (upd (upd (upd (upd (upd (upd (upd (upd (upd (upd fr (n + 0) ((w1 >>> ((24 : Int32) &&& 31)).toInt8.toInt32)) ((n + 4) + 0) ((w2 >>> ((24 : Int32) &&& 31)).toInt8.toInt32)) ((n + 8) + 0) ((w3 >>> ((24 : Int32) &&& 31)).toInt8.toInt32)) ((n + 12) + 0) ((w4 >>> ((24 : Int32) &&& 31)).toInt8.toInt32)) ((n + 16) + 0) ((w5 >>> ((24 : Int32) &&& 31)).toInt8.toInt32)) (n + 1) ((w1 >>> ((16 : Int32) &&& 31)).toInt8.toInt32)) ((n + 4) + 1) ((w2 >>> ((16 : Int32) &&& 31)).toInt8.toInt32)) ((n + 8) + 1) ((w3 >>> ((16 : Int32) &&& 31)).toInt8.toInt32)) ((n + 12) + 1) ((w4 >>> ((16 : Int32) &&& 31)).toInt8.toInt32)) ((n + 16) + 1) ((w5 >>> ((16 : Int32) &&& 31)).toInt8.toInt32)) (n + 2) ((w1 >>> ((8 : Int32) &&& 31)).toInt8.toInt32)) ((n + 4) + 2) ((w2 >>> ((8 : Int32) &&& 31)).toInt8.toInt32)) a z le wy fo en fF fA fB fS fW sk pg ye ys yt yg yp tk gF gA gB gS gW yk) hx hb hK hP hD hS 1 0 rfl rfl (rfl) (by omega) (by decide) (pk_vb _) rfl d_MD_feed_70 (fun H locs hP hD hS => ?_)
          refine lv_aload_n hx hb d_MD_feed_71 rfl (lv_at hl 2 rfl) ?_
          refine va_get (D := (dC, dI)) (ci := 7) (v := .ref (bd 1)) (C := R_MD) (T := T_MD) (N := 28) hx hb hts i_MD hown hK hP 0 rfl rfl 2 (by decide) (hts _ wd_394) (fun _ h9 => h9) rfl d_MD_feed_72 ?_
          refine lv_aload_n hx hb d_MD_feed_75 rfl (lv_at hl 2 rfl) ?_
          refine va_get (D := (dC, dI)) (ci := 7) (v := .int (nI n)) (C := R_MD) (T := T_MD) (N := 28) hx hb hts i_MD hown hK hP 0 rfl rfl 1 (by decide) (hts _ wd_393) (fun _ h9 => h9) rfl d_MD_feed_76 ?_
          refine lv_bipush (v := 8) hx hb d_MD_feed_79 (by decide) ?_
          refine lv_iadd hx hb d_MD_feed_81 ?_
          refine xtopi (y := nI (n + 8)) (nI_add (n) (8)) ?_
          refine lv_iload hx hb d_MD_feed_82 (lv_at hl 1 rfl) ?_
          refine lv_iadd hx hb d_MD_feed_84 ?_
          refine xtopi (y := nI ((n + 8) + 2)) (nI_add (n + 8) (2)) ?_
          refine lv_iload_n hx hb d_MD_feed_85 rfl (lv_at hl 5 rfl) ?_
          refine lv_iload hx hb d_MD_feed_86 (lv_at hl 0 rfl) ?_
          refine lv_ishr hx hb d_MD_feed_88 ?_
          refine lv_i2b hx hb d_MD_feed_89 rfl ?_
          refine xbast (k := (n + 8) + 2) (x' := (w3 >>> ((8 : Int32) &&& 31)).toInt8.toInt32) (ws1 := wsM bd cm 0 n (upd (upd (upd (upd (upd (upd (upd (upd (upd (upd (upd (upd (upd fr (n + 0) ((w1 >>> ((24 : Int32) &&& 31)).toInt8.toInt32)) ((n + 4) + 0) ((w2 >>> ((24 : Int32) &&& 31)).toInt8.toInt32)) ((n + 8) + 0) ((w3 >>> ((24 : Int32) &&& 31)).toInt8.toInt32)) ((n + 12) + 0) ((w4 >>> ((24 : Int32) &&& 31)).toInt8.toInt32)) ((n + 16) + 0) ((w5 >>> ((24 : Int32) &&& 31)).toInt8.toInt32)) (n + 1) ((w1 >>> ((16 : Int32) &&& 31)).toInt8.toInt32)) ((n + 4) + 1) ((w2 >>> ((16 : Int32) &&& 31)).toInt8.toInt32)) ((n + 8) + 1) ((w3 >>> ((16 : Int32) &&& 31)).toInt8.toInt32)) ((n + 12) + 1) ((w4 >>> ((16 : Int32) &&& 31)).toInt8.toInt32)) ((n + 16) + 1) ((w5 >>> ((16 : Int32) &&& 31)).toInt8.toInt32)) (n + 2) ((w1 >>> ((8 : Int32) &&& 31)).toInt8.toInt32)) ((n + 4) + 2) ((w2 >>> ((8 : Int32) &&& 31)).toInt8.toInt32)) ((n + 8) + 2) ((w3 >>> ((8 : Int32) &&& 31)).toInt8.toInt32)) a z le wy fo en fF fA fB fS fW sk pg ye ys yt yg yp tk gF gA gB gS gW yk) hx hb hK hP hD hS 1 0 rfl rfl (rfl) (by omega) (by decide) (pk_vb _) rfl d_MD_feed_90 (fun H locs hP hD hS => ?_)
          refine lv_aload_n hx hb d_MD_feed_91 rfl (lv_at hl 2 rfl) ?_
          refine va_get (D := (dC, dI)) (ci := 7) (v := .ref (bd 1)) (C := R_MD) (T := T_MD) (N := 28) hx hb hts i_MD hown hK hP 0 rfl rfl 2 (by decide) (hts _ wd_394) (fun _ h9 => h9) rfl d_MD_feed_92 ?_
          refine lv_aload_n hx hb d_MD_feed_95 rfl (lv_at hl 2 rfl) ?_
          refine va_get (D := (dC, dI)) (ci := 7) (v := .int (nI n)) (C := R_MD) (T := T_MD) (N := 28) hx hb hts i_MD hown hK hP 0 rfl rfl 1 (by decide) (hts _ wd_393) (fun _ h9 => h9) rfl d_MD_feed_96 ?_
          refine lv_bipush (v := 12) hx hb d_MD_feed_99 (by decide) ?_
          refine lv_iadd hx hb d_MD_feed_101 ?_
          refine xtopi (y := nI (n + 12)) (nI_add (n) (12)) ?_
          refine lv_iload hx hb d_MD_feed_102 (lv_at hl 1 rfl) ?_
          refine lv_iadd hx hb d_MD_feed_104 ?_
          refine xtopi (y := nI ((n + 12) + 2)) (nI_add (n + 12) (2)) ?_
          refine lv_iload hx hb d_MD_feed_105 (lv_at hl 6 rfl) ?_
          refine lv_iload hx hb d_MD_feed_107 (lv_at hl 0 rfl) ?_
          refine lv_ishr hx hb d_MD_feed_109 ?_
          refine lv_i2b hx hb d_MD_feed_110 rfl ?_
          refine xbast (k := (n + 12) + 2) (x' := (w4 >>> ((8 : Int32) &&& 31)).toInt8.toInt32) (ws1 := wsM bd cm 0 n (upd (upd (upd (upd (upd (upd (upd (upd (upd (upd (upd (upd (upd (upd fr (n + 0) ((w1 >>> ((24 : Int32) &&& 31)).toInt8.toInt32)) ((n + 4) + 0) ((w2 >>> ((24 : Int32) &&& 31)).toInt8.toInt32)) ((n + 8) + 0) ((w3 >>> ((24 : Int32) &&& 31)).toInt8.toInt32)) ((n + 12) + 0) ((w4 >>> ((24 : Int32) &&& 31)).toInt8.toInt32)) ((n + 16) + 0) ((w5 >>> ((24 : Int32) &&& 31)).toInt8.toInt32)) (n + 1) ((w1 >>> ((16 : Int32) &&& 31)).toInt8.toInt32)) ((n + 4) + 1) ((w2 >>> ((16 : Int32) &&& 31)).toInt8.toInt32)) ((n + 8) + 1) ((w3 >>> ((16 : Int32) &&& 31)).toInt8.toInt32)) ((n + 12) + 1) ((w4 >>> ((16 : Int32) &&& 31)).toInt8.toInt32)) ((n + 16) + 1) ((w5 >>> ((16 : Int32) &&& 31)).toInt8.toInt32)) (n + 2) ((w1 >>> ((8 : Int32) &&& 31)).toInt8.toInt32)) ((n + 4) + 2) ((w2 >>> ((8 : Int32) &&& 31)).toInt8.toInt32)) ((n + 8) + 2) ((w3 >>> ((8 : Int32) &&& 31)).toInt8.toInt32)) ((n + 12) + 2) ((w4 >>> ((8 : Int32) &&& 31)).toInt8.toInt32)) a z le wy fo en fF fA fB fS fW sk pg ye ys yt yg yp tk gF gA gB gS gW yk) hx hb hK hP hD hS 1 0 rfl rfl (rfl) (by omega) (by decide) (pk_vb _) rfl d_MD_feed_111 (fun H locs hP hD hS => ?_)
          refine lv_aload_n hx hb d_MD_feed_112 rfl (lv_at hl 2 rfl) ?_
          refine va_get (D := (dC, dI)) (ci := 7) (v := .ref (bd 1)) (C := R_MD) (T := T_MD) (N := 28) hx hb hts i_MD hown hK hP 0 rfl rfl 2 (by decide) (hts _ wd_394) (fun _ h9 => h9) rfl d_MD_feed_113 ?_
          refine lv_aload_n hx hb d_MD_feed_116 rfl (lv_at hl 2 rfl) ?_
          refine va_get (D := (dC, dI)) (ci := 7) (v := .int (nI n)) (C := R_MD) (T := T_MD) (N := 28) hx hb hts i_MD hown hK hP 0 rfl rfl 1 (by decide) (hts _ wd_393) (fun _ h9 => h9) rfl d_MD_feed_117 ?_
          refine lv_bipush (v := 16) hx hb d_MD_feed_120 (by decide) ?_
          refine lv_iadd hx hb d_MD_feed_122 ?_
          refine xtopi (y := nI (n + 16)) (nI_add (n) (16)) ?_
          refine lv_iload hx hb d_MD_feed_123 (lv_at hl 1 rfl) ?_
          refine lv_iadd hx hb d_MD_feed_125 ?_
          refine xtopi (y := nI ((n + 16) + 2)) (nI_add (n + 16) (2)) ?_
          refine lv_iload hx hb d_MD_feed_126 (lv_at hl 7 rfl) ?_
          refine lv_iload hx hb d_MD_feed_128 (lv_at hl 0 rfl) ?_
          refine lv_ishr hx hb d_MD_feed_130 ?_
          refine lv_i2b hx hb d_MD_feed_131 rfl ?_
          refine xbast (k := (n + 16) + 2) (x' := (w5 >>> ((8 : Int32) &&& 31)).toInt8.toInt32) (ws1 := wsM bd cm 0 n (upd (upd (upd (upd (upd (upd (upd (upd (upd (upd (upd (upd (upd (upd (upd fr (n + 0) ((w1 >>> ((24 : Int32) &&& 31)).toInt8.toInt32)) ((n + 4) + 0) ((w2 >>> ((24 : Int32) &&& 31)).toInt8.toInt32)) ((n + 8) + 0) ((w3 >>> ((24 : Int32) &&& 31)).toInt8.toInt32)) ((n + 12) + 0) ((w4 >>> ((24 : Int32) &&& 31)).toInt8.toInt32)) ((n + 16) + 0) ((w5 >>> ((24 : Int32) &&& 31)).toInt8.toInt32)) (n + 1) ((w1 >>> ((16 : Int32) &&& 31)).toInt8.toInt32)) ((n + 4) + 1) ((w2 >>> ((16 : Int32) &&& 31)).toInt8.toInt32)) ((n + 8) + 1) ((w3 >>> ((16 : Int32) &&& 31)).toInt8.toInt32)) ((n + 12) + 1) ((w4 >>> ((16 : Int32) &&& 31)).toInt8.toInt32)) ((n + 16) + 1) ((w5 >>> ((16 : Int32) &&& 31)).toInt8.toInt32)) (n + 2) ((w1 >>> ((8 : Int32) &&& 31)).toInt8.toInt32)) ((n + 4) + 2) ((w2 >>> ((8 : Int32) &&& 31)).toInt8.toInt32)) ((n + 8) + 2) ((w3 >>> ((8 : Int32) &&& 31)).toInt8.toInt32)) ((n + 12) + 2) ((w4 >>> ((8 : Int32) &&& 31)).toInt8.toInt32)) ((n + 16) + 2) ((w5 >>> ((8 : Int32) &&& 31)).toInt8.toInt32)) a z le wy fo en fF fA fB fS fW sk pg ye ys yt yg yp tk gF gA gB gS gW yk) hx hb hK hP hD hS 1 0 rfl rfl (rfl) (by omega) (by decide) (pk_vb _) rfl d_MD_feed_132 (fun H locs hP hD hS => ?_)
          refine lv_iinc (v := 3) (lv' := [(6, .int 3), (7, .int 8), (0, .ref (bd 0)), (1, .int w1), (2, .int w2), (3, .int w3), (4, .int w4), (5, .int w5)]) hx hb d_MD_feed_133 hl (k := 1) rfl rfl (by decide) rfl (fun ls hl => ?_)
          refine lv_goto (tgt := 19) hx hb d_MD_feed_136 (by decide) ?_
          refine lv_iload hx hb d_MD_feed_19 (lv_at hl 0 rfl) ?_
          refine lv_iconst (v := 4) hx hb d_MD_feed_21 (by decide) ?_
          refine lv_icmp_ge (tgt := 139) hx hb d_MD_feed_22 (by decide) (fun c_5 => ?_) (fun c_5 => ?_)
          · exact absurd c_5 (by decide)
          · skip
            refine lv_bipush (v := 24) hx hb d_MD_feed_25 (by decide) ?_
            refine lv_bipush (v := 8) hx hb d_MD_feed_27 (by decide) ?_
            refine lv_iload hx hb d_MD_feed_29 (lv_at hl 0 rfl) ?_
            refine lv_imul hx hb d_MD_feed_31 ?_
            refine lv_isub hx hb d_MD_feed_32 ?_
            refine xtopi (y := 0) (by decide) ?_
            refine lv_istore (lv' := [(7, .int 0), (6, .int 3), (0, .ref (bd 0)), (1, .int w1), (2, .int w2), (3, .int w3), (4, .int w4), (5, .int w5)]) hx hb d_MD_feed_33 hl (by decide) rfl (fun ls hl => ?_)
            refine lv_aload_n hx hb d_MD_feed_35 rfl (lv_at hl 2 rfl) ?_
            refine va_get (D := (dC, dI)) (ci := 7) (v := .ref (bd 1)) (C := R_MD) (T := T_MD) (N := 28) hx hb hts i_MD hown hK hP 0 rfl rfl 2 (by decide) (hts _ wd_394) (fun _ h9 => h9) rfl d_MD_feed_36 ?_
            refine lv_aload_n hx hb d_MD_feed_39 rfl (lv_at hl 2 rfl) ?_
            refine va_get (D := (dC, dI)) (ci := 7) (v := .int (nI n)) (C := R_MD) (T := T_MD) (N := 28) hx hb hts i_MD hown hK hP 0 rfl rfl 1 (by decide) (hts _ wd_393) (fun _ h9 => h9) rfl d_MD_feed_40 ?_
            refine lv_iload hx hb d_MD_feed_43 (lv_at hl 1 rfl) ?_
            refine lv_iadd hx hb d_MD_feed_45 ?_
            refine xtopi (y := nI (n + 3)) (nI_add (n) (3)) ?_
            refine lv_iload_n hx hb d_MD_feed_46 rfl (lv_at hl 3 rfl) ?_
            refine lv_iload hx hb d_MD_feed_47 (lv_at hl 0 rfl) ?_
            refine lv_ishr hx hb d_MD_feed_49 ?_
            refine lv_i2b hx hb d_MD_feed_50 rfl ?_
            refine xbast (k := n + 3) (x' := (w1 >>> ((0 : Int32) &&& 31)).toInt8.toInt32) (ws1 := wsM bd cm 0 n (upd (upd (upd (upd (upd (upd (upd (upd (upd (upd (upd (upd (upd (upd (upd (upd fr (n + 0) ((w1 >>> ((24 : Int32) &&& 31)).toInt8.toInt32)) ((n + 4) + 0) ((w2 >>> ((24 : Int32) &&& 31)).toInt8.toInt32)) ((n + 8) + 0) ((w3 >>> ((24 : Int32) &&& 31)).toInt8.toInt32)) ((n + 12) + 0) ((w4 >>> ((24 : Int32) &&& 31)).toInt8.toInt32)) ((n + 16) + 0) ((w5 >>> ((24 : Int32) &&& 31)).toInt8.toInt32)) (n + 1) ((w1 >>> ((16 : Int32) &&& 31)).toInt8.toInt32)) ((n + 4) + 1) ((w2 >>> ((16 : Int32) &&& 31)).toInt8.toInt32)) ((n + 8) + 1) ((w3 >>> ((16 : Int32) &&& 31)).toInt8.toInt32)) ((n + 12) + 1) ((w4 >>> ((16 : Int32) &&& 31)).toInt8.toInt32)) ((n + 16) + 1) ((w5 >>> ((16 : Int32) &&& 31)).toInt8.toInt32)) (n + 2) ((w1 >>> ((8 : Int32) &&& 31)).toInt8.toInt32)) ((n + 4) + 2) ((w2 >>> ((8 : Int32) &&& 31)).toInt8.toInt32)) ((n + 8) + 2) ((w3 >>> ((8 : Int32) &&& 31)).toInt8.toInt32)) ((n + 12) + 2) ((w4 >>> ((8 : Int32) &&& 31)).toInt8.toInt32)) ((n + 16) + 2) ((w5 >>> ((8 : Int32) &&& 31)).toInt8.toInt32)) (n + 3) ((w1 >>> ((0 : Int32) &&& 31)).toInt8.toInt32)) a z le wy fo en fF fA fB fS fW sk pg ye ys yt yg yp tk gF gA gB gS gW yk) hx hb hK hP hD hS 1 0 rfl rfl (rfl) (by omega) (by decide) (pk_vb _) rfl d_MD_feed_51 (fun H locs hP hD hS => ?_)
            refine lv_aload_n hx hb d_MD_feed_52 rfl (lv_at hl 2 rfl) ?_
            refine va_get (D := (dC, dI)) (ci := 7) (v := .ref (bd 1)) (C := R_MD) (T := T_MD) (N := 28) hx hb hts i_MD hown hK hP 0 rfl rfl 2 (by decide) (hts _ wd_394) (fun _ h9 => h9) rfl d_MD_feed_53 ?_
            refine lv_aload_n hx hb d_MD_feed_56 rfl (lv_at hl 2 rfl) ?_
            refine va_get (D := (dC, dI)) (ci := 7) (v := .int (nI n)) (C := R_MD) (T := T_MD) (N := 28) hx hb hts i_MD hown hK hP 0 rfl rfl 1 (by decide) (hts _ wd_393) (fun _ h9 => h9) rfl d_MD_feed_57 ?_
            refine lv_iconst (v := 4) hx hb d_MD_feed_60 (by decide) ?_
            refine lv_iadd hx hb d_MD_feed_61 ?_
            refine xtopi (y := nI (n + 4)) (nI_add (n) (4)) ?_
            refine lv_iload hx hb d_MD_feed_62 (lv_at hl 1 rfl) ?_
            refine lv_iadd hx hb d_MD_feed_64 ?_
            refine xtopi (y := nI ((n + 4) + 3)) (nI_add (n + 4) (3)) ?_
            refine lv_iload_n hx hb d_MD_feed_65 rfl (lv_at hl 4 rfl) ?_
            refine lv_iload hx hb d_MD_feed_66 (lv_at hl 0 rfl) ?_
            refine lv_ishr hx hb d_MD_feed_68 ?_
            refine lv_i2b hx hb d_MD_feed_69 rfl ?_
            refine xbast (k := (n + 4) + 3) (x' := (w2 >>> ((0 : Int32) &&& 31)).toInt8.toInt32) (ws1 := wsM bd cm 0 n (upd (upd (upd (upd (upd (upd (upd (upd (upd (upd (upd (upd (upd (upd (upd (upd (upd fr (n + 0) ((w1 >>> ((24 : Int32) &&& 31)).toInt8.toInt32)) ((n + 4) + 0) ((w2 >>> ((24 : Int32) &&& 31)).toInt8.toInt32)) ((n + 8) + 0) ((w3 >>> ((24 : Int32) &&& 31)).toInt8.toInt32)) ((n + 12) + 0) ((w4 >>> ((24 : Int32) &&& 31)).toInt8.toInt32)) ((n + 16) + 0) ((w5 >>> ((24 : Int32) &&& 31)).toInt8.toInt32)) (n + 1) ((w1 >>> ((16 : Int32) &&& 31)).toInt8.toInt32)) ((n + 4) + 1) ((w2 >>> ((16 : Int32) &&& 31)).toInt8.toInt32)) ((n + 8) + 1) ((w3 >>> ((16 : Int32) &&& 31)).toInt8.toInt32)) ((n + 12) + 1) ((w4 >>> ((16 : Int32) &&& 31)).toInt8.toInt32)) ((n + 16) + 1) ((w5 >>> ((16 : Int32) &&& 31)).toInt8.toInt32)) (n + 2) ((w1 >>> ((8 : Int32) &&& 31)).toInt8.toInt32)) ((n + 4) + 2) ((w2 >>> ((8 : Int32) &&& 31)).toInt8.toInt32)) ((n + 8) + 2) ((w3 >>> ((8 : Int32) &&& 31)).toInt8.toInt32)) ((n + 12) + 2) ((w4 >>> ((8 : Int32) &&& 31)).toInt8.toInt32)) ((n + 16) + 2) ((w5 >>> ((8 : Int32) &&& 31)).toInt8.toInt32)) (n + 3) ((w1 >>> ((0 : Int32) &&& 31)).toInt8.toInt32)) ((n + 4) + 3) ((w2 >>> ((0 : Int32) &&& 31)).toInt8.toInt32)) a z le wy fo en fF fA fB fS fW sk pg ye ys yt yg yp tk gF gA gB gS gW yk) hx hb hK hP hD hS 1 0 rfl rfl (rfl) (by omega) (by decide) (pk_vb _) rfl d_MD_feed_70 (fun H locs hP hD hS => ?_)
            refine lv_aload_n hx hb d_MD_feed_71 rfl (lv_at hl 2 rfl) ?_
            refine va_get (D := (dC, dI)) (ci := 7) (v := .ref (bd 1)) (C := R_MD) (T := T_MD) (N := 28) hx hb hts i_MD hown hK hP 0 rfl rfl 2 (by decide) (hts _ wd_394) (fun _ h9 => h9) rfl d_MD_feed_72 ?_
            refine lv_aload_n hx hb d_MD_feed_75 rfl (lv_at hl 2 rfl) ?_
            refine va_get (D := (dC, dI)) (ci := 7) (v := .int (nI n)) (C := R_MD) (T := T_MD) (N := 28) hx hb hts i_MD hown hK hP 0 rfl rfl 1 (by decide) (hts _ wd_393) (fun _ h9 => h9) rfl d_MD_feed_76 ?_
            refine lv_bipush (v := 8) hx hb d_MD_feed_79 (by decide) ?_
            refine lv_iadd hx hb d_MD_feed_81 ?_
            refine xtopi (y := nI (n + 8)) (nI_add (n) (8)) ?_
            refine lv_iload hx hb d_MD_feed_82 (lv_at hl 1 rfl) ?_
            refine lv_iadd hx hb d_MD_feed_84 ?_
            refine xtopi (y := nI ((n + 8) + 3)) (nI_add (n + 8) (3)) ?_
            refine lv_iload_n hx hb d_MD_feed_85 rfl (lv_at hl 5 rfl) ?_
            refine lv_iload hx hb d_MD_feed_86 (lv_at hl 0 rfl) ?_
            refine lv_ishr hx hb d_MD_feed_88 ?_
            refine lv_i2b hx hb d_MD_feed_89 rfl ?_
            refine xbast (k := (n + 8) + 3) (x' := (w3 >>> ((0 : Int32) &&& 31)).toInt8.toInt32) (ws1 := wsM bd cm 0 n (upd (upd (upd (upd (upd (upd (upd (upd (upd (upd (upd (upd (upd (upd (upd (upd (upd (upd fr (n + 0) ((w1 >>> ((24 : Int32) &&& 31)).toInt8.toInt32)) ((n + 4) + 0) ((w2 >>> ((24 : Int32) &&& 31)).toInt8.toInt32)) ((n + 8) + 0) ((w3 >>> ((24 : Int32) &&& 31)).toInt8.toInt32)) ((n + 12) + 0) ((w4 >>> ((24 : Int32) &&& 31)).toInt8.toInt32)) ((n + 16) + 0) ((w5 >>> ((24 : Int32) &&& 31)).toInt8.toInt32)) (n + 1) ((w1 >>> ((16 : Int32) &&& 31)).toInt8.toInt32)) ((n + 4) + 1) ((w2 >>> ((16 : Int32) &&& 31)).toInt8.toInt32)) ((n + 8) + 1) ((w3 >>> ((16 : Int32) &&& 31)).toInt8.toInt32)) ((n + 12) + 1) ((w4 >>> ((16 : Int32) &&& 31)).toInt8.toInt32)) ((n + 16) + 1) ((w5 >>> ((16 : Int32) &&& 31)).toInt8.toInt32)) (n + 2) ((w1 >>> ((8 : Int32) &&& 31)).toInt8.toInt32)) ((n + 4) + 2) ((w2 >>> ((8 : Int32) &&& 31)).toInt8.toInt32)) ((n + 8) + 2) ((w3 >>> ((8 : Int32) &&& 31)).toInt8.toInt32)) ((n + 12) + 2) ((w4 >>> ((8 : Int32) &&& 31)).toInt8.toInt32)) ((n + 16) + 2) ((w5 >>> ((8 : Int32) &&& 31)).toInt8.toInt32)) (n + 3) ((w1 >>> ((0 : Int32) &&& 31)).toInt8.toInt32)) ((n + 4) + 3) ((w2 >>> ((0 : Int32) &&& 31)).toInt8.toInt32)) ((n + 8) + 3) ((w3 >>> ((0 : Int32) &&& 31)).toInt8.toInt32)) a z le wy fo en fF fA fB fS fW sk pg ye ys yt yg yp tk gF gA gB gS gW yk) hx hb hK hP hD hS 1 0 rfl rfl (rfl) (by omega) (by decide) (pk_vb _) rfl d_MD_feed_90 (fun H locs hP hD hS => ?_)
            refine lv_aload_n hx hb d_MD_feed_91 rfl (lv_at hl 2 rfl) ?_
            refine va_get (D := (dC, dI)) (ci := 7) (v := .ref (bd 1)) (C := R_MD) (T := T_MD) (N := 28) hx hb hts i_MD hown hK hP 0 rfl rfl 2 (by decide) (hts _ wd_394) (fun _ h9 => h9) rfl d_MD_feed_92 ?_
            refine lv_aload_n hx hb d_MD_feed_95 rfl (lv_at hl 2 rfl) ?_
            refine va_get (D := (dC, dI)) (ci := 7) (v := .int (nI n)) (C := R_MD) (T := T_MD) (N := 28) hx hb hts i_MD hown hK hP 0 rfl rfl 1 (by decide) (hts _ wd_393) (fun _ h9 => h9) rfl d_MD_feed_96 ?_
            refine lv_bipush (v := 12) hx hb d_MD_feed_99 (by decide) ?_
            refine lv_iadd hx hb d_MD_feed_101 ?_
            refine xtopi (y := nI (n + 12)) (nI_add (n) (12)) ?_
            refine lv_iload hx hb d_MD_feed_102 (lv_at hl 1 rfl) ?_
            refine lv_iadd hx hb d_MD_feed_104 ?_
            refine xtopi (y := nI ((n + 12) + 3)) (nI_add (n + 12) (3)) ?_
            refine lv_iload hx hb d_MD_feed_105 (lv_at hl 6 rfl) ?_
            refine lv_iload hx hb d_MD_feed_107 (lv_at hl 0 rfl) ?_
            refine lv_ishr hx hb d_MD_feed_109 ?_
            refine lv_i2b hx hb d_MD_feed_110 rfl ?_
            refine xbast (k := (n + 12) + 3) (x' := (w4 >>> ((0 : Int32) &&& 31)).toInt8.toInt32) (ws1 := wsM bd cm 0 n (upd (upd (upd (upd (upd (upd (upd (upd (upd (upd (upd (upd (upd (upd (upd (upd (upd (upd (upd fr (n + 0) ((w1 >>> ((24 : Int32) &&& 31)).toInt8.toInt32)) ((n + 4) + 0) ((w2 >>> ((24 : Int32) &&& 31)).toInt8.toInt32)) ((n + 8) + 0) ((w3 >>> ((24 : Int32) &&& 31)).toInt8.toInt32)) ((n + 12) + 0) ((w4 >>> ((24 : Int32) &&& 31)).toInt8.toInt32)) ((n + 16) + 0) ((w5 >>> ((24 : Int32) &&& 31)).toInt8.toInt32)) (n + 1) ((w1 >>> ((16 : Int32) &&& 31)).toInt8.toInt32)) ((n + 4) + 1) ((w2 >>> ((16 : Int32) &&& 31)).toInt8.toInt32)) ((n + 8) + 1) ((w3 >>> ((16 : Int32) &&& 31)).toInt8.toInt32)) ((n + 12) + 1) ((w4 >>> ((16 : Int32) &&& 31)).toInt8.toInt32)) ((n + 16) + 1) ((w5 >>> ((16 : Int32) &&& 31)).toInt8.toInt32)) (n + 2) ((w1 >>> ((8 : Int32) &&& 31)).toInt8.toInt32)) ((n + 4) + 2) ((w2 >>> ((8 : Int32) &&& 31)).toInt8.toInt32)) ((n + 8) + 2) ((w3 >>> ((8 : Int32) &&& 31)).toInt8.toInt32)) ((n + 12) + 2) ((w4 >>> ((8 : Int32) &&& 31)).toInt8.toInt32)) ((n + 16) + 2) ((w5 >>> ((8 : Int32) &&& 31)).toInt8.toInt32)) (n + 3) ((w1 >>> ((0 : Int32) &&& 31)).toInt8.toInt32)) ((n + 4) + 3) ((w2 >>> ((0 : Int32) &&& 31)).toInt8.toInt32)) ((n + 8) + 3) ((w3 >>> ((0 : Int32) &&& 31)).toInt8.toInt32)) ((n + 12) + 3) ((w4 >>> ((0 : Int32) &&& 31)).toInt8.toInt32)) a z le wy fo en fF fA fB fS fW sk pg ye ys yt yg yp tk gF gA gB gS gW yk) hx hb hK hP hD hS 1 0 rfl rfl (rfl) (by omega) (by decide) (pk_vb _) rfl d_MD_feed_111 (fun H locs hP hD hS => ?_)
            refine lv_aload_n hx hb d_MD_feed_112 rfl (lv_at hl 2 rfl) ?_
            refine va_get (D := (dC, dI)) (ci := 7) (v := .ref (bd 1)) (C := R_MD) (T := T_MD) (N := 28) hx hb hts i_MD hown hK hP 0 rfl rfl 2 (by decide) (hts _ wd_394) (fun _ h9 => h9) rfl d_MD_feed_113 ?_
            refine lv_aload_n hx hb d_MD_feed_116 rfl (lv_at hl 2 rfl) ?_
            refine va_get (D := (dC, dI)) (ci := 7) (v := .int (nI n)) (C := R_MD) (T := T_MD) (N := 28) hx hb hts i_MD hown hK hP 0 rfl rfl 1 (by decide) (hts _ wd_393) (fun _ h9 => h9) rfl d_MD_feed_117 ?_
            refine lv_bipush (v := 16) hx hb d_MD_feed_120 (by decide) ?_
            refine lv_iadd hx hb d_MD_feed_122 ?_
            refine xtopi (y := nI (n + 16)) (nI_add (n) (16)) ?_
            refine lv_iload hx hb d_MD_feed_123 (lv_at hl 1 rfl) ?_
            refine lv_iadd hx hb d_MD_feed_125 ?_
            refine xtopi (y := nI ((n + 16) + 3)) (nI_add (n + 16) (3)) ?_
            refine lv_iload hx hb d_MD_feed_126 (lv_at hl 7 rfl) ?_
            refine lv_iload hx hb d_MD_feed_128 (lv_at hl 0 rfl) ?_
            refine lv_ishr hx hb d_MD_feed_130 ?_
            refine lv_i2b hx hb d_MD_feed_131 rfl ?_
            refine xbast (k := (n + 16) + 3) (x' := (w5 >>> ((0 : Int32) &&& 31)).toInt8.toInt32) (ws1 := wsM bd cm 0 n (upd (upd (upd (upd (upd (upd (upd (upd (upd (upd (upd (upd (upd (upd (upd (upd (upd (upd (upd (upd fr (n + 0) ((w1 >>> ((24 : Int32) &&& 31)).toInt8.toInt32)) ((n + 4) + 0) ((w2 >>> ((24 : Int32) &&& 31)).toInt8.toInt32)) ((n + 8) + 0) ((w3 >>> ((24 : Int32) &&& 31)).toInt8.toInt32)) ((n + 12) + 0) ((w4 >>> ((24 : Int32) &&& 31)).toInt8.toInt32)) ((n + 16) + 0) ((w5 >>> ((24 : Int32) &&& 31)).toInt8.toInt32)) (n + 1) ((w1 >>> ((16 : Int32) &&& 31)).toInt8.toInt32)) ((n + 4) + 1) ((w2 >>> ((16 : Int32) &&& 31)).toInt8.toInt32)) ((n + 8) + 1) ((w3 >>> ((16 : Int32) &&& 31)).toInt8.toInt32)) ((n + 12) + 1) ((w4 >>> ((16 : Int32) &&& 31)).toInt8.toInt32)) ((n + 16) + 1) ((w5 >>> ((16 : Int32) &&& 31)).toInt8.toInt32)) (n + 2) ((w1 >>> ((8 : Int32) &&& 31)).toInt8.toInt32)) ((n + 4) + 2) ((w2 >>> ((8 : Int32) &&& 31)).toInt8.toInt32)) ((n + 8) + 2) ((w3 >>> ((8 : Int32) &&& 31)).toInt8.toInt32)) ((n + 12) + 2) ((w4 >>> ((8 : Int32) &&& 31)).toInt8.toInt32)) ((n + 16) + 2) ((w5 >>> ((8 : Int32) &&& 31)).toInt8.toInt32)) (n + 3) ((w1 >>> ((0 : Int32) &&& 31)).toInt8.toInt32)) ((n + 4) + 3) ((w2 >>> ((0 : Int32) &&& 31)).toInt8.toInt32)) ((n + 8) + 3) ((w3 >>> ((0 : Int32) &&& 31)).toInt8.toInt32)) ((n + 12) + 3) ((w4 >>> ((0 : Int32) &&& 31)).toInt8.toInt32)) ((n + 16) + 3) ((w5 >>> ((0 : Int32) &&& 31)).toInt8.toInt32)) a z le wy fo en fF fA fB fS fW sk pg ye ys yt yg yp tk gF gA gB gS gW yk) hx hb hK hP hD hS 1 0 rfl rfl (rfl) (by omega) (by decide) (pk_vb _) rfl d_MD_feed_132 (fun H locs hP hD hS => ?_)
            refine lv_iinc (v := 4) (lv' := [(6, .int 4), (7, .int 0), (0, .ref (bd 0)), (1, .int w1), (2, .int w2), (3, .int w3), (4, .int w4), (5, .int w5)]) hx hb d_MD_feed_133 hl (k := 1) rfl rfl (by decide) rfl (fun ls hl => ?_)
            refine lv_goto (tgt := 19) hx hb d_MD_feed_136 (by decide) ?_
            refine lv_iload hx hb d_MD_feed_19 (lv_at hl 0 rfl) ?_
            refine lv_iconst (v := 4) hx hb d_MD_feed_21 (by decide) ?_
            refine lv_icmp_ge (tgt := 139) hx hb d_MD_feed_22 (by decide) (fun c_6 => ?_) (fun c_6 => ?_)
            · skip
              refine lv_aload_n hx hb d_MD_feed_139 rfl (lv_at hl 2 rfl) ?_
              refine lv_dup hx hb d_MD_feed_140 rfl ?_
              refine va_get (D := (dC, dI)) (ci := 7) (v := .int (nI n)) (C := R_MD) (T := T_MD) (N := 28) hx hb hts i_MD hown hK hP 0 rfl rfl 1 (by decide) (hts _ wd_393) (fun _ h9 => h9) rfl d_MD_feed_141 ?_
              refine lv_bipush (v := 20) hx hb d_MD_feed_144 (by decide) ?_
              refine lv_iadd hx hb d_MD_feed_146 ?_
              refine xtopi (y := nI (n + 20)) (nI_add (n) (20)) ?_
              refine va_put (D := (dC, dI)) (ci := 7) (v := .int (nI (n + 20))) (ty := .int) (C := R_MD) (T := T_MD) (N := 28) hx hb hts i_MD t_MD k_MD n_MD hown hK hP hD hS 0 rfl rfl 1 (by decide) (hts _ wd_393) (fun _ h9 => h9) rfl (by decide +kernel) rfl rfl (Nat.le_of_ble_eq_true rfl) d_MD_feed_147 (fun H locs hP hD hS => ?_)
              have hP : va_P (dC, dI) vwCl (wsM bd cm 0 (n + 20) (upd (upd (upd (upd (upd (upd (upd (upd (upd (upd (upd (upd (upd (upd (upd (upd (upd (upd (upd (upd fr (n + 0) ((w1 >>> ((24 : Int32) &&& 31)).toInt8.toInt32)) ((n + 4) + 0) ((w2 >>> ((24 : Int32) &&& 31)).toInt8.toInt32)) ((n + 8) + 0) ((w3 >>> ((24 : Int32) &&& 31)).toInt8.toInt32)) ((n + 12) + 0) ((w4 >>> ((24 : Int32) &&& 31)).toInt8.toInt32)) ((n + 16) + 0) ((w5 >>> ((24 : Int32) &&& 31)).toInt8.toInt32)) (n + 1) ((w1 >>> ((16 : Int32) &&& 31)).toInt8.toInt32)) ((n + 4) + 1) ((w2 >>> ((16 : Int32) &&& 31)).toInt8.toInt32)) ((n + 8) + 1) ((w3 >>> ((16 : Int32) &&& 31)).toInt8.toInt32)) ((n + 12) + 1) ((w4 >>> ((16 : Int32) &&& 31)).toInt8.toInt32)) ((n + 16) + 1) ((w5 >>> ((16 : Int32) &&& 31)).toInt8.toInt32)) (n + 2) ((w1 >>> ((8 : Int32) &&& 31)).toInt8.toInt32)) ((n + 4) + 2) ((w2 >>> ((8 : Int32) &&& 31)).toInt8.toInt32)) ((n + 8) + 2) ((w3 >>> ((8 : Int32) &&& 31)).toInt8.toInt32)) ((n + 12) + 2) ((w4 >>> ((8 : Int32) &&& 31)).toInt8.toInt32)) ((n + 16) + 2) ((w5 >>> ((8 : Int32) &&& 31)).toInt8.toInt32)) (n + 3) ((w1 >>> ((0 : Int32) &&& 31)).toInt8.toInt32)) ((n + 4) + 3) ((w2 >>> ((0 : Int32) &&& 31)).toInt8.toInt32)) ((n + 8) + 3) ((w3 >>> ((0 : Int32) &&& 31)).toInt8.toInt32)) ((n + 12) + 3) ((w4 >>> ((0 : Int32) &&& 31)).toInt8.toInt32)) ((n + 16) + 3) ((w5 >>> ((0 : Int32) &&& 31)).toInt8.toInt32)) a z le wy fo en fF fA fB fS fW sk pg ye ys yt yg yp tk gF gA gB gS gW yk) H := hP
              have hD : va_D A (wsM bd cm 0 (n + 20) (upd (upd (upd (upd (upd (upd (upd (upd (upd (upd (upd (upd (upd (upd (upd (upd (upd (upd (upd (upd fr (n + 0) ((w1 >>> ((24 : Int32) &&& 31)).toInt8.toInt32)) ((n + 4) + 0) ((w2 >>> ((24 : Int32) &&& 31)).toInt8.toInt32)) ((n + 8) + 0) ((w3 >>> ((24 : Int32) &&& 31)).toInt8.toInt32)) ((n + 12) + 0) ((w4 >>> ((24 : Int32) &&& 31)).toInt8.toInt32)) ((n + 16) + 0) ((w5 >>> ((24 : Int32) &&& 31)).toInt8.toInt32)) (n + 1) ((w1 >>> ((16 : Int32) &&& 31)).toInt8.toInt32)) ((n + 4) + 1) ((w2 >>> ((16 : Int32) &&& 31)).toInt8.toInt32)) ((n + 8) + 1) ((w3 >>> ((16 : Int32) &&& 31)).toInt8.toInt32)) ((n + 12) + 1) ((w4 >>> ((16 : Int32) &&& 31)).toInt8.toInt32)) ((n + 16) + 1) ((w5 >>> ((16 : Int32) &&& 31)).toInt8.toInt32)) (n + 2) ((w1 >>> ((8 : Int32) &&& 31)).toInt8.toInt32)) ((n + 4) + 2) ((w2 >>> ((8 : Int32) &&& 31)).toInt8.toInt32)) ((n + 8) + 2) ((w3 >>> ((8 : Int32) &&& 31)).toInt8.toInt32)) ((n + 12) + 2) ((w4 >>> ((8 : Int32) &&& 31)).toInt8.toInt32)) ((n + 16) + 2) ((w5 >>> ((8 : Int32) &&& 31)).toInt8.toInt32)) (n + 3) ((w1 >>> ((0 : Int32) &&& 31)).toInt8.toInt32)) ((n + 4) + 3) ((w2 >>> ((0 : Int32) &&& 31)).toInt8.toInt32)) ((n + 8) + 3) ((w3 >>> ((0 : Int32) &&& 31)).toInt8.toInt32)) ((n + 12) + 3) ((w4 >>> ((0 : Int32) &&& 31)).toInt8.toInt32)) ((n + 16) + 3) ((w5 >>> ((0 : Int32) &&& 31)).toInt8.toInt32)) a z le wy fo en fF fA fB fS fW sk pg ye ys yt yg yp tk gF gA gB gS gW yk) := hD
              refine lv_iconst (v := 1) hx hb d_MD_feed_150 (by decide) ?_
              have hw9 : wsM bd cm 0 (n + 20) (upd (upd (upd (upd (upd (upd (upd (upd (upd (upd (upd (upd (upd (upd (upd (upd (upd (upd (upd (upd fr (n + 0) ((w1 >>> ((24 : Int32) &&& 31)).toInt8.toInt32)) ((n + 4) + 0) ((w2 >>> ((24 : Int32) &&& 31)).toInt8.toInt32)) ((n + 8) + 0) ((w3 >>> ((24 : Int32) &&& 31)).toInt8.toInt32)) ((n + 12) + 0) ((w4 >>> ((24 : Int32) &&& 31)).toInt8.toInt32)) ((n + 16) + 0) ((w5 >>> ((24 : Int32) &&& 31)).toInt8.toInt32)) (n + 1) ((w1 >>> ((16 : Int32) &&& 31)).toInt8.toInt32)) ((n + 4) + 1) ((w2 >>> ((16 : Int32) &&& 31)).toInt8.toInt32)) ((n + 8) + 1) ((w3 >>> ((16 : Int32) &&& 31)).toInt8.toInt32)) ((n + 12) + 1) ((w4 >>> ((16 : Int32) &&& 31)).toInt8.toInt32)) ((n + 16) + 1) ((w5 >>> ((16 : Int32) &&& 31)).toInt8.toInt32)) (n + 2) ((w1 >>> ((8 : Int32) &&& 31)).toInt8.toInt32)) ((n + 4) + 2) ((w2 >>> ((8 : Int32) &&& 31)).toInt8.toInt32)) ((n + 8) + 2) ((w3 >>> ((8 : Int32) &&& 31)).toInt8.toInt32)) ((n + 12) + 2) ((w4 >>> ((8 : Int32) &&& 31)).toInt8.toInt32)) ((n + 16) + 2) ((w5 >>> ((8 : Int32) &&& 31)).toInt8.toInt32)) (n + 3) ((w1 >>> ((0 : Int32) &&& 31)).toInt8.toInt32)) ((n + 4) + 3) ((w2 >>> ((0 : Int32) &&& 31)).toInt8.toInt32)) ((n + 8) + 3) ((w3 >>> ((0 : Int32) &&& 31)).toInt8.toInt32)) ((n + 12) + 3) ((w4 >>> ((0 : Int32) &&& 31)).toInt8.toInt32)) ((n + 16) + 3) ((w5 >>> ((0 : Int32) &&& 31)).toInt8.toInt32)) a z le wy fo en fF fA fB fS fW sk pg ye ys yt yg yp tk gF gA gB gS gW yk = wsM bd cm 0 (fdN n) (mfF n fr w1 w2 w3 w4 w5) a z le wy fo en fF fA fB fS fW sk pg ye ys yt yg yp tk gF gA gB gS gW yk := by rw [fdN, mfF, if_pos (by omega), if_pos (by omega)]
              rw [hw9] at hP hD
              exact xreti (v := 1) hx hb hr hlocks hK hP hD hS (rfl) (bI_1 (by omega)) d_MD_feed_151
            · exact absurd c_6 (by decide)
  · skip
    have c_1 : ¬ (n ≤ 65516) := fun h9 => c_1 ((nI_leI (a := n) (b := 65516) (by omega) (by omega)).mpr h9)
    refine lv_iconst (v := 0) hx hb d_MD_feed_14 (by decide) ?_
    have hw9 : wsM bd cm 0 n fr a z le wy fo en fF fA fB fS fW sk pg ye ys yt yg yp tk gF gA gB gS gW yk = wsM bd cm 0 (fdN n) (mfF n fr w1 w2 w3 w4 w5) a z le wy fo en fF fA fB fS fW sk pg ye ys yt yg yp tk gF gA gB gS gW yk := by rw [fdN, mfF, if_neg (by omega), if_neg (by omega)]
    rw [hw9] at hP hD
    exact xreti (v := 0) hx hb hr hlocks hK hP hD hS (rfl) (bI_0 (by omega)) d_MD_feed_15
set_option maxHeartbeats 4000000 in
set_option maxRecDepth 100000 in
theorem m_end (l : Launch) (dC : Nat → ClassId) (dI : Nat → Nat → Nat) (bd : Nat → Nat) (cm : Nat → ClassId) (th : Int32) (n : Nat) (fr : Nat → Int32) (a : Nat) (z : Nat → Nat) (le : Nat → Int32) (wy : Int32) (fo : Nat) (en : Nat) (fF : Nat → Nat) (fA : Nat → Nat) (fB : Nat → Nat) (fS : Nat → Nat) (fW : Nat → Int32) (sk : Nat → Int32) (pg : Nat) (ye : Int32) (ys : Int32) (yt : Nat) (yg : Nat) (yp : Nat) (tk : Nat → Int32) (gF : Nat → Nat) (gA : Nat → Nat) (gB : Nat → Nat) (gS : Nat → Nat) (gW : Nat → Int32) (yk : Nat → Int32) (k : Int32) (hn : n ≤ 65536) (sz : Nat) : Met l y_MD_end w_MD_end { frames := 0, cells := 0, slots := 0, locals := 0 } (va_Pc [.ref (bd 0), .int k] (xP (dC, dI) (tyM cm) (wsM bd cm th n fr a z le wy fo en fF fA fB fS fW sk pg ye ys yt yg yp tk gF gA gB gS gW yk) sz)) (xQi (dC, dI) (tyM cm) (va_A (wsM bd cm th n fr a z le wy fo en fF fA fB fS fW sk pg ye ys yt yg yp tk gF gA gB gS gW yk) sz) (wsM bd cm 0 (fbCut n k) fr a z le wy fo en fF fA fB fS fW sk pg ye ys yt yg yp tk gF gA gB gS gW yk) (fun r => r = bI (0 ≤ k.toInt ∧ k.toInt ≤ (n : Int)))) 0 0 (va_A (wsM bd cm th n fr a z le wy fo en fF fA fB fS fW sk pg ye ys yt yg yp tk gF gA gB gS gW yk) sz) := by
  refine xof (cc := b_MD_end) (maxL := 3) (ret := (some .boolean)) (own := R_MD) (Qc := fun A => (xQi (dC, dI) (tyM cm) A (wsM bd cm 0 (fbCut n k) fr a z le wy fo en fF fA fB fS fW sk pg ye ys yt yg yp tk gF gA gB gS gW yk) (fun r => r = bI (0 ≤ k.toInt ∧ k.toInt ≤ (n : Int))))) (by decide) rfl rfl (Nat.le_of_ble_eq_true rfl) ?_ sz
  intro p e s m below meth c A C hnm hK hP hD hA hN hZ hS ls hl
  obtain ⟨hx, hb, hr, hml, hown, hts, hlocks⟩ := C
  have hl : lv_has ls 3 [(0, .ref (bd 0)), (1, .int k)] := hl
  refine lv_aload_n hx hb d_MD_end_0 rfl (lv_at hl 0 rfl) ?_
  refine lv_iconst (v := 0) hx hb d_MD_end_1 (by decide) ?_
  refine va_put (D := (dC, dI)) (ci := 7) (v := .int 0) (ty := .int) (C := R_MD) (T := T_MD) (N := 28) hx hb hts i_MD t_MD k_MD n_MD hown hK hP hD hS 0 rfl rfl 0 (by decide) (hts _ wd_392) (fun _ h9 => h9) rfl (by decide +kernel) rfl rfl (Nat.le_of_ble_eq_true rfl) d_MD_end_2 (fun H locs hP hD hS => ?_)
  have hP : va_P (dC, dI) vwCl (wsM bd cm 0 n fr a z le wy fo en fF fA fB fS fW sk pg ye ys yt yg yp tk gF gA gB gS gW yk) H := hP
  have hD : va_D A (wsM bd cm 0 n fr a z le wy fo en fF fA fB fS fW sk pg ye ys yt yg yp tk gF gA gB gS gW yk) := hD
  refine lv_iload_n hx hb d_MD_end_5 rfl (lv_at hl 1 rfl) ?_
  refine lv_if_lt (tgt := 21) hx hb d_MD_end_6 (by decide) (fun c_1 => ?_) (fun c_1 => ?_)
  · skip
    refine lv_iconst (v := 0) hx hb d_MD_end_21 (by decide) ?_
    refine lv_istore_n (lv' := [(2, .int 0), (0, .ref (bd 0)), (1, .int k)]) hx hb d_MD_end_22 rfl hl (by decide) rfl (fun ls hl => ?_)
    refine lv_aload_n hx hb d_MD_end_23 rfl (lv_at hl 1 rfl) ?_
    refine lv_iload_n hx hb d_MD_end_24 rfl (lv_at hl 0 rfl) ?_
    refine lv_if_eq (tgt := 32) hx hb d_MD_end_25 (by decide) (fun c_2 => ?_) (fun c_2 => ?_)
    · skip
      refine lv_aload_n hx hb d_MD_end_32 rfl (lv_at hl 1 rfl) ?_
      refine va_get (D := (dC, dI)) (ci := 7) (v := .int (nI n)) (C := R_MD) (T := T_MD) (N := 28) hx hb hts i_MD hown hK hP 0 rfl rfl 1 (by decide) (hts _ wd_393) (fun _ h9 => h9) rfl d_MD_end_33 ?_
      refine va_put (D := (dC, dI)) (ci := 7) (v := .int (nI n)) (ty := .int) (C := R_MD) (T := T_MD) (N := 28) hx hb hts i_MD t_MD k_MD n_MD hown hK hP hD hS 0 rfl rfl 1 (by decide) (hts _ wd_393) (fun _ h9 => h9) rfl (by decide +kernel) rfl rfl (Nat.le_of_ble_eq_true rfl) d_MD_end_36 (fun H locs hP hD hS => ?_)
      have hP : va_P (dC, dI) vwCl (wsM bd cm 0 n fr a z le wy fo en fF fA fB fS fW sk pg ye ys yt yg yp tk gF gA gB gS gW yk) H := hP
      have hD : va_D A (wsM bd cm 0 n fr a z le wy fo en fF fA fB fS fW sk pg ye ys yt yg yp tk gF gA gB gS gW yk) := hD
      refine lv_iload_n hx hb d_MD_end_39 rfl (lv_at hl 0 rfl) ?_
      have hw9 : wsM bd cm 0 n fr a z le wy fo en fF fA fB fS fW sk pg ye ys yt yg yp tk gF gA gB gS gW yk = wsM bd cm 0 (fbCut n k) fr a z le wy fo en fF fA fB fS fW sk pg ye ys yt yg yp tk gF gA gB gS gW yk := by rw [fbCut, if_neg (fun h9 => absurd c_1 (p_nneg h9.1))]
      rw [hw9] at hP hD
      exact xreti (v := 0) hx hb hr hlocks hK hP hD hS (rfl) (bI_0 (fun h9 => absurd c_1 (p_nneg h9.1))) d_MD_end_40
    · exact absurd c_2 (by decide)
  · skip
    obtain ⟨j, hj, ej⟩ := nI_of c_1
    rw [ej] at hl
    refine lv_iload_n hx hb d_MD_end_9 rfl (lv_at hl 1 rfl) ?_
    refine lv_aload_n hx hb d_MD_end_10 rfl (lv_at hl 0 rfl) ?_
    refine va_get (D := (dC, dI)) (ci := 7) (v := .int (nI n)) (C := R_MD) (T := T_MD) (N := 28) hx hb hts i_MD hown hK hP 0 rfl rfl 1 (by decide) (hts _ wd_393) (fun _ h9 => h9) rfl d_MD_end_11 ?_
    refine lv_icmp_gt (tgt := 21) hx hb d_MD_end_14 (by decide) (fun c_3 => ?_) (fun c_3 => ?_)
    · skip
      have c_3 : n < j := (nI_ltI (a := n) (b := j) (by omega) (by omega)).mp c_3
      refine lv_iconst (v := 0) hx hb d_MD_end_21 (by decide) ?_
      refine lv_istore_n (lv' := [(2, .int 0), (0, .ref (bd 0)), (1, .int (nI j))]) hx hb d_MD_end_22 rfl hl (by decide) rfl (fun ls hl => ?_)
      refine lv_aload_n hx hb d_MD_end_23 rfl (lv_at hl 1 rfl) ?_
      refine lv_iload_n hx hb d_MD_end_24 rfl (lv_at hl 0 rfl) ?_
      refine lv_if_eq (tgt := 32) hx hb d_MD_end_25 (by decide) (fun c_4 => ?_) (fun c_4 => ?_)
      · skip
        refine lv_aload_n hx hb d_MD_end_32 rfl (lv_at hl 1 rfl) ?_
        refine va_get (D := (dC, dI)) (ci := 7) (v := .int (nI n)) (C := R_MD) (T := T_MD) (N := 28) hx hb hts i_MD hown hK hP 0 rfl rfl 1 (by decide) (hts _ wd_393) (fun _ h9 => h9) rfl d_MD_end_33 ?_
        refine va_put (D := (dC, dI)) (ci := 7) (v := .int (nI n)) (ty := .int) (C := R_MD) (T := T_MD) (N := 28) hx hb hts i_MD t_MD k_MD n_MD hown hK hP hD hS 0 rfl rfl 1 (by decide) (hts _ wd_393) (fun _ h9 => h9) rfl (by decide +kernel) rfl rfl (Nat.le_of_ble_eq_true rfl) d_MD_end_36 (fun H locs hP hD hS => ?_)
        have hP : va_P (dC, dI) vwCl (wsM bd cm 0 n fr a z le wy fo en fF fA fB fS fW sk pg ye ys yt yg yp tk gF gA gB gS gW yk) H := hP
        have hD : va_D A (wsM bd cm 0 n fr a z le wy fo en fF fA fB fS fW sk pg ye ys yt yg yp tk gF gA gB gS gW yk) := hD
        refine lv_iload_n hx hb d_MD_end_39 rfl (lv_at hl 0 rfl) ?_
        have hw9 : wsM bd cm 0 n fr a z le wy fo en fF fA fB fS fW sk pg ye ys yt yg yp tk gF gA gB gS gW yk = wsM bd cm 0 (fbCut n k) fr a z le wy fo en fF fA fB fS fW sk pg ye ys yt yg yp tk gF gA gB gS gW yk := by rw [fbCut, if_neg (by rw [ej, nI_toInt hj]; omega)]
        rw [hw9] at hP hD
        exact xreti (v := 0) hx hb hr hlocks hK hP hD hS (rfl) (bI_0 (by rw [ej, nI_toInt hj]; omega)) d_MD_end_40
      · exact absurd c_4 (by decide)
    · skip
      have c_3 : ¬ (n < j) := fun h9 => c_3 ((nI_ltI (a := n) (b := j) (by omega) (by omega)).mpr h9)
      refine lv_iconst (v := 1) hx hb d_MD_end_17 (by decide) ?_
      refine lv_goto (tgt := 22) hx hb d_MD_end_18 (by decide) ?_
      refine lv_istore_n (lv' := [(2, .int 1), (0, .ref (bd 0)), (1, .int (nI j))]) hx hb d_MD_end_22 rfl hl (by decide) rfl (fun ls hl => ?_)
      refine lv_aload_n hx hb d_MD_end_23 rfl (lv_at hl 1 rfl) ?_
      refine lv_iload_n hx hb d_MD_end_24 rfl (lv_at hl 0 rfl) ?_
      refine lv_if_eq (tgt := 32) hx hb d_MD_end_25 (by decide) (fun c_5 => ?_) (fun c_5 => ?_)
      · exact absurd c_5 (by decide)
      · skip
        refine lv_iload_n hx hb d_MD_end_28 rfl (lv_at hl 2 rfl) ?_
        refine lv_goto (tgt := 36) hx hb d_MD_end_29 (by decide) ?_
        refine va_put (D := (dC, dI)) (ci := 7) (v := .int (nI j)) (ty := .int) (C := R_MD) (T := T_MD) (N := 28) hx hb hts i_MD t_MD k_MD n_MD hown hK hP hD hS 0 rfl rfl 1 (by decide) (hts _ wd_393) (fun _ h9 => h9) rfl (by decide +kernel) rfl rfl (Nat.le_of_ble_eq_true rfl) d_MD_end_36 (fun H locs hP hD hS => ?_)
        have hP : va_P (dC, dI) vwCl (wsM bd cm 0 j fr a z le wy fo en fF fA fB fS fW sk pg ye ys yt yg yp tk gF gA gB gS gW yk) H := hP
        have hD : va_D A (wsM bd cm 0 j fr a z le wy fo en fF fA fB fS fW sk pg ye ys yt yg yp tk gF gA gB gS gW yk) := hD
        refine lv_iload_n hx hb d_MD_end_39 rfl (lv_at hl 0 rfl) ?_
        have hw9 : wsM bd cm 0 j fr a z le wy fo en fF fA fB fS fW sk pg ye ys yt yg yp tk gF gA gB gS gW yk = wsM bd cm 0 (fbCut n k) fr a z le wy fo en fF fA fB fS fW sk pg ye ys yt yg yp tk gF gA gB gS gW yk := by rw [fbCut, if_pos (by rw [ej, nI_toInt hj]; omega), ej, nI_toInt hj]; rfl
        rw [hw9] at hP hD
        exact xreti (v := 1) hx hb hr hlocks hK hP hD hS (rfl) (bI_1 (by rw [ej, nI_toInt hj]; omega)) d_MD_end_40
set_option maxHeartbeats 4000000 in
set_option maxRecDepth 100000 in
theorem m_set (l : Launch) (dC : Nat → ClassId) (dI : Nat → Nat → Nat) (bd : Nat → Nat) (cm : Nat → ClassId) (th : Int32) (n : Nat) (fr : Nat → Int32) (a : Nat) (z : Nat → Nat) (le : Nat → Int32) (wy : Int32) (fo : Nat) (en : Nat) (fF : Nat → Nat) (fA : Nat → Nat) (fB : Nat → Nat) (fS : Nat → Nat) (fW : Nat → Int32) (sk : Nat → Int32) (pg : Nat) (ye : Int32) (ys : Int32) (yt : Nat) (yg : Nat) (yp : Nat) (tk : Nat → Int32) (gF : Nat → Nat) (gA : Nat → Nat) (gB : Nat → Nat) (gS : Nat → Nat) (gW : Nat → Int32) (yk : Nat → Int32) (k b : Int32) (hn : n ≤ 65536) (sz : Nat) : Met l y_MD_set w_MD_set { frames := 0, cells := 0, slots := 0, locals := 0 } (va_Pc [.ref (bd 0), .int k, .int b] (xP (dC, dI) (tyM cm) (wsM bd cm th n fr a z le wy fo en fF fA fB fS fW sk pg ye ys yt yg yp tk gF gA gB gS gW yk) sz)) (xQi (dC, dI) (tyM cm) (va_A (wsM bd cm th n fr a z le wy fo en fF fA fB fS fW sk pg ye ys yt yg yp tk gF gA gB gS gW yk) sz) (wsM bd cm 0 n (msF n fr k b) a z le wy fo en fF fA fB fS fW sk pg ye ys yt yg yp tk gF gA gB gS gW yk) (fun r => r = bI (isB b ∧ 0 ≤ k.toInt ∧ k.toInt + ((1 : Nat) : Int) ≤ (n : Int)))) 0 0 (va_A (wsM bd cm th n fr a z le wy fo en fF fA fB fS fW sk pg ye ys yt yg yp tk gF gA gB gS gW yk) sz) := by
  refine xof (cc := b_MD_set) (maxL := 3) (ret := (some .boolean)) (own := R_MD) (Qc := fun A => (xQi (dC, dI) (tyM cm) A (wsM bd cm 0 n (msF n fr k b) a z le wy fo en fF fA fB fS fW sk pg ye ys yt yg yp tk gF gA gB gS gW yk) (fun r => r = bI (isB b ∧ 0 ≤ k.toInt ∧ k.toInt + ((1 : Nat) : Int) ≤ (n : Int))))) (by decide) rfl rfl (Nat.le_of_ble_eq_true rfl) ?_ sz
  intro p e s m below meth c A C hnm hK hP hD hA hN hZ hS ls hl
  obtain ⟨hx, hb, hr, hml, hown, hts, hlocks⟩ := C
  have hl : lv_has ls 3 [(0, .ref (bd 0)), (1, .int k), (2, .int b)] := hl
  refine lv_aload_n hx hb d_MD_set_0 rfl (lv_at hl 0 rfl) ?_
  refine lv_iconst (v := 0) hx hb d_MD_set_1 (by decide) ?_
  refine va_put (D := (dC, dI)) (ci := 7) (v := .int 0) (ty := .int) (C := R_MD) (T := T_MD) (N := 28) hx hb hts i_MD t_MD k_MD n_MD hown hK hP hD hS 0 rfl rfl 0 (by decide) (hts _ wd_392) (fun _ h9 => h9) rfl (by decide +kernel) rfl rfl (Nat.le_of_ble_eq_true rfl) d_MD_set_2 (fun H locs hP hD hS => ?_)
  have hP : va_P (dC, dI) vwCl (wsM bd cm 0 n fr a z le wy fo en fF fA fB fS fW sk pg ye ys yt yg yp tk gF gA gB gS gW yk) H := hP
  have hD : va_D A (wsM bd cm 0 n fr a z le wy fo en fF fA fB fS fW sk pg ye ys yt yg yp tk gF gA gB gS gW yk) := hD
  refine lv_iload_n hx hb d_MD_set_5 rfl (lv_at hl 1 rfl) ?_
  refine lv_if_lt (tgt := 28) hx hb d_MD_set_6 (by decide) (fun c_1 => ?_) (fun c_1 => ?_)
  · skip
    refine lv_iconst (v := 0) hx hb d_MD_set_28 (by decide) ?_
    have hw9 : wsM bd cm 0 n fr a z le wy fo en fF fA fB fS fW sk pg ye ys yt yg yp tk gF gA gB gS gW yk = wsM bd cm 0 n (msF n fr k b) a z le wy fo en fF fA fB fS fW sk pg ye ys yt yg yp tk gF gA gB gS gW yk := by rw [msF, if_neg (fun h9 => absurd c_1 (p_nneg h9.2.1))]
    rw [hw9] at hP hD
    exact xreti (v := 0) hx hb hr hlocks hK hP hD hS (rfl) (bI_0 (fun h9 => absurd c_1 (p_nneg h9.2.1))) d_MD_set_29
  · skip
    obtain ⟨j, hj, ej⟩ := nI_of c_1
    rw [ej] at hl
    refine lv_iload_n hx hb d_MD_set_9 rfl (lv_at hl 1 rfl) ?_
    refine lv_aload_n hx hb d_MD_set_10 rfl (lv_at hl 0 rfl) ?_
    refine va_get (D := (dC, dI)) (ci := 7) (v := .int (nI n)) (C := R_MD) (T := T_MD) (N := 28) hx hb hts i_MD hown hK hP 0 rfl rfl 1 (by decide) (hts _ wd_393) (fun _ h9 => h9) rfl d_MD_set_11 ?_
    refine lv_icmp_ge (tgt := 28) hx hb d_MD_set_14 (by decide) (fun c_2 => ?_) (fun c_2 => ?_)
    · skip
      have c_2 : n ≤ j := (nI_leI (a := n) (b := j) (by omega) (by omega)).mp c_2
      refine lv_iconst (v := 0) hx hb d_MD_set_28 (by decide) ?_
      have hw9 : wsM bd cm 0 n fr a z le wy fo en fF fA fB fS fW sk pg ye ys yt yg yp tk gF gA gB gS gW yk = wsM bd cm 0 n (msF n fr k b) a z le wy fo en fF fA fB fS fW sk pg ye ys yt yg yp tk gF gA gB gS gW yk := by rw [msF, if_neg (fun h9 => absurd h9.2.2 (by rw [ej, nI_toInt hj]; omega))]
      rw [hw9] at hP hD
      exact xreti (v := 0) hx hb hr hlocks hK hP hD hS (rfl) (bI_0 (fun h9 => absurd h9.2.2 (by rw [ej, nI_toInt hj]; omega))) d_MD_set_29
    · skip
      have c_2 : ¬ (n ≤ j) := fun h9 => c_2 ((nI_leI (a := n) (b := j) (by omega) (by omega)).mpr h9)
      refine lv_iload_n hx hb d_MD_set_17 rfl (lv_at hl 2 rfl) ?_
      refine lv_if_lt (tgt := 28) hx hb d_MD_set_18 (by decide) (fun c_3 => ?_) (fun c_3 => ?_)
      · skip
        have hB := p_b0 c_3
        refine lv_iconst (v := 0) hx hb d_MD_set_28 (by decide) ?_
        have hw9 : wsM bd cm 0 n fr a z le wy fo en fF fA fB fS fW sk pg ye ys yt yg yp tk gF gA gB gS gW yk = wsM bd cm 0 n (msF n fr k b) a z le wy fo en fF fA fB fS fW sk pg ye ys yt yg yp tk gF gA gB gS gW yk := by rw [msF, if_neg (fun h9 => hB h9.1)]
        rw [hw9] at hP hD
        exact xreti (v := 0) hx hb hr hlocks hK hP hD hS (rfl) (bI_0 (fun h9 => hB h9.1)) d_MD_set_29
      · skip
        refine lv_iload_n hx hb d_MD_set_21 rfl (lv_at hl 2 rfl) ?_
        refine lv_sipush (v := 255) hx hb d_MD_set_22 (by decide) ?_
        refine lv_icmp_le (tgt := 30) hx hb d_MD_set_25 (by decide) (fun c_4 => ?_) (fun c_4 => ?_)
        · skip
          have hB := (p_255 c_3).mp c_4
          refine lv_aload_n hx hb d_MD_set_30 rfl (lv_at hl 0 rfl) ?_
          refine va_get (D := (dC, dI)) (ci := 7) (v := .ref (bd 1)) (C := R_MD) (T := T_MD) (N := 28) hx hb hts i_MD hown hK hP 0 rfl rfl 2 (by decide) (hts _ wd_394) (fun _ h9 => h9) rfl d_MD_set_31 ?_
          refine lv_iload_n hx hb d_MD_set_34 rfl (lv_at hl 1 rfl) ?_
          refine lv_iload_n hx hb d_MD_set_35 rfl (lv_at hl 2 rfl) ?_
          refine lv_i2b hx hb d_MD_set_36 rfl ?_
          refine xbast (k := j) (x' := b.toInt8.toInt32) (ws1 := wsM bd cm 0 n (upd fr j b.toInt8.toInt32) a z le wy fo en fF fA fB fS fW sk pg ye ys yt yg yp tk gF gA gB gS gW yk) hx hb hK hP hD hS 1 0 rfl rfl (rfl) (by omega) (by decide) (pk_vb _) rfl d_MD_set_37 (fun H locs hP hD hS => ?_)
          refine lv_iconst (v := 1) hx hb d_MD_set_38 (by decide) ?_
          have hw9 : wsM bd cm 0 n (upd fr j b.toInt8.toInt32) a z le wy fo en fF fA fB fS fW sk pg ye ys yt yg yp tk gF gA gB gS gW yk = wsM bd cm 0 n (msF n fr k b) a z le wy fo en fF fA fB fS fW sk pg ye ys yt yg yp tk gF gA gB gS gW yk := by rw [msF, if_pos ⟨hB, by rw [ej, nI_toInt hj]; omega, by rw [ej, nI_toInt hj]; omega⟩, ej, nI_toInt hj]; rfl
          rw [hw9] at hP hD
          exact xreti (v := 1) hx hb hr hlocks hK hP hD hS (rfl) (bI_1 ⟨hB, by rw [ej, nI_toInt hj]; omega, by rw [ej, nI_toInt hj]; omega⟩) d_MD_set_39
        · skip
          have hB : ¬ isB b := fun h9 => c_4 ((p_255 c_3).mpr h9)
          refine lv_iconst (v := 0) hx hb d_MD_set_28 (by decide) ?_
          have hw9 : wsM bd cm 0 n fr a z le wy fo en fF fA fB fS fW sk pg ye ys yt yg yp tk gF gA gB gS gW yk = wsM bd cm 0 n (msF n fr k b) a z le wy fo en fF fA fB fS fW sk pg ye ys yt yg yp tk gF gA gB gS gW yk := by rw [msF, if_neg (fun h9 => hB h9.1)]
          rw [hw9] at hP hD
          exact xreti (v := 0) hx hb hr hlocks hK hP hD hS (rfl) (bI_0 (fun h9 => hB h9.1)) d_MD_set_29
set_option maxHeartbeats 4000000 in
set_option maxRecDepth 100000 in
theorem m_length (l : Launch) (dC : Nat → ClassId) (dI : Nat → Nat → Nat) (bd : Nat → Nat) (cm : Nat → ClassId) (th : Int32) (n : Nat) (fr : Nat → Int32) (a : Nat) (z : Nat → Nat) (le : Nat → Int32) (wy : Int32) (fo : Nat) (en : Nat) (fF : Nat → Nat) (fA : Nat → Nat) (fB : Nat → Nat) (fS : Nat → Nat) (fW : Nat → Int32) (sk : Nat → Int32) (pg : Nat) (ye : Int32) (ys : Int32) (yt : Nat) (yg : Nat) (yp : Nat) (tk : Nat → Int32) (gF : Nat → Nat) (gA : Nat → Nat) (gB : Nat → Nat) (gS : Nat → Nat) (gW : Nat → Int32) (yk : Nat → Int32) (sz : Nat) : Met l y_MD_length w_MD_length { frames := 0, cells := 0, slots := 0, locals := 0 } (va_Pc [.ref (bd 0)] (xP (dC, dI) (tyM cm) (wsM bd cm th n fr a z le wy fo en fF fA fB fS fW sk pg ye ys yt yg yp tk gF gA gB gS gW yk) sz)) (xQi (dC, dI) (tyM cm) (va_A (wsM bd cm th n fr a z le wy fo en fF fA fB fS fW sk pg ye ys yt yg yp tk gF gA gB gS gW yk) sz) (wsM bd cm 0 n fr a z le wy fo en fF fA fB fS fW sk pg ye ys yt yg yp tk gF gA gB gS gW yk) (fun r => r = nI n)) 0 0 (va_A (wsM bd cm th n fr a z le wy fo en fF fA fB fS fW sk pg ye ys yt yg yp tk gF gA gB gS gW yk) sz) := by
  refine xof (cc := b_MD_length) (maxL := 1) (ret := (some .int)) (own := R_MD) (Qc := fun A => (xQi (dC, dI) (tyM cm) A (wsM bd cm 0 n fr a z le wy fo en fF fA fB fS fW sk pg ye ys yt yg yp tk gF gA gB gS gW yk) (fun r => r = nI n))) (by decide) rfl rfl (Nat.le_of_ble_eq_true rfl) ?_ sz
  intro p e s m below meth c A C hnm hK hP hD hA hN hZ hS ls hl
  obtain ⟨hx, hb, hr, hml, hown, hts, hlocks⟩ := C
  have hl : lv_has ls 1 [(0, .ref (bd 0))] := hl
  refine lv_aload_n hx hb d_MD_length_0 rfl (lv_at hl 0 rfl) ?_
  refine lv_iconst (v := 0) hx hb d_MD_length_1 (by decide) ?_
  refine va_put (D := (dC, dI)) (ci := 7) (v := .int 0) (ty := .int) (C := R_MD) (T := T_MD) (N := 28) hx hb hts i_MD t_MD k_MD n_MD hown hK hP hD hS 0 rfl rfl 0 (by decide) (hts _ wd_392) (fun _ h9 => h9) rfl (by decide +kernel) rfl rfl (Nat.le_of_ble_eq_true rfl) d_MD_length_2 (fun H locs hP hD hS => ?_)
  have hP : va_P (dC, dI) vwCl (wsM bd cm 0 n fr a z le wy fo en fF fA fB fS fW sk pg ye ys yt yg yp tk gF gA gB gS gW yk) H := hP
  have hD : va_D A (wsM bd cm 0 n fr a z le wy fo en fF fA fB fS fW sk pg ye ys yt yg yp tk gF gA gB gS gW yk) := hD
  refine lv_aload_n hx hb d_MD_length_5 rfl (lv_at hl 0 rfl) ?_
  refine va_get (D := (dC, dI)) (ci := 7) (v := .int (nI n)) (C := R_MD) (T := T_MD) (N := 28) hx hb hts i_MD hown hK hP 0 rfl rfl 1 (by decide) (hts _ wd_393) (fun _ h9 => h9) rfl d_MD_length_6 ?_
  exact xreti (v := nI n) hx hb hr hlocks hK hP hD hS (rfl) (rfl) d_MD_length_9
set_option maxHeartbeats 4000000 in
set_option maxRecDepth 100000 in
theorem m_argument (l : Launch) (dC : Nat → ClassId) (dI : Nat → Nat → Nat) (bd : Nat → Nat) (cm : Nat → ClassId) (th : Int32) (n : Nat) (fr : Nat → Int32) (a : Nat) (z : Nat → Nat) (le : Nat → Int32) (wy : Int32) (fo : Nat) (en : Nat) (fF : Nat → Nat) (fA : Nat → Nat) (fB : Nat → Nat) (fS : Nat → Nat) (fW : Nat → Int32) (sk : Nat → Int32) (pg : Nat) (ye : Int32) (ys : Int32) (yt : Nat) (yg : Nat) (yp : Nat) (tk : Nat → Int32) (gF : Nat → Nat) (gA : Nat → Nat) (gB : Nat → Nat) (gS : Nat → Nat) (gW : Nat → Int32) (yk : Nat → Int32) (ha : a ≤ 32) (sz : Nat) : Met l y_MD_argument w_MD_argument { frames := 0, cells := 0, slots := 0, locals := 0 } (va_Pc [.ref (bd 0)] (xP (dC, dI) (tyM cm) (wsM bd cm th n fr a z le wy fo en fF fA fB fS fW sk pg ye ys yt yg yp tk gF gA gB gS gW yk) sz)) (xQi (dC, dI) (tyM cm) (va_A (wsM bd cm th n fr a z le wy fo en fF fA fB fS fW sk pg ye ys yt yg yp tk gF gA gB gS gW yk) sz) (wsM bd cm 0 n fr (agN a) (agZ a z) le wy fo en fF fA fB fS fW sk pg ye ys yt yg yp tk gF gA gB gS gW yk) (fun r => r = bI (a < 32))) 0 0 (va_A (wsM bd cm th n fr a z le wy fo en fF fA fB fS fW sk pg ye ys yt yg yp tk gF gA gB gS gW yk) sz) := by
  refine xof (cc := b_MD_argument) (maxL := 1) (ret := (some .boolean)) (own := R_MD) (Qc := fun A => (xQi (dC, dI) (tyM cm) A (wsM bd cm 0 n fr (agN a) (agZ a z) le wy fo en fF fA fB fS fW sk pg ye ys yt yg yp tk gF gA gB gS gW yk) (fun r => r = bI (a < 32)))) (by decide) rfl rfl (Nat.le_of_ble_eq_true rfl) ?_ sz
  intro p e s m below meth c A C hnm hK hP hD hA hN hZ hS ls hl
  obtain ⟨hx, hb, hr, hml, hown, hts, hlocks⟩ := C
  have hl : lv_has ls 1 [(0, .ref (bd 0))] := hl
  refine lv_aload_n hx hb d_MD_argument_0 rfl (lv_at hl 0 rfl) ?_
  refine lv_iconst (v := 0) hx hb d_MD_argument_1 (by decide) ?_
  refine va_put (D := (dC, dI)) (ci := 7) (v := .int 0) (ty := .int) (C := R_MD) (T := T_MD) (N := 28) hx hb hts i_MD t_MD k_MD n_MD hown hK hP hD hS 0 rfl rfl 0 (by decide) (hts _ wd_392) (fun _ h9 => h9) rfl (by decide +kernel) rfl rfl (Nat.le_of_ble_eq_true rfl) d_MD_argument_2 (fun H locs hP hD hS => ?_)
  have hP : va_P (dC, dI) vwCl (wsM bd cm 0 n fr a z le wy fo en fF fA fB fS fW sk pg ye ys yt yg yp tk gF gA gB gS gW yk) H := hP
  have hD : va_D A (wsM bd cm 0 n fr a z le wy fo en fF fA fB fS fW sk pg ye ys yt yg yp tk gF gA gB gS gW yk) := hD
  refine lv_aload_n hx hb d_MD_argument_5 rfl (lv_at hl 0 rfl) ?_
  refine va_get (D := (dC, dI)) (ci := 7) (v := .int (nI a)) (C := R_MD) (T := T_MD) (N := 28) hx hb hts i_MD hown hK hP 0 rfl rfl 3 (by decide) (hts _ wd_395) (fun _ h9 => h9) rfl d_MD_argument_6 ?_
  refine lv_bipush (v := 32) hx hb d_MD_argument_9 (by decide) ?_
  refine lv_icmp_ne (tgt := 16) hx hb d_MD_argument_11 (by decide) (fun c_1 => ?_) (fun c_1 => ?_)
  · skip
    have c_1 : ¬ (a = 32) := fun h9 => c_1 ((nI_eq (a := a) (b := 32) (by omega) (by omega)).mpr h9)
    refine lv_aload_n hx hb d_MD_argument_16 rfl (lv_at hl 0 rfl) ?_
    refine va_get (D := (dC, dI)) (ci := 7) (v := .ref (bd 2)) (C := R_MD) (T := T_MD) (N := 28) hx hb hts i_MD hown hK hP 0 rfl rfl 4 (by decide) (hts _ wd_396) (fun _ h9 => h9) rfl d_MD_argument_17 ?_
    refine lv_aload_n hx hb d_MD_argument_20 rfl (lv_at hl 0 rfl) ?_
    refine va_get (D := (dC, dI)) (ci := 7) (v := .int (nI a)) (C := R_MD) (T := T_MD) (N := 28) hx hb hts i_MD hown hK hP 0 rfl rfl 3 (by decide) (hts _ wd_395) (fun _ h9 => h9) rfl d_MD_argument_21 ?_
    refine lv_iconst (v := 0) hx hb d_MD_argument_24 (by decide) ?_
    refine xiast (k := a) (ws1 := wsM bd cm 0 n fr a (upn z a 0) le wy fo en fF fA fB fS fW sk pg ye ys yt yg yp tk gF gA gB gS gW yk) hx hb hK hP hD hS 2 1 rfl rfl (rfl) (by omega) (by decide) wsM_put_z d_MD_argument_25 (fun H locs hP hD hS => ?_)
    refine lv_aload_n hx hb d_MD_argument_26 rfl (lv_at hl 0 rfl) ?_
    refine lv_dup hx hb d_MD_argument_27 rfl ?_
    refine va_get (D := (dC, dI)) (ci := 7) (v := .int (nI a)) (C := R_MD) (T := T_MD) (N := 28) hx hb hts i_MD hown hK hP 0 rfl rfl 3 (by decide) (hts _ wd_395) (fun _ h9 => h9) rfl d_MD_argument_28 ?_
    refine lv_iconst (v := 1) hx hb d_MD_argument_31 (by decide) ?_
    refine lv_iadd hx hb d_MD_argument_32 ?_
    refine xtopi (y := nI (a + 1)) (nI_add (a) (1)) ?_
    refine va_put (D := (dC, dI)) (ci := 7) (v := .int (nI (a + 1))) (ty := .int) (C := R_MD) (T := T_MD) (N := 28) hx hb hts i_MD t_MD k_MD n_MD hown hK hP hD hS 0 rfl rfl 3 (by decide) (hts _ wd_395) (fun _ h9 => h9) rfl (by decide +kernel) rfl rfl (Nat.le_of_ble_eq_true rfl) d_MD_argument_33 (fun H locs hP hD hS => ?_)
    have hP : va_P (dC, dI) vwCl (wsM bd cm 0 n fr (a + 1) (upn z a 0) le wy fo en fF fA fB fS fW sk pg ye ys yt yg yp tk gF gA gB gS gW yk) H := hP
    have hD : va_D A (wsM bd cm 0 n fr (a + 1) (upn z a 0) le wy fo en fF fA fB fS fW sk pg ye ys yt yg yp tk gF gA gB gS gW yk) := hD
    refine lv_iconst (v := 1) hx hb d_MD_argument_36 (by decide) ?_
    have hw9 : wsM bd cm 0 n fr (a + 1) (upn z a 0) le wy fo en fF fA fB fS fW sk pg ye ys yt yg yp tk gF gA gB gS gW yk = wsM bd cm 0 n fr (agN a) (agZ a z) le wy fo en fF fA fB fS fW sk pg ye ys yt yg yp tk gF gA gB gS gW yk := by rw [agN, agZ, if_pos (by omega), if_pos (by omega)]
    rw [hw9] at hP hD
    exact xreti (v := 1) hx hb hr hlocks hK hP hD hS (rfl) (bI_1 (by omega)) d_MD_argument_37
  · skip
    have c_1 : a = 32 := (nI_eq (a := a) (b := 32) (by omega) (by omega)).mp c_1
    refine lv_iconst (v := 0) hx hb d_MD_argument_14 (by decide) ?_
    have hw9 : wsM bd cm 0 n fr a z le wy fo en fF fA fB fS fW sk pg ye ys yt yg yp tk gF gA gB gS gW yk = wsM bd cm 0 n fr (agN a) (agZ a z) le wy fo en fF fA fB fS fW sk pg ye ys yt yg yp tk gF gA gB gS gW yk := by rw [agN, agZ, if_neg (by omega), if_neg (by omega)]
    rw [hw9] at hP hD
    exact xreti (v := 0) hx hb hr hlocks hK hP hD hS (rfl) (bI_0 (by omega)) d_MD_argument_15
set_option maxHeartbeats 4000000 in
set_option maxRecDepth 100000 in
theorem m_forget (l : Launch) (dC : Nat → ClassId) (dI : Nat → Nat → Nat) (bd : Nat → Nat) (cm : Nat → ClassId) (th : Int32) (n : Nat) (fr : Nat → Int32) (a : Nat) (z : Nat → Nat) (le : Nat → Int32) (wy : Int32) (fo : Nat) (en : Nat) (fF : Nat → Nat) (fA : Nat → Nat) (fB : Nat → Nat) (fS : Nat → Nat) (fW : Nat → Int32) (sk : Nat → Int32) (pg : Nat) (ye : Int32) (ys : Int32) (yt : Nat) (yg : Nat) (yp : Nat) (tk : Nat → Int32) (gF : Nat → Nat) (gA : Nat → Nat) (gB : Nat → Nat) (gS : Nat → Nat) (gW : Nat → Int32) (yk : Nat → Int32) (sz : Nat) : Met l y_MD_forget w_MD_forget { frames := 0, cells := 0, slots := 0, locals := 0 } (va_Pc [.ref (bd 0)] (xP (dC, dI) (tyM cm) (wsM bd cm th n fr a z le wy fo en fF fA fB fS fW sk pg ye ys yt yg yp tk gF gA gB gS gW yk) sz)) (xQv (dC, dI) (tyM cm) (va_A (wsM bd cm th n fr a z le wy fo en fF fA fB fS fW sk pg ye ys yt yg yp tk gF gA gB gS gW yk) sz) (wsM bd cm 0 n fr 0 z le wy fo en fF fA fB fS fW sk pg ye ys yt yg yp tk gF gA gB gS gW yk)) 0 0 (va_A (wsM bd cm th n fr a z le wy fo en fF fA fB fS fW sk pg ye ys yt yg yp tk gF gA gB gS gW yk) sz) := by
  refine xof (cc := b_MD_forget) (maxL := 1) (ret := none) (own := R_MD) (Qc := fun A => (xQv (dC, dI) (tyM cm) A (wsM bd cm 0 n fr 0 z le wy fo en fF fA fB fS fW sk pg ye ys yt yg yp tk gF gA gB gS gW yk))) (by decide) rfl rfl (Nat.le_of_ble_eq_true rfl) ?_ sz
  intro p e s m below meth c A C hnm hK hP hD hA hN hZ hS ls hl
  obtain ⟨hx, hb, hr, hml, hown, hts, hlocks⟩ := C
  have hl : lv_has ls 1 [(0, .ref (bd 0))] := hl
  refine lv_aload_n hx hb d_MD_forget_0 rfl (lv_at hl 0 rfl) ?_
  refine lv_iconst (v := 0) hx hb d_MD_forget_1 (by decide) ?_
  refine va_put (D := (dC, dI)) (ci := 7) (v := .int 0) (ty := .int) (C := R_MD) (T := T_MD) (N := 28) hx hb hts i_MD t_MD k_MD n_MD hown hK hP hD hS 0 rfl rfl 0 (by decide) (hts _ wd_392) (fun _ h9 => h9) rfl (by decide +kernel) rfl rfl (Nat.le_of_ble_eq_true rfl) d_MD_forget_2 (fun H locs hP hD hS => ?_)
  have hP : va_P (dC, dI) vwCl (wsM bd cm 0 n fr a z le wy fo en fF fA fB fS fW sk pg ye ys yt yg yp tk gF gA gB gS gW yk) H := hP
  have hD : va_D A (wsM bd cm 0 n fr a z le wy fo en fF fA fB fS fW sk pg ye ys yt yg yp tk gF gA gB gS gW yk) := hD
  refine lv_aload_n hx hb d_MD_forget_5 rfl (lv_at hl 0 rfl) ?_
  refine lv_iconst (v := 0) hx hb d_MD_forget_6 (by decide) ?_
  refine va_put (D := (dC, dI)) (ci := 7) (v := .int 0) (ty := .int) (C := R_MD) (T := T_MD) (N := 28) hx hb hts i_MD t_MD k_MD n_MD hown hK hP hD hS 0 rfl rfl 3 (by decide) (hts _ wd_395) (fun _ h9 => h9) rfl (by decide +kernel) rfl rfl (Nat.le_of_ble_eq_true rfl) d_MD_forget_7 (fun H locs hP hD hS => ?_)
  have hP : va_P (dC, dI) vwCl (wsM bd cm 0 n fr 0 z le wy fo en fF fA fB fS fW sk pg ye ys yt yg yp tk gF gA gB gS gW yk) H := hP
  have hD : va_D A (wsM bd cm 0 n fr 0 z le wy fo en fF fA fB fS fW sk pg ye ys yt yg yp tk gF gA gB gS gW yk) := hD
  exact xretv hx hb hr hlocks hK hP hD hS d_MD_forget_10
set_option maxHeartbeats 4000000 in
set_option maxRecDepth 100000 in
theorem m_why (l : Launch) (dC : Nat → ClassId) (dI : Nat → Nat → Nat) (bd : Nat → Nat) (cm : Nat → ClassId) (th : Int32) (n : Nat) (fr : Nat → Int32) (a : Nat) (z : Nat → Nat) (le : Nat → Int32) (wy : Int32) (fo : Nat) (en : Nat) (fF : Nat → Nat) (fA : Nat → Nat) (fB : Nat → Nat) (fS : Nat → Nat) (fW : Nat → Int32) (sk : Nat → Int32) (pg : Nat) (ye : Int32) (ys : Int32) (yt : Nat) (yg : Nat) (yp : Nat) (tk : Nat → Int32) (gF : Nat → Nat) (gA : Nat → Nat) (gB : Nat → Nat) (gS : Nat → Nat) (gW : Nat → Int32) (yk : Nat → Int32) (sz : Nat) : Met l y_MD_why w_MD_why { frames := 0, cells := 0, slots := 0, locals := 0 } (va_Pc [.ref (bd 0)] (xP (dC, dI) (tyM cm) (wsM bd cm th n fr a z le wy fo en fF fA fB fS fW sk pg ye ys yt yg yp tk gF gA gB gS gW yk) sz)) (xQi (dC, dI) (tyM cm) (va_A (wsM bd cm th n fr a z le wy fo en fF fA fB fS fW sk pg ye ys yt yg yp tk gF gA gB gS gW yk) sz) (wsM bd cm 0 n fr a z le wy fo en fF fA fB fS fW sk pg ye ys yt yg yp tk gF gA gB gS gW yk) (fun r => r = wy)) 0 0 (va_A (wsM bd cm th n fr a z le wy fo en fF fA fB fS fW sk pg ye ys yt yg yp tk gF gA gB gS gW yk) sz) := by
  refine xof (cc := b_MD_why) (maxL := 1) (ret := (some .int)) (own := R_MD) (Qc := fun A => (xQi (dC, dI) (tyM cm) A (wsM bd cm 0 n fr a z le wy fo en fF fA fB fS fW sk pg ye ys yt yg yp tk gF gA gB gS gW yk) (fun r => r = wy))) (by decide) rfl rfl (Nat.le_of_ble_eq_true rfl) ?_ sz
  intro p e s m below meth c A C hnm hK hP hD hA hN hZ hS ls hl
  obtain ⟨hx, hb, hr, hml, hown, hts, hlocks⟩ := C
  have hl : lv_has ls 1 [(0, .ref (bd 0))] := hl
  refine lv_aload_n hx hb d_MD_why_0 rfl (lv_at hl 0 rfl) ?_
  refine lv_iconst (v := 0) hx hb d_MD_why_1 (by decide) ?_
  refine va_put (D := (dC, dI)) (ci := 7) (v := .int 0) (ty := .int) (C := R_MD) (T := T_MD) (N := 28) hx hb hts i_MD t_MD k_MD n_MD hown hK hP hD hS 0 rfl rfl 0 (by decide) (hts _ wd_392) (fun _ h9 => h9) rfl (by decide +kernel) rfl rfl (Nat.le_of_ble_eq_true rfl) d_MD_why_2 (fun H locs hP hD hS => ?_)
  have hP : va_P (dC, dI) vwCl (wsM bd cm 0 n fr a z le wy fo en fF fA fB fS fW sk pg ye ys yt yg yp tk gF gA gB gS gW yk) H := hP
  have hD : va_D A (wsM bd cm 0 n fr a z le wy fo en fF fA fB fS fW sk pg ye ys yt yg yp tk gF gA gB gS gW yk) := hD
  refine lv_aload_n hx hb d_MD_why_5 rfl (lv_at hl 0 rfl) ?_
  refine va_get (D := (dC, dI)) (ci := 7) (v := .int wy) (C := R_MD) (T := T_MD) (N := 28) hx hb hts i_MD hown hK hP 0 rfl rfl 6 (by decide) (hts _ wd_398) (fun _ h9 => h9) rfl d_MD_why_6 ?_
  exact xreti (v := wy) hx hb hr hlocks hK hP hD hS (rfl) (rfl) d_MD_why_9
set_option maxHeartbeats 4000000 in
set_option maxRecDepth 100000 in
theorem m_number1 (l : Launch) (dC : Nat → ClassId) (dI : Nat → Nat → Nat) (bd : Nat → Nat) (cm : Nat → ClassId) (th : Int32) (n : Nat) (fr : Nat → Int32) (a : Nat) (z : Nat → Nat) (le : Nat → Int32) (wy : Int32) (fo : Nat) (en : Nat) (fF : Nat → Nat) (fA : Nat → Nat) (fB : Nat → Nat) (fS : Nat → Nat) (fW : Nat → Int32) (sk : Nat → Int32) (pg : Nat) (ye : Int32) (ys : Int32) (yt : Nat) (yg : Nat) (yp : Nat) (tk : Nat → Int32) (gF : Nat → Nat) (gA : Nat → Nat) (gB : Nat → Nat) (gS : Nat → Nat) (gW : Nat → Int32) (yk : Nat → Int32) (q : Nat) (hq : q + 1 ≤ 65536) (sz : Nat) : Met l y_MD_number w_MD_number { frames := 0, cells := 0, slots := 0, locals := 0 } (va_Pc [.ref (bd 0), .long (lN q), .int 1] (xP (dC, dI) (tyM cm) (wsM bd cm th n fr a z le wy fo en fF fA fB fS fW sk pg ye ys yt yg yp tk gF gA gB gS gW yk) sz)) (xQl (dC, dI) (tyM cm) (va_A (wsM bd cm th n fr a z le wy fo en fF fA fB fS fW sk pg ye ys yt yg yp tk gF gA gB gS gW yk) sz) (wsM bd cm th n fr a z le wy fo en fF fA fB fS fW sk pg ye ys yt yg yp tk gF gA gB gS gW yk) (fun r => r = lN (nbN fr q 1))) 0 0 (va_A (wsM bd cm th n fr a z le wy fo en fF fA fB fS fW sk pg ye ys yt yg yp tk gF gA gB gS gW yk) sz) := by
  refine xof (cc := b_MD_number) (maxL := 7) (ret := (some .long)) (own := R_MD) (Qc := fun A => (xQl (dC, dI) (tyM cm) A (wsM bd cm th n fr a z le wy fo en fF fA fB fS fW sk pg ye ys yt yg yp tk gF gA gB gS gW yk) (fun r => r = lN (nbN fr q 1)))) (by decide) rfl rfl (Nat.le_of_ble_eq_true rfl) ?_ sz
  intro p e s m below meth c A C hnm hK hP hD hA hN hZ hS ls hl
  obtain ⟨hx, hb, hr, hml, hown, hts, hlocks⟩ := C
  have hl : lv_has ls 7 [(0, .ref (bd 0)), (1, .long (lN q)), (3, .int 1)] := hl
  refine lv_lconst (v := 0) hx hb d_MD_number_0 (by decide) ?_
  refine lv_lstore (lv' := [(4, .long 0), (0, .ref (bd 0)), (1, .long (lN q)), (3, .int 1)]) hx hb d_MD_number_1 hl (by decide) rfl (fun ls hl => ?_)
  refine lv_iconst (v := 0) hx hb d_MD_number_3 (by decide) ?_
  refine lv_istore (lv' := [(6, .int 0), (4, .long 0), (0, .ref (bd 0)), (1, .long (lN q)), (3, .int 1)]) hx hb d_MD_number_4 hl (by decide) rfl (fun ls hl => ?_)
  refine lv_iload hx hb d_MD_number_6 (lv_at hl 0 rfl) ?_
  refine lv_iload_n hx hb d_MD_number_8 rfl (lv_at hl 4 rfl) ?_
  refine lv_icmp_ge (tgt := 44) hx hb d_MD_number_9 (by decide) (fun c_1 => ?_) (fun c_1 => ?_)
  · exact absurd c_1 (by decide)
  · skip
    refine lv_lload hx hb d_MD_number_12 (lv_at hl 1 rfl) ?_
    refine lv_aload_n hx hb d_MD_number_14 rfl (lv_at hl 2 rfl) ?_
    refine va_get (D := (dC, dI)) (ci := 7) (v := .ref (bd 1)) (C := R_MD) (T := T_MD) (N := 28) hx hb hts i_MD hown hK hP 0 rfl rfl 2 (by decide) (hts _ wd_394) (fun _ h9 => h9) rfl d_MD_number_15 ?_
    refine lv_lload_n hx hb d_MD_number_18 rfl (lv_at hl 3 rfl) ?_
    refine lv_l2i hx hb d_MD_number_19 rfl ?_
    refine xtopi (y := nI q) (lN_i (q)) ?_
    refine lv_iload hx hb d_MD_number_20 (lv_at hl 0 rfl) ?_
    refine lv_iadd hx hb d_MD_number_22 ?_
    refine xtopi (y := nI (q + 0)) (nI_add (q) (0)) ?_
    refine xbald (k := q + 0) hx hb hK hP 1 0 rfl rfl (rfl) (by omega) (by decide) d_MD_number_23 ?_
    refine lv_i2l hx hb d_MD_number_24 rfl ?_
    refine lv_ldc2 (v := 255) hx hb hown (hts _ wd_506) d_MD_number_25 ?_
    refine lv_land hx hb d_MD_number_28 ?_
    refine lv_bipush (v := 8) hx hb d_MD_number_29 (by decide) ?_
    refine lv_iload hx hb d_MD_number_31 (lv_at hl 0 rfl) ?_
    refine lv_imul hx hb d_MD_number_33 ?_
    refine lv_lshl hx hb d_MD_number_34 rfl ?_
    refine lv_lor hx hb d_MD_number_35 ?_
    refine xtopl (y := lN (nbP fr q 1)) (nbP_step0 fr q) ?_
    refine lv_lstore (lv' := [(4, .long (lN (nbP fr q 1))), (6, .int 0), (0, .ref (bd 0)), (1, .long (lN q)), (3, .int 1)]) hx hb d_MD_number_36 hl (by decide) rfl (fun ls hl => ?_)
    refine lv_iinc (v := 1) (lv' := [(6, .int 1), (4, .long (lN (nbP fr q 1))), (0, .ref (bd 0)), (1, .long (lN q)), (3, .int 1)]) hx hb d_MD_number_38 hl (k := 1) rfl rfl (by decide) rfl (fun ls hl => ?_)
    refine lv_goto (tgt := 6) hx hb d_MD_number_41 (by decide) ?_
    refine lv_iload hx hb d_MD_number_6 (lv_at hl 0 rfl) ?_
    refine lv_iload_n hx hb d_MD_number_8 rfl (lv_at hl 4 rfl) ?_
    refine lv_icmp_ge (tgt := 44) hx hb d_MD_number_9 (by decide) (fun c_2 => ?_) (fun c_2 => ?_)
    · skip
      refine lv_lload hx hb d_MD_number_44 (lv_at hl 1 rfl) ?_
      exact xretl hx hb hr hlocks hK hP hD hS (by rw [nbP_nbN1]) d_MD_number_46
    · exact absurd c_2 (by decide)
set_option maxHeartbeats 4000000 in
set_option maxRecDepth 100000 in
theorem m_number2 (l : Launch) (dC : Nat → ClassId) (dI : Nat → Nat → Nat) (bd : Nat → Nat) (cm : Nat → ClassId) (th : Int32) (n : Nat) (fr : Nat → Int32) (a : Nat) (z : Nat → Nat) (le : Nat → Int32) (wy : Int32) (fo : Nat) (en : Nat) (fF : Nat → Nat) (fA : Nat → Nat) (fB : Nat → Nat) (fS : Nat → Nat) (fW : Nat → Int32) (sk : Nat → Int32) (pg : Nat) (ye : Int32) (ys : Int32) (yt : Nat) (yg : Nat) (yp : Nat) (tk : Nat → Int32) (gF : Nat → Nat) (gA : Nat → Nat) (gB : Nat → Nat) (gS : Nat → Nat) (gW : Nat → Int32) (yk : Nat → Int32) (q : Nat) (hq : q + 2 ≤ 65536) (sz : Nat) : Met l y_MD_number w_MD_number { frames := 0, cells := 0, slots := 0, locals := 0 } (va_Pc [.ref (bd 0), .long (lN q), .int 2] (xP (dC, dI) (tyM cm) (wsM bd cm th n fr a z le wy fo en fF fA fB fS fW sk pg ye ys yt yg yp tk gF gA gB gS gW yk) sz)) (xQl (dC, dI) (tyM cm) (va_A (wsM bd cm th n fr a z le wy fo en fF fA fB fS fW sk pg ye ys yt yg yp tk gF gA gB gS gW yk) sz) (wsM bd cm th n fr a z le wy fo en fF fA fB fS fW sk pg ye ys yt yg yp tk gF gA gB gS gW yk) (fun r => r = lN (nbN fr q 2))) 0 0 (va_A (wsM bd cm th n fr a z le wy fo en fF fA fB fS fW sk pg ye ys yt yg yp tk gF gA gB gS gW yk) sz) := by
  refine xof (cc := b_MD_number) (maxL := 7) (ret := (some .long)) (own := R_MD) (Qc := fun A => (xQl (dC, dI) (tyM cm) A (wsM bd cm th n fr a z le wy fo en fF fA fB fS fW sk pg ye ys yt yg yp tk gF gA gB gS gW yk) (fun r => r = lN (nbN fr q 2)))) (by decide) rfl rfl (Nat.le_of_ble_eq_true rfl) ?_ sz
  intro p e s m below meth c A C hnm hK hP hD hA hN hZ hS ls hl
  obtain ⟨hx, hb, hr, hml, hown, hts, hlocks⟩ := C
  have hl : lv_has ls 7 [(0, .ref (bd 0)), (1, .long (lN q)), (3, .int 2)] := hl
  refine lv_lconst (v := 0) hx hb d_MD_number_0 (by decide) ?_
  refine lv_lstore (lv' := [(4, .long 0), (0, .ref (bd 0)), (1, .long (lN q)), (3, .int 2)]) hx hb d_MD_number_1 hl (by decide) rfl (fun ls hl => ?_)
  refine lv_iconst (v := 0) hx hb d_MD_number_3 (by decide) ?_
  refine lv_istore (lv' := [(6, .int 0), (4, .long 0), (0, .ref (bd 0)), (1, .long (lN q)), (3, .int 2)]) hx hb d_MD_number_4 hl (by decide) rfl (fun ls hl => ?_)
  refine lv_iload hx hb d_MD_number_6 (lv_at hl 0 rfl) ?_
  refine lv_iload_n hx hb d_MD_number_8 rfl (lv_at hl 4 rfl) ?_
  refine lv_icmp_ge (tgt := 44) hx hb d_MD_number_9 (by decide) (fun c_1 => ?_) (fun c_1 => ?_)
  · exact absurd c_1 (by decide)
  · skip
    refine lv_lload hx hb d_MD_number_12 (lv_at hl 1 rfl) ?_
    refine lv_aload_n hx hb d_MD_number_14 rfl (lv_at hl 2 rfl) ?_
    refine va_get (D := (dC, dI)) (ci := 7) (v := .ref (bd 1)) (C := R_MD) (T := T_MD) (N := 28) hx hb hts i_MD hown hK hP 0 rfl rfl 2 (by decide) (hts _ wd_394) (fun _ h9 => h9) rfl d_MD_number_15 ?_
    refine lv_lload_n hx hb d_MD_number_18 rfl (lv_at hl 3 rfl) ?_
    refine lv_l2i hx hb d_MD_number_19 rfl ?_
    refine xtopi (y := nI q) (lN_i (q)) ?_
    refine lv_iload hx hb d_MD_number_20 (lv_at hl 0 rfl) ?_
    refine lv_iadd hx hb d_MD_number_22 ?_
    refine xtopi (y := nI (q + 0)) (nI_add (q) (0)) ?_
    refine xbald (k := q + 0) hx hb hK hP 1 0 rfl rfl (rfl) (by omega) (by decide) d_MD_number_23 ?_
    refine lv_i2l hx hb d_MD_number_24 rfl ?_
    refine lv_ldc2 (v := 255) hx hb hown (hts _ wd_506) d_MD_number_25 ?_
    refine lv_land hx hb d_MD_number_28 ?_
    refine lv_bipush (v := 8) hx hb d_MD_number_29 (by decide) ?_
    refine lv_iload hx hb d_MD_number_31 (lv_at hl 0 rfl) ?_
    refine lv_imul hx hb d_MD_number_33 ?_
    refine lv_lshl hx hb d_MD_number_34 rfl ?_
    refine lv_lor hx hb d_MD_number_35 ?_
    refine xtopl (y := lN (nbP fr q 1)) (nbP_step0 fr q) ?_
    refine lv_lstore (lv' := [(4, .long (lN (nbP fr q 1))), (6, .int 0), (0, .ref (bd 0)), (1, .long (lN q)), (3, .int 2)]) hx hb d_MD_number_36 hl (by decide) rfl (fun ls hl => ?_)
    refine lv_iinc (v := 1) (lv' := [(6, .int 1), (4, .long (lN (nbP fr q 1))), (0, .ref (bd 0)), (1, .long (lN q)), (3, .int 2)]) hx hb d_MD_number_38 hl (k := 1) rfl rfl (by decide) rfl (fun ls hl => ?_)
    refine lv_goto (tgt := 6) hx hb d_MD_number_41 (by decide) ?_
    refine lv_iload hx hb d_MD_number_6 (lv_at hl 0 rfl) ?_
    refine lv_iload_n hx hb d_MD_number_8 rfl (lv_at hl 4 rfl) ?_
    refine lv_icmp_ge (tgt := 44) hx hb d_MD_number_9 (by decide) (fun c_2 => ?_) (fun c_2 => ?_)
    · exact absurd c_2 (by decide)
    · skip
      refine lv_lload hx hb d_MD_number_12 (lv_at hl 1 rfl) ?_
      refine lv_aload_n hx hb d_MD_number_14 rfl (lv_at hl 2 rfl) ?_
      refine va_get (D := (dC, dI)) (ci := 7) (v := .ref (bd 1)) (C := R_MD) (T := T_MD) (N := 28) hx hb hts i_MD hown hK hP 0 rfl rfl 2 (by decide) (hts _ wd_394) (fun _ h9 => h9) rfl d_MD_number_15 ?_
      refine lv_lload_n hx hb d_MD_number_18 rfl (lv_at hl 3 rfl) ?_
      refine lv_l2i hx hb d_MD_number_19 rfl ?_
      refine xtopi (y := nI q) (lN_i (q)) ?_
      refine lv_iload hx hb d_MD_number_20 (lv_at hl 0 rfl) ?_
      refine lv_iadd hx hb d_MD_number_22 ?_
      refine xtopi (y := nI (q + 1)) (nI_add (q) (1)) ?_
      refine xbald (k := q + 1) hx hb hK hP 1 0 rfl rfl (rfl) (by omega) (by decide) d_MD_number_23 ?_
      refine lv_i2l hx hb d_MD_number_24 rfl ?_
      refine lv_ldc2 (v := 255) hx hb hown (hts _ wd_506) d_MD_number_25 ?_
      refine lv_land hx hb d_MD_number_28 ?_
      refine lv_bipush (v := 8) hx hb d_MD_number_29 (by decide) ?_
      refine lv_iload hx hb d_MD_number_31 (lv_at hl 0 rfl) ?_
      refine lv_imul hx hb d_MD_number_33 ?_
      refine lv_lshl hx hb d_MD_number_34 rfl ?_
      refine lv_lor hx hb d_MD_number_35 ?_
      refine xtopl (y := lN (nbP fr q 2)) (nbP_step1 fr q) ?_
      refine lv_lstore (lv' := [(4, .long (lN (nbP fr q 2))), (6, .int 1), (0, .ref (bd 0)), (1, .long (lN q)), (3, .int 2)]) hx hb d_MD_number_36 hl (by decide) rfl (fun ls hl => ?_)
      refine lv_iinc (v := 2) (lv' := [(6, .int 2), (4, .long (lN (nbP fr q 2))), (0, .ref (bd 0)), (1, .long (lN q)), (3, .int 2)]) hx hb d_MD_number_38 hl (k := 1) rfl rfl (by decide) rfl (fun ls hl => ?_)
      refine lv_goto (tgt := 6) hx hb d_MD_number_41 (by decide) ?_
      refine lv_iload hx hb d_MD_number_6 (lv_at hl 0 rfl) ?_
      refine lv_iload_n hx hb d_MD_number_8 rfl (lv_at hl 4 rfl) ?_
      refine lv_icmp_ge (tgt := 44) hx hb d_MD_number_9 (by decide) (fun c_3 => ?_) (fun c_3 => ?_)
      · skip
        refine lv_lload hx hb d_MD_number_44 (lv_at hl 1 rfl) ?_
        exact xretl hx hb hr hlocks hK hP hD hS (by rw [nbP_nbN2]) d_MD_number_46
      · exact absurd c_3 (by decide)
set_option maxHeartbeats 4000000 in
set_option maxRecDepth 100000 in
theorem m_number4 (l : Launch) (dC : Nat → ClassId) (dI : Nat → Nat → Nat) (bd : Nat → Nat) (cm : Nat → ClassId) (th : Int32) (n : Nat) (fr : Nat → Int32) (a : Nat) (z : Nat → Nat) (le : Nat → Int32) (wy : Int32) (fo : Nat) (en : Nat) (fF : Nat → Nat) (fA : Nat → Nat) (fB : Nat → Nat) (fS : Nat → Nat) (fW : Nat → Int32) (sk : Nat → Int32) (pg : Nat) (ye : Int32) (ys : Int32) (yt : Nat) (yg : Nat) (yp : Nat) (tk : Nat → Int32) (gF : Nat → Nat) (gA : Nat → Nat) (gB : Nat → Nat) (gS : Nat → Nat) (gW : Nat → Int32) (yk : Nat → Int32) (q : Nat) (hq : q + 4 ≤ 65536) (sz : Nat) : Met l y_MD_number w_MD_number { frames := 0, cells := 0, slots := 0, locals := 0 } (va_Pc [.ref (bd 0), .long (lN q), .int 4] (xP (dC, dI) (tyM cm) (wsM bd cm th n fr a z le wy fo en fF fA fB fS fW sk pg ye ys yt yg yp tk gF gA gB gS gW yk) sz)) (xQl (dC, dI) (tyM cm) (va_A (wsM bd cm th n fr a z le wy fo en fF fA fB fS fW sk pg ye ys yt yg yp tk gF gA gB gS gW yk) sz) (wsM bd cm th n fr a z le wy fo en fF fA fB fS fW sk pg ye ys yt yg yp tk gF gA gB gS gW yk) (fun r => r = lN (nbN fr q 4))) 0 0 (va_A (wsM bd cm th n fr a z le wy fo en fF fA fB fS fW sk pg ye ys yt yg yp tk gF gA gB gS gW yk) sz) := by
  refine xof (cc := b_MD_number) (maxL := 7) (ret := (some .long)) (own := R_MD) (Qc := fun A => (xQl (dC, dI) (tyM cm) A (wsM bd cm th n fr a z le wy fo en fF fA fB fS fW sk pg ye ys yt yg yp tk gF gA gB gS gW yk) (fun r => r = lN (nbN fr q 4)))) (by decide) rfl rfl (Nat.le_of_ble_eq_true rfl) ?_ sz
  intro p e s m below meth c A C hnm hK hP hD hA hN hZ hS ls hl
  obtain ⟨hx, hb, hr, hml, hown, hts, hlocks⟩ := C
  have hl : lv_has ls 7 [(0, .ref (bd 0)), (1, .long (lN q)), (3, .int 4)] := hl
  refine lv_lconst (v := 0) hx hb d_MD_number_0 (by decide) ?_
  refine lv_lstore (lv' := [(4, .long 0), (0, .ref (bd 0)), (1, .long (lN q)), (3, .int 4)]) hx hb d_MD_number_1 hl (by decide) rfl (fun ls hl => ?_)
  refine lv_iconst (v := 0) hx hb d_MD_number_3 (by decide) ?_
  refine lv_istore (lv' := [(6, .int 0), (4, .long 0), (0, .ref (bd 0)), (1, .long (lN q)), (3, .int 4)]) hx hb d_MD_number_4 hl (by decide) rfl (fun ls hl => ?_)
  refine lv_iload hx hb d_MD_number_6 (lv_at hl 0 rfl) ?_
  refine lv_iload_n hx hb d_MD_number_8 rfl (lv_at hl 4 rfl) ?_
  refine lv_icmp_ge (tgt := 44) hx hb d_MD_number_9 (by decide) (fun c_1 => ?_) (fun c_1 => ?_)
  · exact absurd c_1 (by decide)
  · skip
    refine lv_lload hx hb d_MD_number_12 (lv_at hl 1 rfl) ?_
    refine lv_aload_n hx hb d_MD_number_14 rfl (lv_at hl 2 rfl) ?_
    refine va_get (D := (dC, dI)) (ci := 7) (v := .ref (bd 1)) (C := R_MD) (T := T_MD) (N := 28) hx hb hts i_MD hown hK hP 0 rfl rfl 2 (by decide) (hts _ wd_394) (fun _ h9 => h9) rfl d_MD_number_15 ?_
    refine lv_lload_n hx hb d_MD_number_18 rfl (lv_at hl 3 rfl) ?_
    refine lv_l2i hx hb d_MD_number_19 rfl ?_
    refine xtopi (y := nI q) (lN_i (q)) ?_
    refine lv_iload hx hb d_MD_number_20 (lv_at hl 0 rfl) ?_
    refine lv_iadd hx hb d_MD_number_22 ?_
    refine xtopi (y := nI (q + 0)) (nI_add (q) (0)) ?_
    refine xbald (k := q + 0) hx hb hK hP 1 0 rfl rfl (rfl) (by omega) (by decide) d_MD_number_23 ?_
    refine lv_i2l hx hb d_MD_number_24 rfl ?_
    refine lv_ldc2 (v := 255) hx hb hown (hts _ wd_506) d_MD_number_25 ?_
    refine lv_land hx hb d_MD_number_28 ?_
    refine lv_bipush (v := 8) hx hb d_MD_number_29 (by decide) ?_
    refine lv_iload hx hb d_MD_number_31 (lv_at hl 0 rfl) ?_
    refine lv_imul hx hb d_MD_number_33 ?_
    refine lv_lshl hx hb d_MD_number_34 rfl ?_
    refine lv_lor hx hb d_MD_number_35 ?_
    refine xtopl (y := lN (nbP fr q 1)) (nbP_step0 fr q) ?_
    refine lv_lstore (lv' := [(4, .long (lN (nbP fr q 1))), (6, .int 0), (0, .ref (bd 0)), (1, .long (lN q)), (3, .int 4)]) hx hb d_MD_number_36 hl (by decide) rfl (fun ls hl => ?_)
    refine lv_iinc (v := 1) (lv' := [(6, .int 1), (4, .long (lN (nbP fr q 1))), (0, .ref (bd 0)), (1, .long (lN q)), (3, .int 4)]) hx hb d_MD_number_38 hl (k := 1) rfl rfl (by decide) rfl (fun ls hl => ?_)
    refine lv_goto (tgt := 6) hx hb d_MD_number_41 (by decide) ?_
    refine lv_iload hx hb d_MD_number_6 (lv_at hl 0 rfl) ?_
    refine lv_iload_n hx hb d_MD_number_8 rfl (lv_at hl 4 rfl) ?_
    refine lv_icmp_ge (tgt := 44) hx hb d_MD_number_9 (by decide) (fun c_2 => ?_) (fun c_2 => ?_)
    · exact absurd c_2 (by decide)
    · skip
      refine lv_lload hx hb d_MD_number_12 (lv_at hl 1 rfl) ?_
      refine lv_aload_n hx hb d_MD_number_14 rfl (lv_at hl 2 rfl) ?_
      refine va_get (D := (dC, dI)) (ci := 7) (v := .ref (bd 1)) (C := R_MD) (T := T_MD) (N := 28) hx hb hts i_MD hown hK hP 0 rfl rfl 2 (by decide) (hts _ wd_394) (fun _ h9 => h9) rfl d_MD_number_15 ?_
      refine lv_lload_n hx hb d_MD_number_18 rfl (lv_at hl 3 rfl) ?_
      refine lv_l2i hx hb d_MD_number_19 rfl ?_
      refine xtopi (y := nI q) (lN_i (q)) ?_
      refine lv_iload hx hb d_MD_number_20 (lv_at hl 0 rfl) ?_
      refine lv_iadd hx hb d_MD_number_22 ?_
      refine xtopi (y := nI (q + 1)) (nI_add (q) (1)) ?_
      refine xbald (k := q + 1) hx hb hK hP 1 0 rfl rfl (rfl) (by omega) (by decide) d_MD_number_23 ?_
      refine lv_i2l hx hb d_MD_number_24 rfl ?_
      refine lv_ldc2 (v := 255) hx hb hown (hts _ wd_506) d_MD_number_25 ?_
      refine lv_land hx hb d_MD_number_28 ?_
      refine lv_bipush (v := 8) hx hb d_MD_number_29 (by decide) ?_
      refine lv_iload hx hb d_MD_number_31 (lv_at hl 0 rfl) ?_
      refine lv_imul hx hb d_MD_number_33 ?_
      refine lv_lshl hx hb d_MD_number_34 rfl ?_
      refine lv_lor hx hb d_MD_number_35 ?_
      refine xtopl (y := lN (nbP fr q 2)) (nbP_step1 fr q) ?_
      refine lv_lstore (lv' := [(4, .long (lN (nbP fr q 2))), (6, .int 1), (0, .ref (bd 0)), (1, .long (lN q)), (3, .int 4)]) hx hb d_MD_number_36 hl (by decide) rfl (fun ls hl => ?_)
      refine lv_iinc (v := 2) (lv' := [(6, .int 2), (4, .long (lN (nbP fr q 2))), (0, .ref (bd 0)), (1, .long (lN q)), (3, .int 4)]) hx hb d_MD_number_38 hl (k := 1) rfl rfl (by decide) rfl (fun ls hl => ?_)
      refine lv_goto (tgt := 6) hx hb d_MD_number_41 (by decide) ?_
      refine lv_iload hx hb d_MD_number_6 (lv_at hl 0 rfl) ?_
      refine lv_iload_n hx hb d_MD_number_8 rfl (lv_at hl 4 rfl) ?_
      refine lv_icmp_ge (tgt := 44) hx hb d_MD_number_9 (by decide) (fun c_3 => ?_) (fun c_3 => ?_)
      · exact absurd c_3 (by decide)
      · skip
        refine lv_lload hx hb d_MD_number_12 (lv_at hl 1 rfl) ?_
        refine lv_aload_n hx hb d_MD_number_14 rfl (lv_at hl 2 rfl) ?_
        refine va_get (D := (dC, dI)) (ci := 7) (v := .ref (bd 1)) (C := R_MD) (T := T_MD) (N := 28) hx hb hts i_MD hown hK hP 0 rfl rfl 2 (by decide) (hts _ wd_394) (fun _ h9 => h9) rfl d_MD_number_15 ?_
        refine lv_lload_n hx hb d_MD_number_18 rfl (lv_at hl 3 rfl) ?_
        refine lv_l2i hx hb d_MD_number_19 rfl ?_
        refine xtopi (y := nI q) (lN_i (q)) ?_
        refine lv_iload hx hb d_MD_number_20 (lv_at hl 0 rfl) ?_
        refine lv_iadd hx hb d_MD_number_22 ?_
        refine xtopi (y := nI (q + 2)) (nI_add (q) (2)) ?_
        refine xbald (k := q + 2) hx hb hK hP 1 0 rfl rfl (rfl) (by omega) (by decide) d_MD_number_23 ?_
        refine lv_i2l hx hb d_MD_number_24 rfl ?_
        refine lv_ldc2 (v := 255) hx hb hown (hts _ wd_506) d_MD_number_25 ?_
        refine lv_land hx hb d_MD_number_28 ?_
        refine lv_bipush (v := 8) hx hb d_MD_number_29 (by decide) ?_
        refine lv_iload hx hb d_MD_number_31 (lv_at hl 0 rfl) ?_
        refine lv_imul hx hb d_MD_number_33 ?_
        refine lv_lshl hx hb d_MD_number_34 rfl ?_
        refine lv_lor hx hb d_MD_number_35 ?_
        refine xtopl (y := lN (nbP fr q 3)) (nbP_step2 fr q) ?_
        refine lv_lstore (lv' := [(4, .long (lN (nbP fr q 3))), (6, .int 2), (0, .ref (bd 0)), (1, .long (lN q)), (3, .int 4)]) hx hb d_MD_number_36 hl (by decide) rfl (fun ls hl => ?_)
        refine lv_iinc (v := 3) (lv' := [(6, .int 3), (4, .long (lN (nbP fr q 3))), (0, .ref (bd 0)), (1, .long (lN q)), (3, .int 4)]) hx hb d_MD_number_38 hl (k := 1) rfl rfl (by decide) rfl (fun ls hl => ?_)
        refine lv_goto (tgt := 6) hx hb d_MD_number_41 (by decide) ?_
        refine lv_iload hx hb d_MD_number_6 (lv_at hl 0 rfl) ?_
        refine lv_iload_n hx hb d_MD_number_8 rfl (lv_at hl 4 rfl) ?_
        refine lv_icmp_ge (tgt := 44) hx hb d_MD_number_9 (by decide) (fun c_4 => ?_) (fun c_4 => ?_)
        · exact absurd c_4 (by decide)
        · skip
          refine lv_lload hx hb d_MD_number_12 (lv_at hl 1 rfl) ?_
          refine lv_aload_n hx hb d_MD_number_14 rfl (lv_at hl 2 rfl) ?_
          refine va_get (D := (dC, dI)) (ci := 7) (v := .ref (bd 1)) (C := R_MD) (T := T_MD) (N := 28) hx hb hts i_MD hown hK hP 0 rfl rfl 2 (by decide) (hts _ wd_394) (fun _ h9 => h9) rfl d_MD_number_15 ?_
          refine lv_lload_n hx hb d_MD_number_18 rfl (lv_at hl 3 rfl) ?_
          refine lv_l2i hx hb d_MD_number_19 rfl ?_
          refine xtopi (y := nI q) (lN_i (q)) ?_
          refine lv_iload hx hb d_MD_number_20 (lv_at hl 0 rfl) ?_
          refine lv_iadd hx hb d_MD_number_22 ?_
          refine xtopi (y := nI (q + 3)) (nI_add (q) (3)) ?_
          refine xbald (k := q + 3) hx hb hK hP 1 0 rfl rfl (rfl) (by omega) (by decide) d_MD_number_23 ?_
          refine lv_i2l hx hb d_MD_number_24 rfl ?_
          refine lv_ldc2 (v := 255) hx hb hown (hts _ wd_506) d_MD_number_25 ?_
          refine lv_land hx hb d_MD_number_28 ?_
          refine lv_bipush (v := 8) hx hb d_MD_number_29 (by decide) ?_
          refine lv_iload hx hb d_MD_number_31 (lv_at hl 0 rfl) ?_
          refine lv_imul hx hb d_MD_number_33 ?_
          refine lv_lshl hx hb d_MD_number_34 rfl ?_
          refine lv_lor hx hb d_MD_number_35 ?_
          refine xtopl (y := lN (nbP fr q 4)) (nbP_step3 fr q) ?_
          refine lv_lstore (lv' := [(4, .long (lN (nbP fr q 4))), (6, .int 3), (0, .ref (bd 0)), (1, .long (lN q)), (3, .int 4)]) hx hb d_MD_number_36 hl (by decide) rfl (fun ls hl => ?_)
          refine lv_iinc (v := 4) (lv' := [(6, .int 4), (4, .long (lN (nbP fr q 4))), (0, .ref (bd 0)), (1, .long (lN q)), (3, .int 4)]) hx hb d_MD_number_38 hl (k := 1) rfl rfl (by decide) rfl (fun ls hl => ?_)
          refine lv_goto (tgt := 6) hx hb d_MD_number_41 (by decide) ?_
          refine lv_iload hx hb d_MD_number_6 (lv_at hl 0 rfl) ?_
          refine lv_iload_n hx hb d_MD_number_8 rfl (lv_at hl 4 rfl) ?_
          refine lv_icmp_ge (tgt := 44) hx hb d_MD_number_9 (by decide) (fun c_5 => ?_) (fun c_5 => ?_)
          · skip
            refine lv_lload hx hb d_MD_number_44 (lv_at hl 1 rfl) ?_
            exact xretl hx hb hr hlocks hK hP hD hS (by rw [nbP_nbN4]) d_MD_number_46
          · exact absurd c_5 (by decide)
set_option maxHeartbeats 4000000 in
set_option maxRecDepth 100000 in
theorem m_isMarked (l : Launch) (dC : Nat → ClassId) (dI : Nat → Nat → Nat) (bd : Nat → Nat) (cm : Nat → ClassId) (th : Int32) (n : Nat) (fr : Nat → Int32) (a : Nat) (z : Nat → Nat) (le : Nat → Int32) (wy : Int32) (fo : Nat) (en : Nat) (fF : Nat → Nat) (fA : Nat → Nat) (fB : Nat → Nat) (fS : Nat → Nat) (fW : Nat → Int32) (sk : Nat → Int32) (pg : Nat) (ye : Int32) (ys : Int32) (yt : Nat) (yg : Nat) (yp : Nat) (tk : Nat → Int32) (gF : Nat → Nat) (gA : Nat → Nat) (gB : Nat → Nat) (gS : Nat → Nat) (gW : Nat → Int32) (yk : Nat → Int32) (hn : n ≤ 65536) (sz : Nat) : Met l y_MD_isMarked w_MD_isMarked { frames := 1, cells := 0, slots := 0, locals := 26 } (va_Pc [.ref (bd 0)] (xP (dC, dI) (tyM cm) (wsM bd cm th n fr a z le wy fo en fF fA fB fS fW sk pg ye ys yt yg yp tk gF gA gB gS gW yk) sz)) (xQi (dC, dI) (tyM cm) (va_A (wsM bd cm th n fr a z le wy fo en fF fA fB fS fW sk pg ye ys yt yg yp tk gF gA gB gS gW yk) sz) (wsM bd cm th n fr a z le wy fo en fF fA fB fS fW sk pg ye ys yt yg yp tk gF gA gB gS gW yk) (fun r => r = bI (52 ≤ n ∧ nbN fr 0 4 = 1179403647 ∧ nbN fr 4 2 = 257 ∧ nbN fr 6 1 = 1))) 0 0 (va_A (wsM bd cm th n fr a z le wy fo en fF fA fB fS fW sk pg ye ys yt yg yp tk gF gA gB gS gW yk) sz) := by
  refine xof (cc := b_MD_isMarked) (maxL := 1) (ret := (some .boolean)) (own := R_MD) (Qc := fun A => (xQi (dC, dI) (tyM cm) A (wsM bd cm th n fr a z le wy fo en fF fA fB fS fW sk pg ye ys yt yg yp tk gF gA gB gS gW yk) (fun r => r = bI (52 ≤ n ∧ nbN fr 0 4 = 1179403647 ∧ nbN fr 4 2 = 257 ∧ nbN fr 6 1 = 1)))) (by decide) rfl rfl (Nat.le_of_ble_eq_true rfl) ?_ sz
  intro p e s m below meth c A C hnm hK hP hD hA hN hZ hS ls hl
  obtain ⟨hx, hb, hr, hml, hown, hts, hlocks⟩ := C
  have hl : lv_has ls 1 [(0, .ref (bd 0))] := hl
  have b1 := nbN_lt4 fr 0
  have b2 := nbN_lt2 fr 4
  have b3 := nbN_lt1 fr 6
  refine lv_aload_n hx hb d_MD_isMarked_0 rfl (lv_at hl 0 rfl) ?_
  refine va_get (D := (dC, dI)) (ci := 7) (v := .int (nI n)) (C := R_MD) (T := T_MD) (N := 28) hx hb hts i_MD hown hK hP 0 rfl rfl 1 (by decide) (hts _ wd_393) (fun _ h9 => h9) rfl d_MD_isMarked_1 ?_
  refine lv_bipush (v := 52) hx hb d_MD_isMarked_4 (by decide) ?_
  refine lv_icmp_lt (tgt := 54) hx hb d_MD_isMarked_6 (by decide) (fun c_1 => ?_) (fun c_1 => ?_)
  · skip
    have c_1 : n < 52 := (nI_ltI (a := n) (b := 52) (by omega) (by omega)).mp c_1
    refine lv_iconst (v := 0) hx hb d_MD_isMarked_54 (by decide) ?_
    exact xreti (v := 0) hx hb hr hlocks hK hP hD hS (rfl) (bI_0 (fun h9 => absurd h9.1 (by omega))) d_MD_isMarked_55
  · skip
    have c_1 : ¬ (n < 52) := fun h9 => c_1 ((nI_ltI (a := n) (b := 52) (by omega) (by omega)).mpr h9)
    refine lv_aload_n hx hb d_MD_isMarked_9 rfl (lv_at hl 0 rfl) ?_
    refine lv_lconst (v := 0) hx hb d_MD_isMarked_10 (by decide) ?_
    refine lv_iconst (v := 4) hx hb d_MD_isMarked_11 (by decide) ?_
    refine xcalll (va_runV (As := [.long 0, .int 4]) (rest := []) ⟨hx, hb, hml, hown, hts⟩ (m_number4 l dC dI bd cm th n fr a z le wy fo en fF fA fB fS fW sk pg ye ys yt yg yp tk gF gA gB gS gW yk 0 (by omega) s.heap.size) (cwV 2 hts (xgV wd_523 wd_525 wd_7 wd_22 wd_526) rfl rfl rfl (by decide +kernel) ⟨Nat.le_of_ble_eq_true rfl, Nat.le_of_ble_eq_true rfl⟩) (xpreV (q0 := 0) hK hN hZ hA hS hP hD rfl rfl) rfl rfl hl.1 rfl (lv_room (Nat.le_of_ble_eq_true rfl)) d_MD_isMarked_12 ⟨Nat.zero_le _, Nat.zero_le _⟩) hD hS hA (fun r_2 H locs hr_2 hP hD hS => ?_)
    subst hr_2
    refine lv_ldc2 (v := 1179403647) hx hb hown (hts _ wd_527) d_MD_isMarked_15 ?_
    refine W.lcmp hx hb d_MD_isMarked_18 ?_
    refine lv_if_ne (tgt := 54) hx hb d_MD_isMarked_19 (by decide) (fun c_3 => ?_) (fun c_3 => ?_)
    · skip
      rw [lg_cmp_eq] at c_3
      have c_3 : ¬ (nbN fr 0 4 = 1179403647) := fun h9 => c_3 ((pk_lEQ (a := nbN fr 0 4) (b := 1179403647) (by omega) (by omega)).mpr h9)
      refine lv_iconst (v := 0) hx hb d_MD_isMarked_54 (by decide) ?_
      exact xreti (v := 0) hx hb hr hlocks hK hP hD hS (rfl) (bI_0 (fun h9 => absurd h9.2.1 (by omega))) d_MD_isMarked_55
    · skip
      rw [lg_cmp_eq] at c_3
      have c_3 : nbN fr 0 4 = 1179403647 := (pk_lEQ (a := nbN fr 0 4) (b := 1179403647) (by omega) (by omega)).mp c_3
      refine lv_aload_n hx hb d_MD_isMarked_22 rfl (lv_at hl 0 rfl) ?_
      refine lv_ldc2 (v := 4) hx hb hown (hts _ wd_528) d_MD_isMarked_23 ?_
      refine lv_iconst (v := 2) hx hb d_MD_isMarked_26 (by decide) ?_
      refine xcalll (va_runV (As := [.long 4, .int 2]) (rest := []) ⟨hx, hb, hml, hown, hts⟩ (m_number2 l dC dI bd cm th n fr a z le wy fo en fF fA fB fS fW sk pg ye ys yt yg yp tk gF gA gB gS gW yk 4 (by omega) H.size) (cwV 2 hts (xgV wd_523 wd_525 wd_7 wd_22 wd_526) rfl rfl rfl (by decide +kernel) ⟨Nat.le_of_ble_eq_true rfl, Nat.le_of_ble_eq_true rfl⟩) (xpreV (q0 := 0) hK hN hZ hA hS hP hD rfl rfl) rfl rfl hl.1 rfl (lv_room (Nat.le_of_ble_eq_true rfl)) d_MD_isMarked_27 ⟨Nat.zero_le _, Nat.zero_le _⟩) hD hS hA (fun r_4 H locs hr_4 hP hD hS => ?_)
      subst hr_4
      refine lv_ldc2 (v := 257) hx hb hown (hts _ wd_529) d_MD_isMarked_30 ?_
      refine W.lcmp hx hb d_MD_isMarked_33 ?_
      refine lv_if_ne (tgt := 54) hx hb d_MD_isMarked_34 (by decide) (fun c_5 => ?_) (fun c_5 => ?_)
      · skip
        rw [lg_cmp_eq] at c_5
        have c_5 : ¬ (nbN fr 4 2 = 257) := fun h9 => c_5 ((pk_lEQ (a := nbN fr 4 2) (b := 257) (by omega) (by omega)).mpr h9)
        refine lv_iconst (v := 0) hx hb d_MD_isMarked_54 (by decide) ?_
        exact xreti (v := 0) hx hb hr hlocks hK hP hD hS (rfl) (bI_0 (fun h9 => absurd h9.2.2.1 (by omega))) d_MD_isMarked_55
      · skip
        rw [lg_cmp_eq] at c_5
        have c_5 : nbN fr 4 2 = 257 := (pk_lEQ (a := nbN fr 4 2) (b := 257) (by omega) (by omega)).mp c_5
        refine lv_aload_n hx hb d_MD_isMarked_37 rfl (lv_at hl 0 rfl) ?_
        refine lv_ldc2 (v := 6) hx hb hown (hts _ wd_530) d_MD_isMarked_38 ?_
        refine lv_iconst (v := 1) hx hb d_MD_isMarked_41 (by decide) ?_
        refine xcalll (va_runV (As := [.long 6, .int 1]) (rest := []) ⟨hx, hb, hml, hown, hts⟩ (m_number1 l dC dI bd cm th n fr a z le wy fo en fF fA fB fS fW sk pg ye ys yt yg yp tk gF gA gB gS gW yk 6 (by omega) H.size) (cwV 2 hts (xgV wd_523 wd_525 wd_7 wd_22 wd_526) rfl rfl rfl (by decide +kernel) ⟨Nat.le_of_ble_eq_true rfl, Nat.le_of_ble_eq_true rfl⟩) (xpreV (q0 := 0) hK hN hZ hA hS hP hD rfl rfl) rfl rfl hl.1 rfl (lv_room (Nat.le_of_ble_eq_true rfl)) d_MD_isMarked_42 ⟨Nat.zero_le _, Nat.zero_le _⟩) hD hS hA (fun r_6 H locs hr_6 hP hD hS => ?_)
        subst hr_6
        refine lv_lconst (v := 1) hx hb d_MD_isMarked_45 (by decide) ?_
        refine W.lcmp hx hb d_MD_isMarked_46 ?_
        refine lv_if_ne (tgt := 54) hx hb d_MD_isMarked_47 (by decide) (fun c_7 => ?_) (fun c_7 => ?_)
        · skip
          rw [lg_cmp_eq] at c_7
          have c_7 : ¬ (nbN fr 6 1 = 1) := fun h9 => c_7 ((pk_lEQ (a := nbN fr 6 1) (b := 1) (by omega) (by omega)).mpr h9)
          refine lv_iconst (v := 0) hx hb d_MD_isMarked_54 (by decide) ?_
          exact xreti (v := 0) hx hb hr hlocks hK hP hD hS (rfl) (bI_0 (fun h9 => absurd h9.2.2.2 (by omega))) d_MD_isMarked_55
        · skip
          rw [lg_cmp_eq] at c_7
          have c_7 : nbN fr 6 1 = 1 := (pk_lEQ (a := nbN fr 6 1) (b := 1) (by omega) (by omega)).mp c_7
          refine lv_iconst (v := 1) hx hb d_MD_isMarked_50 (by decide) ?_
          refine lv_goto (tgt := 55) hx hb d_MD_isMarked_51 (by decide) ?_
          exact xreti (v := 1) hx hb hr hlocks hK hP hD hS (rfl) (bI_1 ⟨by omega, by omega, by omega, by omega⟩) d_MD_isMarked_55
set_option maxHeartbeats 4000000 in
set_option maxRecDepth 100000 in
theorem m_isKind (l : Launch) (dC : Nat → ClassId) (dI : Nat → Nat → Nat) (bd : Nat → Nat) (cm : Nat → ClassId) (th : Int32) (n : Nat) (fr : Nat → Int32) (a : Nat) (z : Nat → Nat) (le : Nat → Int32) (wy : Int32) (fo : Nat) (en : Nat) (fF : Nat → Nat) (fA : Nat → Nat) (fB : Nat → Nat) (fS : Nat → Nat) (fW : Nat → Int32) (sk : Nat → Int32) (pg : Nat) (ye : Int32) (ys : Int32) (yt : Nat) (yg : Nat) (yp : Nat) (tk : Nat → Int32) (gF : Nat → Nat) (gA : Nat → Nat) (gB : Nat → Nat) (gS : Nat → Nat) (gW : Nat → Int32) (yk : Nat → Int32) (sz : Nat) : Met l y_MD_isKind w_MD_isKind { frames := 1, cells := 0, slots := 0, locals := 26 } (va_Pc [.ref (bd 0)] (xP (dC, dI) (tyM cm) (wsM bd cm th n fr a z le wy fo en fF fA fB fS fW sk pg ye ys yt yg yp tk gF gA gB gS gW yk) sz)) (xQi (dC, dI) (tyM cm) (va_A (wsM bd cm th n fr a z le wy fo en fF fA fB fS fW sk pg ye ys yt yg yp tk gF gA gB gS gW yk) sz) (wsM bd cm th n fr a z le wy fo en fF fA fB fS fW sk pg ye ys yt yg yp tk gF gA gB gS gW yk) (fun r => r = bI (nbN fr 16 2 = 2 ∧ nbN fr 18 2 = 243 ∧ nbN fr 20 4 = 1 ∧ nbN fr 42 2 = 32 ∧ nbN fr 44 2 < 9))) 0 0 (va_A (wsM bd cm th n fr a z le wy fo en fF fA fB fS fW sk pg ye ys yt yg yp tk gF gA gB gS gW yk) sz) := by
  refine xof (cc := b_MD_isKind) (maxL := 1) (ret := (some .boolean)) (own := R_MD) (Qc := fun A => (xQi (dC, dI) (tyM cm) A (wsM bd cm th n fr a z le wy fo en fF fA fB fS fW sk pg ye ys yt yg yp tk gF gA gB gS gW yk) (fun r => r = bI (nbN fr 16 2 = 2 ∧ nbN fr 18 2 = 243 ∧ nbN fr 20 4 = 1 ∧ nbN fr 42 2 = 32 ∧ nbN fr 44 2 < 9)))) (by decide) rfl rfl (Nat.le_of_ble_eq_true rfl) ?_ sz
  intro p e s m below meth c A C hnm hK hP hD hA hN hZ hS ls hl
  obtain ⟨hx, hb, hr, hml, hown, hts, hlocks⟩ := C
  have hl : lv_has ls 1 [(0, .ref (bd 0))] := hl
  have b1 := nbN_lt2 fr 16
  have b2 := nbN_lt2 fr 18
  have b3 := nbN_lt4 fr 20
  have b4 := nbN_lt2 fr 42
  have b5 := nbN_lt2 fr 44
  refine lv_aload_n hx hb d_MD_isKind_0 rfl (lv_at hl 0 rfl) ?_
  refine lv_ldc2 (v := 16) hx hb hown (hts _ wd_535) d_MD_isKind_1 ?_
  refine lv_iconst (v := 2) hx hb d_MD_isKind_4 (by decide) ?_
  refine xcalll (va_runV (As := [.long 16, .int 2]) (rest := []) ⟨hx, hb, hml, hown, hts⟩ (m_number2 l dC dI bd cm th n fr a z le wy fo en fF fA fB fS fW sk pg ye ys yt yg yp tk gF gA gB gS gW yk 16 (by omega) s.heap.size) (cwV 2 hts (xgV wd_523 wd_525 wd_7 wd_22 wd_526) rfl rfl rfl (by decide +kernel) ⟨Nat.le_of_ble_eq_true rfl, Nat.le_of_ble_eq_true rfl⟩) (xpreV (q0 := 0) hK hN hZ hA hS hP hD rfl rfl) rfl rfl hl.1 rfl (lv_room (Nat.le_of_ble_eq_true rfl)) d_MD_isKind_5 ⟨Nat.zero_le _, Nat.zero_le _⟩) hD hS hA (fun r_1 H locs hr_1 hP hD hS => ?_)
  subst hr_1
  refine lv_ldc2 (v := 2) hx hb hown (hts _ wd_536) d_MD_isKind_8 ?_
  refine W.lcmp hx hb d_MD_isKind_11 ?_
  refine lv_if_ne (tgt := 77) hx hb d_MD_isKind_12 (by decide) (fun c_2 => ?_) (fun c_2 => ?_)
  · skip
    rw [lg_cmp_eq] at c_2
    have c_2 : ¬ (nbN fr 16 2 = 2) := fun h9 => c_2 ((pk_lEQ (a := nbN fr 16 2) (b := 2) (by omega) (by omega)).mpr h9)
    refine lv_iconst (v := 0) hx hb d_MD_isKind_77 (by decide) ?_
    exact xreti (v := 0) hx hb hr hlocks hK hP hD hS (rfl) (bI_0 (fun h9 => absurd h9.1 (by omega))) d_MD_isKind_78
  · skip
    rw [lg_cmp_eq] at c_2
    have c_2 : nbN fr 16 2 = 2 := (pk_lEQ (a := nbN fr 16 2) (b := 2) (by omega) (by omega)).mp c_2
    refine lv_aload_n hx hb d_MD_isKind_15 rfl (lv_at hl 0 rfl) ?_
    refine lv_ldc2 (v := 18) hx hb hown (hts _ wd_537) d_MD_isKind_16 ?_
    refine lv_iconst (v := 2) hx hb d_MD_isKind_19 (by decide) ?_
    refine xcalll (va_runV (As := [.long 18, .int 2]) (rest := []) ⟨hx, hb, hml, hown, hts⟩ (m_number2 l dC dI bd cm th n fr a z le wy fo en fF fA fB fS fW sk pg ye ys yt yg yp tk gF gA gB gS gW yk 18 (by omega) H.size) (cwV 2 hts (xgV wd_523 wd_525 wd_7 wd_22 wd_526) rfl rfl rfl (by decide +kernel) ⟨Nat.le_of_ble_eq_true rfl, Nat.le_of_ble_eq_true rfl⟩) (xpreV (q0 := 0) hK hN hZ hA hS hP hD rfl rfl) rfl rfl hl.1 rfl (lv_room (Nat.le_of_ble_eq_true rfl)) d_MD_isKind_20 ⟨Nat.zero_le _, Nat.zero_le _⟩) hD hS hA (fun r_3 H locs hr_3 hP hD hS => ?_)
    subst hr_3
    refine lv_ldc2 (v := 243) hx hb hown (hts _ wd_538) d_MD_isKind_23 ?_
    refine W.lcmp hx hb d_MD_isKind_26 ?_
    refine lv_if_ne (tgt := 77) hx hb d_MD_isKind_27 (by decide) (fun c_4 => ?_) (fun c_4 => ?_)
    · skip
      rw [lg_cmp_eq] at c_4
      have c_4 : ¬ (nbN fr 18 2 = 243) := fun h9 => c_4 ((pk_lEQ (a := nbN fr 18 2) (b := 243) (by omega) (by omega)).mpr h9)
      refine lv_iconst (v := 0) hx hb d_MD_isKind_77 (by decide) ?_
      exact xreti (v := 0) hx hb hr hlocks hK hP hD hS (rfl) (bI_0 (fun h9 => absurd h9.2.1 (by omega))) d_MD_isKind_78
    · skip
      rw [lg_cmp_eq] at c_4
      have c_4 : nbN fr 18 2 = 243 := (pk_lEQ (a := nbN fr 18 2) (b := 243) (by omega) (by omega)).mp c_4
      refine lv_aload_n hx hb d_MD_isKind_30 rfl (lv_at hl 0 rfl) ?_
      refine lv_ldc2 (v := 20) hx hb hown (hts _ wd_539) d_MD_isKind_31 ?_
      refine lv_iconst (v := 4) hx hb d_MD_isKind_34 (by decide) ?_
      refine xcalll (va_runV (As := [.long 20, .int 4]) (rest := []) ⟨hx, hb, hml, hown, hts⟩ (m_number4 l dC dI bd cm th n fr a z le wy fo en fF fA fB fS fW sk pg ye ys yt yg yp tk gF gA gB gS gW yk 20 (by omega) H.size) (cwV 2 hts (xgV wd_523 wd_525 wd_7 wd_22 wd_526) rfl rfl rfl (by decide +kernel) ⟨Nat.le_of_ble_eq_true rfl, Nat.le_of_ble_eq_true rfl⟩) (xpreV (q0 := 0) hK hN hZ hA hS hP hD rfl rfl) rfl rfl hl.1 rfl (lv_room (Nat.le_of_ble_eq_true rfl)) d_MD_isKind_35 ⟨Nat.zero_le _, Nat.zero_le _⟩) hD hS hA (fun r_5 H locs hr_5 hP hD hS => ?_)
      subst hr_5
      refine lv_lconst (v := 1) hx hb d_MD_isKind_38 (by decide) ?_
      refine W.lcmp hx hb d_MD_isKind_39 ?_
      refine lv_if_ne (tgt := 77) hx hb d_MD_isKind_40 (by decide) (fun c_6 => ?_) (fun c_6 => ?_)
      · skip
        rw [lg_cmp_eq] at c_6
        have c_6 : ¬ (nbN fr 20 4 = 1) := fun h9 => c_6 ((pk_lEQ (a := nbN fr 20 4) (b := 1) (by omega) (by omega)).mpr h9)
        refine lv_iconst (v := 0) hx hb d_MD_isKind_77 (by decide) ?_
        exact xreti (v := 0) hx hb hr hlocks hK hP hD hS (rfl) (bI_0 (fun h9 => absurd h9.2.2.1 (by omega))) d_MD_isKind_78
      · skip
        rw [lg_cmp_eq] at c_6
        have c_6 : nbN fr 20 4 = 1 := (pk_lEQ (a := nbN fr 20 4) (b := 1) (by omega) (by omega)).mp c_6
        refine lv_aload_n hx hb d_MD_isKind_43 rfl (lv_at hl 0 rfl) ?_
        refine lv_ldc2 (v := 42) hx hb hown (hts _ wd_540) d_MD_isKind_44 ?_
        refine lv_iconst (v := 2) hx hb d_MD_isKind_47 (by decide) ?_
        refine xcalll (va_runV (As := [.long 42, .int 2]) (rest := []) ⟨hx, hb, hml, hown, hts⟩ (m_number2 l dC dI bd cm th n fr a z le wy fo en fF fA fB fS fW sk pg ye ys yt yg yp tk gF gA gB gS gW yk 42 (by omega) H.size) (cwV 2 hts (xgV wd_523 wd_525 wd_7 wd_22 wd_526) rfl rfl rfl (by decide +kernel) ⟨Nat.le_of_ble_eq_true rfl, Nat.le_of_ble_eq_true rfl⟩) (xpreV (q0 := 0) hK hN hZ hA hS hP hD rfl rfl) rfl rfl hl.1 rfl (lv_room (Nat.le_of_ble_eq_true rfl)) d_MD_isKind_48 ⟨Nat.zero_le _, Nat.zero_le _⟩) hD hS hA (fun r_7 H locs hr_7 hP hD hS => ?_)
        subst hr_7
        refine lv_ldc2 (v := 32) hx hb hown (hts _ wd_541) d_MD_isKind_51 ?_
        refine W.lcmp hx hb d_MD_isKind_54 ?_
        refine lv_if_ne (tgt := 77) hx hb d_MD_isKind_55 (by decide) (fun c_8 => ?_) (fun c_8 => ?_)
        · skip
          rw [lg_cmp_eq] at c_8
          have c_8 : ¬ (nbN fr 42 2 = 32) := fun h9 => c_8 ((pk_lEQ (a := nbN fr 42 2) (b := 32) (by omega) (by omega)).mpr h9)
          refine lv_iconst (v := 0) hx hb d_MD_isKind_77 (by decide) ?_
          exact xreti (v := 0) hx hb hr hlocks hK hP hD hS (rfl) (bI_0 (fun h9 => absurd h9.2.2.2.1 (by omega))) d_MD_isKind_78
        · skip
          rw [lg_cmp_eq] at c_8
          have c_8 : nbN fr 42 2 = 32 := (pk_lEQ (a := nbN fr 42 2) (b := 32) (by omega) (by omega)).mp c_8
          refine lv_aload_n hx hb d_MD_isKind_58 rfl (lv_at hl 0 rfl) ?_
          refine lv_ldc2 (v := 44) hx hb hown (hts _ wd_542) d_MD_isKind_59 ?_
          refine lv_iconst (v := 2) hx hb d_MD_isKind_62 (by decide) ?_
          refine xcalll (va_runV (As := [.long 44, .int 2]) (rest := []) ⟨hx, hb, hml, hown, hts⟩ (m_number2 l dC dI bd cm th n fr a z le wy fo en fF fA fB fS fW sk pg ye ys yt yg yp tk gF gA gB gS gW yk 44 (by omega) H.size) (cwV 2 hts (xgV wd_523 wd_525 wd_7 wd_22 wd_526) rfl rfl rfl (by decide +kernel) ⟨Nat.le_of_ble_eq_true rfl, Nat.le_of_ble_eq_true rfl⟩) (xpreV (q0 := 0) hK hN hZ hA hS hP hD rfl rfl) rfl rfl hl.1 rfl (lv_room (Nat.le_of_ble_eq_true rfl)) d_MD_isKind_63 ⟨Nat.zero_le _, Nat.zero_le _⟩) hD hS hA (fun r_9 H locs hr_9 hP hD hS => ?_)
          subst hr_9
          refine lv_ldc2 (v := 9) hx hb hown (hts _ wd_543) d_MD_isKind_66 ?_
          refine W.lcmp hx hb d_MD_isKind_69 ?_
          refine lv_if_ge (tgt := 77) hx hb d_MD_isKind_70 (by decide) (fun c_10 => ?_) (fun c_10 => ?_)
          · skip
            rw [lg_cmp_ge] at c_10
            have c_10 : 9 ≤ nbN fr 44 2 := (pk_lLE (a := 9) (b := nbN fr 44 2) (by omega) (by omega)).mp c_10
            refine lv_iconst (v := 0) hx hb d_MD_isKind_77 (by decide) ?_
            exact xreti (v := 0) hx hb hr hlocks hK hP hD hS (rfl) (bI_0 (fun h9 => absurd h9.2.2.2.2 (by omega))) d_MD_isKind_78
          · skip
            rw [lg_cmp_ge] at c_10
            have c_10 : ¬ (9 ≤ nbN fr 44 2) := fun h9 => c_10 ((pk_lLE (a := 9) (b := nbN fr 44 2) (by omega) (by omega)).mpr h9)
            refine lv_iconst (v := 1) hx hb d_MD_isKind_73 (by decide) ?_
            refine lv_goto (tgt := 78) hx hb d_MD_isKind_74 (by decide) ?_
            exact xreti (v := 1) hx hb hr hlocks hK hP hD hS (rfl) (bI_1 ⟨by omega, by omega, by omega, by omega, by omega⟩) d_MD_isKind_78
set_option maxHeartbeats 4000000 in
set_option maxRecDepth 100000 in
theorem m_up (l : Launch) (dC : Nat → ClassId) (dI : Nat → Nat → Nat) (bd : Nat → Nat) (cm : Nat → ClassId) (th : Int32) (n : Nat) (fr : Nat → Int32) (a : Nat) (z : Nat → Nat) (le : Nat → Int32) (wy : Int32) (fo : Nat) (en : Nat) (fF : Nat → Nat) (fA : Nat → Nat) (fB : Nat → Nat) (fS : Nat → Nat) (fW : Nat → Int32) (sk : Nat → Int32) (pg : Nat) (ye : Int32) (ys : Int32) (yt : Nat) (yg : Nat) (yp : Nat) (tk : Nat → Int32) (gF : Nat → Nat) (gA : Nat → Nat) (gB : Nat → Nat) (gS : Nat → Nat) (gW : Nat → Int32) (yk : Nat → Int32) (q : Nat) (hq : q < 1099511627776) (sz : Nat) : Met l y_MD_up w_MD_up { frames := 0, cells := 0, slots := 0, locals := 0 } (va_Pc [.long (lN q)] (xP (dC, dI) (tyM cm) (wsM bd cm th n fr a z le wy fo en fF fA fB fS fW sk pg ye ys yt yg yp tk gF gA gB gS gW yk) sz)) (xQl (dC, dI) (tyM cm) (va_A (wsM bd cm th n fr a z le wy fo en fF fA fB fS fW sk pg ye ys yt yg yp tk gF gA gB gS gW yk) sz) (wsM bd cm th n fr a z le wy fo en fF fA fB fS fW sk pg ye ys yt yg yp tk gF gA gB gS gW yk) (fun r => r = lN ((q + 4095) / 4096 * 4096))) 0 0 (va_A (wsM bd cm th n fr a z le wy fo en fF fA fB fS fW sk pg ye ys yt yg yp tk gF gA gB gS gW yk) sz) := by
  refine xof (cc := b_MD_up) (maxL := 2) (ret := (some .long)) (own := R_MD) (Qc := fun A => (xQl (dC, dI) (tyM cm) A (wsM bd cm th n fr a z le wy fo en fF fA fB fS fW sk pg ye ys yt yg yp tk gF gA gB gS gW yk) (fun r => r = lN ((q + 4095) / 4096 * 4096)))) (by decide) rfl rfl (Nat.le_of_ble_eq_true rfl) ?_ sz
  intro p e s m below meth c A C hnm hK hP hD hA hN hZ hS ls hl
  obtain ⟨hx, hb, hr, hml, hown, hts, hlocks⟩ := C
  have hl : lv_has ls 2 [(0, .long (lN q))] := hl
  refine lv_lload_n hx hb d_MD_up_0 rfl (lv_at hl 0 rfl) ?_
  refine lv_ldc2 (v := 4095) hx hb hown (hts _ wd_556) d_MD_up_1 ?_
  refine lv_ladd hx hb d_MD_up_4 ?_
  refine xtopl (y := lN (q + 4095)) (lN_add (q) (4095)) ?_
  refine lv_ldc2 (v := 4096) hx hb hown (hts _ wd_550) d_MD_up_5 ?_
  refine lv_ldiv hx hb d_MD_up_8 (by decide) ?_
  refine xtopl (y := lN ((q + 4095) / 4096)) (pk_lDiv (a := q + 4095) (b := 4096) (by omega) (by omega) (by omega)) ?_
  refine lv_ldc2 (v := 4096) hx hb hown (hts _ wd_550) d_MD_up_9 ?_
  refine lv_lmul hx hb d_MD_up_12 ?_
  refine xtopl (y := lN (((q + 4095) / 4096) * 4096)) (lN_mul ((q + 4095) / 4096) (4096)) ?_
  exact xretl hx hb hr hlocks hK hP hD hS (rfl) d_MD_up_13
