set_option maxHeartbeats 4000000 in
set_option maxRecDepth 100000 in
theorem m_put (l : Launch) (dC : Nat → ClassId) (dI : Nat → Nat → Nat) (bd : Nat → Nat) (cm : Nat → ClassId) (th : Int32) (n : Nat) (fr : Nat → Int32) (a : Nat) (z : Nat → Nat) (le : Nat → Int32) (wy : Int32) (fo : Nat) (en : Nat) (fF : Nat → Nat) (fA : Nat → Nat) (fB : Nat → Nat) (fS : Nat → Nat) (fW : Nat → Int32) (sk : Nat → Int32) (pg : Nat) (ye : Int32) (ys : Int32) (yt : Nat) (yg : Nat) (yp : Nat) (tk : Nat → Int32) (gF : Nat → Nat) (gA : Nat → Nat) (gB : Nat → Nat) (gS : Nat → Nat) (gW : Nat → Int32) (yk : Nat → Int32) (k kn w : Int32) (hn : n ≤ 65536) (sz : Nat) : Met l y_MD_put w_MD_put { frames := 0, cells := 0, slots := 0, locals := 0 } (va_Pc [.ref (bd 0), .int k, .int kn, .int w] (xP (dC, dI) (tyM cm) (wsM bd cm th n fr a z le wy fo en fF fA fB fS fW sk pg ye ys yt yg yp tk gF gA gB gS gW yk) sz)) (xQi (dC, dI) (tyM cm) (va_A (wsM bd cm th n fr a z le wy fo en fF fA fB fS fW sk pg ye ys yt yg yp tk gF gA gB gS gW yk) sz) (wsM bd cm 0 n (mpF n fr k kn w) a z le wy fo en fF fA fB fS fW sk pg ye ys yt yg yp tk gF gA gB gS gW yk) (fun r => r = bI (mOK kn ∧ 0 ≤ k.toInt ∧ k.toInt + ((tN kn : Nat) : Int) ≤ (n : Int)))) 0 0 (va_A (wsM bd cm th n fr a z le wy fo en fF fA fB fS fW sk pg ye ys yt yg yp tk gF gA gB gS gW yk) sz) := by
  refine xof (cc := b_MD_put) (maxL := 5) (ret := (some .boolean)) (own := R_MD) (Qc := fun A => (xQi (dC, dI) (tyM cm) A (wsM bd cm 0 n (mpF n fr k kn w) a z le wy fo en fF fA fB fS fW sk pg ye ys yt yg yp tk gF gA gB gS gW yk) (fun r => r = bI (mOK kn ∧ 0 ≤ k.toInt ∧ k.toInt + ((tN kn : Nat) : Int) ≤ (n : Int))))) (by decide) rfl rfl (Nat.le_of_ble_eq_true rfl) ?_ sz
  intro p e s m below meth c A C hnm hK hP hD hA hN hZ hS ls hl
  obtain ⟨hx, hb, hr, hml, hown, hts, hlocks⟩ := C
  have hl : lv_has ls 5 [(0, .ref (bd 0)), (1, .int k), (2, .int kn), (3, .int w)] := hl
  refine lv_aload_n hx hb d_MD_put_0 rfl (lv_at hl 0 rfl) ?_
  refine lv_iconst (v := 0) hx hb d_MD_put_1 (by decide) ?_
  refine va_put (D := (dC, dI)) (ci := 7) (v := .int 0) (ty := .int) (C := R_MD) (T := T_MD) (N := 28) hx hb hts i_MD t_MD k_MD n_MD hown hK hP hD hS 0 rfl rfl 0 (by decide) (hts _ wd_392) (fun _ h9 => h9) rfl (by decide +kernel) rfl rfl (Nat.le_of_ble_eq_true rfl) d_MD_put_2 (fun H locs hP hD hS => ?_)
  have hP : va_P (dC, dI) vwCl (wsM bd cm 0 n fr a z le wy fo en fF fA fB fS fW sk pg ye ys yt yg yp tk gF gA gB gS gW yk) H := hP
  have hD : va_D A (wsM bd cm 0 n fr a z le wy fo en fF fA fB fS fW sk pg ye ys yt yg yp tk gF gA gB gS gW yk) := hD
  refine lv_iload_n hx hb d_MD_put_5 rfl (lv_at hl 2 rfl) ?_
  refine lv_iconst (v := 1) hx hb d_MD_put_6 (by decide) ?_
  refine lv_icmp_eq (tgt := 20) hx hb d_MD_put_7 (by decide) (fun c_1 => ?_) (fun c_1 => ?_)
  · skip
    rw [c_1] at hl
    have hM : mOK kn := Or.inl c_1
    have hT : tN kn = 1 := by rw [c_1]; rfl
    refine lv_iload_n hx hb d_MD_put_20 rfl (lv_at hl 1 rfl) ?_
    refine lv_if_lt (tgt := 34) hx hb d_MD_put_21 (by decide) (fun c_2 => ?_) (fun c_2 => ?_)
    · skip
      refine lv_iconst (v := 0) hx hb d_MD_put_34 (by decide) ?_
      have hw9 : wsM bd cm 0 n fr a z le wy fo en fF fA fB fS fW sk pg ye ys yt yg yp tk gF gA gB gS gW yk = wsM bd cm 0 n (mpF n fr k kn w) a z le wy fo en fF fA fB fS fW sk pg ye ys yt yg yp tk gF gA gB gS gW yk := by rw [mpF, if_neg (fun h9 => absurd c_2 (p_nneg h9.2.1))]
      rw [hw9] at hP hD
      exact xreti (v := 0) hx hb hr hlocks hK hP hD hS (rfl) (bI_0 (fun h9 => absurd c_2 (p_nneg h9.2.1))) d_MD_put_35
    · skip
      obtain ⟨j, hj, ej⟩ := nI_of c_2
      rw [ej] at hl
      refine lv_iload_n hx hb d_MD_put_24 rfl (lv_at hl 1 rfl) ?_
      refine lv_aload_n hx hb d_MD_put_25 rfl (lv_at hl 0 rfl) ?_
      refine va_get (D := (dC, dI)) (ci := 7) (v := .int (nI n)) (C := R_MD) (T := T_MD) (N := 28) hx hb hts i_MD hown hK hP 0 rfl rfl 1 (by decide) (hts _ wd_393) (fun _ h9 => h9) rfl d_MD_put_26 ?_
      refine lv_iload_n hx hb d_MD_put_29 rfl (lv_at hl 2 rfl) ?_
      refine lv_isub hx hb d_MD_put_30 ?_
      refine lv_icmp_le (tgt := 36) hx hb d_MD_put_31 (by decide) (fun c_3 => ?_) (fun c_3 => ?_)
      · skip
        have c_3 : j + 1 ≤ n := (p_put (M := 1) hj hn (by decide)).mp c_3
        refine lv_iconst (v := 0) hx hb d_MD_put_36 (by decide) ?_
        refine lv_istore (lv' := [(4, .int 0), (0, .ref (bd 0)), (1, .int (nI j)), (2, .int 1), (3, .int w)]) hx hb d_MD_put_37 hl (by decide) rfl (fun ls hl => ?_)
        refine lv_iload hx hb d_MD_put_39 (lv_at hl 0 rfl) ?_
        refine lv_iload_n hx hb d_MD_put_41 rfl (lv_at hl 3 rfl) ?_
        refine lv_icmp_ge (tgt := 68) hx hb d_MD_put_42 (by decide) (fun c_4 => ?_) (fun c_4 => ?_)
        · exact absurd c_4 (by decide)
        · skip
          refine lv_aload_n hx hb d_MD_put_45 rfl (lv_at hl 1 rfl) ?_
          refine va_get (D := (dC, dI)) (ci := 7) (v := .ref (bd 1)) (C := R_MD) (T := T_MD) (N := 28) hx hb hts i_MD hown hK hP 0 rfl rfl 2 (by decide) (hts _ wd_394) (fun _ h9 => h9) rfl d_MD_put_46 ?_
          refine lv_iload_n hx hb d_MD_put_49 rfl (lv_at hl 2 rfl) ?_
          refine lv_iload hx hb d_MD_put_50 (lv_at hl 0 rfl) ?_
          refine lv_iadd hx hb d_MD_put_52 ?_
          refine xtopi (y := nI (j + 0)) (nI_add (j) (0)) ?_
          refine lv_iload_n hx hb d_MD_put_53 rfl (lv_at hl 4 rfl) ?_
          refine lv_bipush (v := 8) hx hb d_MD_put_54 (by decide) ?_
          refine lv_iload hx hb d_MD_put_56 (lv_at hl 0 rfl) ?_
          refine lv_imul hx hb d_MD_put_58 ?_
          refine lv_ishr hx hb d_MD_put_59 ?_
          refine lv_i2b hx hb d_MD_put_60 rfl ?_
          refine xbast (k := j + 0) (x' := (w >>> ((8 * 0 : Int32) &&& 31)).toInt8.toInt32) (ws1 := wsM bd cm 0 n (upd fr (j + 0) ((w >>> ((8 * 0 : Int32) &&& 31)).toInt8.toInt32)) a z le wy fo en fF fA fB fS fW sk pg ye ys yt yg yp tk gF gA gB gS gW yk) hx hb hK hP hD hS 1 0 rfl rfl (rfl) (by omega) (by decide) (pk_vb _) rfl d_MD_put_61 (fun H locs hP hD hS => ?_)
          refine lv_iinc (v := 1) (lv' := [(4, .int 1), (0, .ref (bd 0)), (1, .int (nI j)), (2, .int 1), (3, .int w)]) hx hb d_MD_put_62 hl (k := 0) rfl rfl (by decide) rfl (fun ls hl => ?_)
          refine lv_goto (tgt := 39) hx hb d_MD_put_65 (by decide) ?_
          refine lv_iload hx hb d_MD_put_39 (lv_at hl 0 rfl) ?_
          refine lv_iload_n hx hb d_MD_put_41 rfl (lv_at hl 3 rfl) ?_
          refine lv_icmp_ge (tgt := 68) hx hb d_MD_put_42 (by decide) (fun c_5 => ?_) (fun c_5 => ?_)
          · skip
            refine lv_iconst (v := 1) hx hb d_MD_put_68 (by decide) ?_
            have hw9 : wsM bd cm 0 n (upd fr (j + 0) ((w >>> ((8 * 0 : Int32) &&& 31)).toInt8.toInt32)) a z le wy fo en fF fA fB fS fW sk pg ye ys yt yg yp tk gF gA gB gS gW yk = wsM bd cm 0 n (mpF n fr k kn w) a z le wy fo en fF fA fB fS fW sk pg ye ys yt yg yp tk gF gA gB gS gW yk := by rw [mpF, if_pos ⟨hM, by rw [ej, nI_toInt hj]; omega, by rw [ej, nI_toInt hj, hT]; omega⟩, ej, nI_toInt hj, hT]; rfl
            rw [hw9] at hP hD
            exact xreti (v := 1) hx hb hr hlocks hK hP hD hS (rfl) (bI_1 ⟨hM, by rw [ej, nI_toInt hj]; omega, by rw [ej, nI_toInt hj, hT]; omega⟩) d_MD_put_69
          · exact absurd c_5 (by decide)
      · skip
        have c_3 : ¬ (j + 1 ≤ n) := fun h9 => c_3 ((p_put (M := 1) hj hn (by decide)).mpr h9)
        refine lv_iconst (v := 0) hx hb d_MD_put_34 (by decide) ?_
        have hw9 : wsM bd cm 0 n fr a z le wy fo en fF fA fB fS fW sk pg ye ys yt yg yp tk gF gA gB gS gW yk = wsM bd cm 0 n (mpF n fr k kn w) a z le wy fo en fF fA fB fS fW sk pg ye ys yt yg yp tk gF gA gB gS gW yk := by rw [mpF, if_neg (fun h9 => absurd h9.2.2 (by rw [ej, nI_toInt hj, hT]; omega))]
        rw [hw9] at hP hD
        exact xreti (v := 0) hx hb hr hlocks hK hP hD hS (rfl) (bI_0 (fun h9 => absurd h9.2.2 (by rw [ej, nI_toInt hj, hT]; omega))) d_MD_put_35
  · skip
    refine lv_iload_n hx hb d_MD_put_10 rfl (lv_at hl 2 rfl) ?_
    refine lv_iconst (v := 2) hx hb d_MD_put_11 (by decide) ?_
    refine lv_icmp_eq (tgt := 20) hx hb d_MD_put_12 (by decide) (fun c_6 => ?_) (fun c_6 => ?_)
    · skip
      rw [c_6] at hl
      have hM : mOK kn := Or.inr (Or.inl c_6)
      have hT : tN kn = 2 := by rw [c_6]; rfl
      refine lv_iload_n hx hb d_MD_put_20 rfl (lv_at hl 1 rfl) ?_
      refine lv_if_lt (tgt := 34) hx hb d_MD_put_21 (by decide) (fun c_7 => ?_) (fun c_7 => ?_)
      · skip
        refine lv_iconst (v := 0) hx hb d_MD_put_34 (by decide) ?_
        have hw9 : wsM bd cm 0 n fr a z le wy fo en fF fA fB fS fW sk pg ye ys yt yg yp tk gF gA gB gS gW yk = wsM bd cm 0 n (mpF n fr k kn w) a z le wy fo en fF fA fB fS fW sk pg ye ys yt yg yp tk gF gA gB gS gW yk := by rw [mpF, if_neg (fun h9 => absurd c_7 (p_nneg h9.2.1))]
        rw [hw9] at hP hD
        exact xreti (v := 0) hx hb hr hlocks hK hP hD hS (rfl) (bI_0 (fun h9 => absurd c_7 (p_nneg h9.2.1))) d_MD_put_35
      · skip
        obtain ⟨j, hj, ej⟩ := nI_of c_7
        rw [ej] at hl
        refine lv_iload_n hx hb d_MD_put_24 rfl (lv_at hl 1 rfl) ?_
        refine lv_aload_n hx hb d_MD_put_25 rfl (lv_at hl 0 rfl) ?_
        refine va_get (D := (dC, dI)) (ci := 7) (v := .int (nI n)) (C := R_MD) (T := T_MD) (N := 28) hx hb hts i_MD hown hK hP 0 rfl rfl 1 (by decide) (hts _ wd_393) (fun _ h9 => h9) rfl d_MD_put_26 ?_
        refine lv_iload_n hx hb d_MD_put_29 rfl (lv_at hl 2 rfl) ?_
        refine lv_isub hx hb d_MD_put_30 ?_
        refine lv_icmp_le (tgt := 36) hx hb d_MD_put_31 (by decide) (fun c_8 => ?_) (fun c_8 => ?_)
        · skip
          have c_8 : j + 2 ≤ n := (p_put (M := 2) hj hn (by decide)).mp c_8
          refine lv_iconst (v := 0) hx hb d_MD_put_36 (by decide) ?_
          refine lv_istore (lv' := [(4, .int 0), (0, .ref (bd 0)), (1, .int (nI j)), (2, .int 2), (3, .int w)]) hx hb d_MD_put_37 hl (by decide) rfl (fun ls hl => ?_)
          refine lv_iload hx hb d_MD_put_39 (lv_at hl 0 rfl) ?_
          refine lv_iload_n hx hb d_MD_put_41 rfl (lv_at hl 3 rfl) ?_
          refine lv_icmp_ge (tgt := 68) hx hb d_MD_put_42 (by decide) (fun c_9 => ?_) (fun c_9 => ?_)
          · exact absurd c_9 (by decide)
          · skip
            refine lv_aload_n hx hb d_MD_put_45 rfl (lv_at hl 1 rfl) ?_
            refine va_get (D := (dC, dI)) (ci := 7) (v := .ref (bd 1)) (C := R_MD) (T := T_MD) (N := 28) hx hb hts i_MD hown hK hP 0 rfl rfl 2 (by decide) (hts _ wd_394) (fun _ h9 => h9) rfl d_MD_put_46 ?_
            refine lv_iload_n hx hb d_MD_put_49 rfl (lv_at hl 2 rfl) ?_
            refine lv_iload hx hb d_MD_put_50 (lv_at hl 0 rfl) ?_
            refine lv_iadd hx hb d_MD_put_52 ?_
            refine xtopi (y := nI (j + 0)) (nI_add (j) (0)) ?_
            refine lv_iload_n hx hb d_MD_put_53 rfl (lv_at hl 4 rfl) ?_
            refine lv_bipush (v := 8) hx hb d_MD_put_54 (by decide) ?_
            refine lv_iload hx hb d_MD_put_56 (lv_at hl 0 rfl) ?_
            refine lv_imul hx hb d_MD_put_58 ?_
            refine lv_ishr hx hb d_MD_put_59 ?_
            refine lv_i2b hx hb d_MD_put_60 rfl ?_
            refine xbast (k := j + 0) (x' := (w >>> ((8 * 0 : Int32) &&& 31)).toInt8.toInt32) (ws1 := wsM bd cm 0 n (upd fr (j + 0) ((w >>> ((8 * 0 : Int32) &&& 31)).toInt8.toInt32)) a z le wy fo en fF fA fB fS fW sk pg ye ys yt yg yp tk gF gA gB gS gW yk) hx hb hK hP hD hS 1 0 rfl rfl (rfl) (by omega) (by decide) (pk_vb _) rfl d_MD_put_61 (fun H locs hP hD hS => ?_)
            refine lv_iinc (v := 1) (lv' := [(4, .int 1), (0, .ref (bd 0)), (1, .int (nI j)), (2, .int 2), (3, .int w)]) hx hb d_MD_put_62 hl (k := 0) rfl rfl (by decide) rfl (fun ls hl => ?_)
            refine lv_goto (tgt := 39) hx hb d_MD_put_65 (by decide) ?_
            refine lv_iload hx hb d_MD_put_39 (lv_at hl 0 rfl) ?_
            refine lv_iload_n hx hb d_MD_put_41 rfl (lv_at hl 3 rfl) ?_
            refine lv_icmp_ge (tgt := 68) hx hb d_MD_put_42 (by decide) (fun c_10 => ?_) (fun c_10 => ?_)
            · exact absurd c_10 (by decide)
            · skip
              refine lv_aload_n hx hb d_MD_put_45 rfl (lv_at hl 1 rfl) ?_
              refine va_get (D := (dC, dI)) (ci := 7) (v := .ref (bd 1)) (C := R_MD) (T := T_MD) (N := 28) hx hb hts i_MD hown hK hP 0 rfl rfl 2 (by decide) (hts _ wd_394) (fun _ h9 => h9) rfl d_MD_put_46 ?_
              refine lv_iload_n hx hb d_MD_put_49 rfl (lv_at hl 2 rfl) ?_
              refine lv_iload hx hb d_MD_put_50 (lv_at hl 0 rfl) ?_
              refine lv_iadd hx hb d_MD_put_52 ?_
              refine xtopi (y := nI (j + 1)) (nI_add (j) (1)) ?_
              refine lv_iload_n hx hb d_MD_put_53 rfl (lv_at hl 4 rfl) ?_
              refine lv_bipush (v := 8) hx hb d_MD_put_54 (by decide) ?_
              refine lv_iload hx hb d_MD_put_56 (lv_at hl 0 rfl) ?_
              refine lv_imul hx hb d_MD_put_58 ?_
              refine lv_ishr hx hb d_MD_put_59 ?_
              refine lv_i2b hx hb d_MD_put_60 rfl ?_
              refine xbast (k := j + 1) (x' := (w >>> ((8 * 1 : Int32) &&& 31)).toInt8.toInt32) (ws1 := wsM bd cm 0 n (upd (upd fr (j + 0) ((w >>> ((8 * 0 : Int32) &&& 31)).toInt8.toInt32)) (j + 1) ((w >>> ((8 * 1 : Int32) &&& 31)).toInt8.toInt32)) a z le wy fo en fF fA fB fS fW sk pg ye ys yt yg yp tk gF gA gB gS gW yk) hx hb hK hP hD hS 1 0 rfl rfl (rfl) (by omega) (by decide) (pk_vb _) rfl d_MD_put_61 (fun H locs hP hD hS => ?_)
              refine lv_iinc (v := 2) (lv' := [(4, .int 2), (0, .ref (bd 0)), (1, .int (nI j)), (2, .int 2), (3, .int w)]) hx hb d_MD_put_62 hl (k := 0) rfl rfl (by decide) rfl (fun ls hl => ?_)
              refine lv_goto (tgt := 39) hx hb d_MD_put_65 (by decide) ?_
              refine lv_iload hx hb d_MD_put_39 (lv_at hl 0 rfl) ?_
              refine lv_iload_n hx hb d_MD_put_41 rfl (lv_at hl 3 rfl) ?_
              refine lv_icmp_ge (tgt := 68) hx hb d_MD_put_42 (by decide) (fun c_11 => ?_) (fun c_11 => ?_)
              · skip
                refine lv_iconst (v := 1) hx hb d_MD_put_68 (by decide) ?_
                have hw9 : wsM bd cm 0 n (upd (upd fr (j + 0) ((w >>> ((8 * 0 : Int32) &&& 31)).toInt8.toInt32)) (j + 1) ((w >>> ((8 * 1 : Int32) &&& 31)).toInt8.toInt32)) a z le wy fo en fF fA fB fS fW sk pg ye ys yt yg yp tk gF gA gB gS gW yk = wsM bd cm 0 n (mpF n fr k kn w) a z le wy fo en fF fA fB fS fW sk pg ye ys yt yg yp tk gF gA gB gS gW yk := by rw [mpF, if_pos ⟨hM, by rw [ej, nI_toInt hj]; omega, by rw [ej, nI_toInt hj, hT]; omega⟩, ej, nI_toInt hj, hT]; rfl
                rw [hw9] at hP hD
                exact xreti (v := 1) hx hb hr hlocks hK hP hD hS (rfl) (bI_1 ⟨hM, by rw [ej, nI_toInt hj]; omega, by rw [ej, nI_toInt hj, hT]; omega⟩) d_MD_put_69
              · exact absurd c_11 (by decide)
        · skip
          have c_8 : ¬ (j + 2 ≤ n) := fun h9 => c_8 ((p_put (M := 2) hj hn (by decide)).mpr h9)
          refine lv_iconst (v := 0) hx hb d_MD_put_34 (by decide) ?_
          have hw9 : wsM bd cm 0 n fr a z le wy fo en fF fA fB fS fW sk pg ye ys yt yg yp tk gF gA gB gS gW yk = wsM bd cm 0 n (mpF n fr k kn w) a z le wy fo en fF fA fB fS fW sk pg ye ys yt yg yp tk gF gA gB gS gW yk := by rw [mpF, if_neg (fun h9 => absurd h9.2.2 (by rw [ej, nI_toInt hj, hT]; omega))]
          rw [hw9] at hP hD
          exact xreti (v := 0) hx hb hr hlocks hK hP hD hS (rfl) (bI_0 (fun h9 => absurd h9.2.2 (by rw [ej, nI_toInt hj, hT]; omega))) d_MD_put_35
    · skip
      refine lv_iload_n hx hb d_MD_put_15 rfl (lv_at hl 2 rfl) ?_
      refine lv_iconst (v := 4) hx hb d_MD_put_16 (by decide) ?_
      refine lv_icmp_ne (tgt := 34) hx hb d_MD_put_17 (by decide) (fun c_12 => ?_) (fun c_12 => ?_)
      · skip
        have hM : ¬ mOK kn := fun h9 => h9.elim c_1 (fun h9 => h9.elim c_6 c_12)
        refine lv_iconst (v := 0) hx hb d_MD_put_34 (by decide) ?_
        have hw9 : wsM bd cm 0 n fr a z le wy fo en fF fA fB fS fW sk pg ye ys yt yg yp tk gF gA gB gS gW yk = wsM bd cm 0 n (mpF n fr k kn w) a z le wy fo en fF fA fB fS fW sk pg ye ys yt yg yp tk gF gA gB gS gW yk := by rw [mpF, if_neg (fun h9 => hM h9.1)]
        rw [hw9] at hP hD
        exact xreti (v := 0) hx hb hr hlocks hK hP hD hS (rfl) (bI_0 (fun h9 => hM h9.1)) d_MD_put_35
      · skip
        rw [c_12] at hl
        have hM : mOK kn := Or.inr (Or.inr c_12)
        have hT : tN kn = 4 := by rw [c_12]; rfl
        refine lv_iload_n hx hb d_MD_put_20 rfl (lv_at hl 1 rfl) ?_
        refine lv_if_lt (tgt := 34) hx hb d_MD_put_21 (by decide) (fun c_13 => ?_) (fun c_13 => ?_)
        · skip
          refine lv_iconst (v := 0) hx hb d_MD_put_34 (by decide) ?_
          have hw9 : wsM bd cm 0 n fr a z le wy fo en fF fA fB fS fW sk pg ye ys yt yg yp tk gF gA gB gS gW yk = wsM bd cm 0 n (mpF n fr k kn w) a z le wy fo en fF fA fB fS fW sk pg ye ys yt yg yp tk gF gA gB gS gW yk := by rw [mpF, if_neg (fun h9 => absurd c_13 (p_nneg h9.2.1))]
          rw [hw9] at hP hD
          exact xreti (v := 0) hx hb hr hlocks hK hP hD hS (rfl) (bI_0 (fun h9 => absurd c_13 (p_nneg h9.2.1))) d_MD_put_35
        · skip
          obtain ⟨j, hj, ej⟩ := nI_of c_13
          rw [ej] at hl
          refine lv_iload_n hx hb d_MD_put_24 rfl (lv_at hl 1 rfl) ?_
          refine lv_aload_n hx hb d_MD_put_25 rfl (lv_at hl 0 rfl) ?_
          refine va_get (D := (dC, dI)) (ci := 7) (v := .int (nI n)) (C := R_MD) (T := T_MD) (N := 28) hx hb hts i_MD hown hK hP 0 rfl rfl 1 (by decide) (hts _ wd_393) (fun _ h9 => h9) rfl d_MD_put_26 ?_
          refine lv_iload_n hx hb d_MD_put_29 rfl (lv_at hl 2 rfl) ?_
          refine lv_isub hx hb d_MD_put_30 ?_
          refine lv_icmp_le (tgt := 36) hx hb d_MD_put_31 (by decide) (fun c_14 => ?_) (fun c_14 => ?_)
          · skip
            have c_14 : j + 4 ≤ n := (p_put (M := 4) hj hn (by decide)).mp c_14
            refine lv_iconst (v := 0) hx hb d_MD_put_36 (by decide) ?_
            refine lv_istore (lv' := [(4, .int 0), (0, .ref (bd 0)), (1, .int (nI j)), (2, .int 4), (3, .int w)]) hx hb d_MD_put_37 hl (by decide) rfl (fun ls hl => ?_)
            refine lv_iload hx hb d_MD_put_39 (lv_at hl 0 rfl) ?_
            refine lv_iload_n hx hb d_MD_put_41 rfl (lv_at hl 3 rfl) ?_
            refine lv_icmp_ge (tgt := 68) hx hb d_MD_put_42 (by decide) (fun c_15 => ?_) (fun c_15 => ?_)
            · exact absurd c_15 (by decide)
            · skip
              refine lv_aload_n hx hb d_MD_put_45 rfl (lv_at hl 1 rfl) ?_
              refine va_get (D := (dC, dI)) (ci := 7) (v := .ref (bd 1)) (C := R_MD) (T := T_MD) (N := 28) hx hb hts i_MD hown hK hP 0 rfl rfl 2 (by decide) (hts _ wd_394) (fun _ h9 => h9) rfl d_MD_put_46 ?_
              refine lv_iload_n hx hb d_MD_put_49 rfl (lv_at hl 2 rfl) ?_
              refine lv_iload hx hb d_MD_put_50 (lv_at hl 0 rfl) ?_
              refine lv_iadd hx hb d_MD_put_52 ?_
              refine xtopi (y := nI (j + 0)) (nI_add (j) (0)) ?_
              refine lv_iload_n hx hb d_MD_put_53 rfl (lv_at hl 4 rfl) ?_
              refine lv_bipush (v := 8) hx hb d_MD_put_54 (by decide) ?_
              refine lv_iload hx hb d_MD_put_56 (lv_at hl 0 rfl) ?_
              refine lv_imul hx hb d_MD_put_58 ?_
              refine lv_ishr hx hb d_MD_put_59 ?_
              refine lv_i2b hx hb d_MD_put_60 rfl ?_
              refine xbast (k := j + 0) (x' := (w >>> ((8 * 0 : Int32) &&& 31)).toInt8.toInt32) (ws1 := wsM bd cm 0 n (upd fr (j + 0) ((w >>> ((8 * 0 : Int32) &&& 31)).toInt8.toInt32)) a z le wy fo en fF fA fB fS fW sk pg ye ys yt yg yp tk gF gA gB gS gW yk) hx hb hK hP hD hS 1 0 rfl rfl (rfl) (by omega) (by decide) (pk_vb _) rfl d_MD_put_61 (fun H locs hP hD hS => ?_)
              refine lv_iinc (v := 1) (lv' := [(4, .int 1), (0, .ref (bd 0)), (1, .int (nI j)), (2, .int 4), (3, .int w)]) hx hb d_MD_put_62 hl (k := 0) rfl rfl (by decide) rfl (fun ls hl => ?_)
              refine lv_goto (tgt := 39) hx hb d_MD_put_65 (by decide) ?_
              refine lv_iload hx hb d_MD_put_39 (lv_at hl 0 rfl) ?_
              refine lv_iload_n hx hb d_MD_put_41 rfl (lv_at hl 3 rfl) ?_
              refine lv_icmp_ge (tgt := 68) hx hb d_MD_put_42 (by decide) (fun c_16 => ?_) (fun c_16 => ?_)
              · exact absurd c_16 (by decide)
              · skip
                refine lv_aload_n hx hb d_MD_put_45 rfl (lv_at hl 1 rfl) ?_
                refine va_get (D := (dC, dI)) (ci := 7) (v := .ref (bd 1)) (C := R_MD) (T := T_MD) (N := 28) hx hb hts i_MD hown hK hP 0 rfl rfl 2 (by decide) (hts _ wd_394) (fun _ h9 => h9) rfl d_MD_put_46 ?_
                refine lv_iload_n hx hb d_MD_put_49 rfl (lv_at hl 2 rfl) ?_
                refine lv_iload hx hb d_MD_put_50 (lv_at hl 0 rfl) ?_
                refine lv_iadd hx hb d_MD_put_52 ?_
                refine xtopi (y := nI (j + 1)) (nI_add (j) (1)) ?_
                refine lv_iload_n hx hb d_MD_put_53 rfl (lv_at hl 4 rfl) ?_
                refine lv_bipush (v := 8) hx hb d_MD_put_54 (by decide) ?_
                refine lv_iload hx hb d_MD_put_56 (lv_at hl 0 rfl) ?_
                refine lv_imul hx hb d_MD_put_58 ?_
                refine lv_ishr hx hb d_MD_put_59 ?_
                refine lv_i2b hx hb d_MD_put_60 rfl ?_
                refine xbast (k := j + 1) (x' := (w >>> ((8 * 1 : Int32) &&& 31)).toInt8.toInt32) (ws1 := wsM bd cm 0 n (upd (upd fr (j + 0) ((w >>> ((8 * 0 : Int32) &&& 31)).toInt8.toInt32)) (j + 1) ((w >>> ((8 * 1 : Int32) &&& 31)).toInt8.toInt32)) a z le wy fo en fF fA fB fS fW sk pg ye ys yt yg yp tk gF gA gB gS gW yk) hx hb hK hP hD hS 1 0 rfl rfl (rfl) (by omega) (by decide) (pk_vb _) rfl d_MD_put_61 (fun H locs hP hD hS => ?_)
                refine lv_iinc (v := 2) (lv' := [(4, .int 2), (0, .ref (bd 0)), (1, .int (nI j)), (2, .int 4), (3, .int w)]) hx hb d_MD_put_62 hl (k := 0) rfl rfl (by decide) rfl (fun ls hl => ?_)
                refine lv_goto (tgt := 39) hx hb d_MD_put_65 (by decide) ?_
                refine lv_iload hx hb d_MD_put_39 (lv_at hl 0 rfl) ?_
                refine lv_iload_n hx hb d_MD_put_41 rfl (lv_at hl 3 rfl) ?_
                refine lv_icmp_ge (tgt := 68) hx hb d_MD_put_42 (by decide) (fun c_17 => ?_) (fun c_17 => ?_)
                · exact absurd c_17 (by decide)
                · skip
                  refine lv_aload_n hx hb d_MD_put_45 rfl (lv_at hl 1 rfl) ?_
                  refine va_get (D := (dC, dI)) (ci := 7) (v := .ref (bd 1)) (C := R_MD) (T := T_MD) (N := 28) hx hb hts i_MD hown hK hP 0 rfl rfl 2 (by decide) (hts _ wd_394) (fun _ h9 => h9) rfl d_MD_put_46 ?_
                  refine lv_iload_n hx hb d_MD_put_49 rfl (lv_at hl 2 rfl) ?_
                  refine lv_iload hx hb d_MD_put_50 (lv_at hl 0 rfl) ?_
                  refine lv_iadd hx hb d_MD_put_52 ?_
                  refine xtopi (y := nI (j + 2)) (nI_add (j) (2)) ?_
                  refine lv_iload_n hx hb d_MD_put_53 rfl (lv_at hl 4 rfl) ?_
                  refine lv_bipush (v := 8) hx hb d_MD_put_54 (by decide) ?_
                  refine lv_iload hx hb d_MD_put_56 (lv_at hl 0 rfl) ?_
                  refine lv_imul hx hb d_MD_put_58 ?_
                  refine lv_ishr hx hb d_MD_put_59 ?_
                  refine lv_i2b hx hb d_MD_put_60 rfl ?_
                  refine xbast (k := j + 2) (x' := (w >>> ((8 * 2 : Int32) &&& 31)).toInt8.toInt32) (ws1 := wsM bd cm 0 n (upd (upd (upd fr (j + 0) ((w >>> ((8 * 0 : Int32) &&& 31)).toInt8.toInt32)) (j + 1) ((w >>> ((8 * 1 : Int32) &&& 31)).toInt8.toInt32)) (j + 2) ((w >>> ((8 * 2 : Int32) &&& 31)).toInt8.toInt32)) a z le wy fo en fF fA fB fS fW sk pg ye ys yt yg yp tk gF gA gB gS gW yk) hx hb hK hP hD hS 1 0 rfl rfl (rfl) (by omega) (by decide) (pk_vb _) rfl d_MD_put_61 (fun H locs hP hD hS => ?_)
                  refine lv_iinc (v := 3) (lv' := [(4, .int 3), (0, .ref (bd 0)), (1, .int (nI j)), (2, .int 4), (3, .int w)]) hx hb d_MD_put_62 hl (k := 0) rfl rfl (by decide) rfl (fun ls hl => ?_)
                  refine lv_goto (tgt := 39) hx hb d_MD_put_65 (by decide) ?_
                  refine lv_iload hx hb d_MD_put_39 (lv_at hl 0 rfl) ?_
                  refine lv_iload_n hx hb d_MD_put_41 rfl (lv_at hl 3 rfl) ?_
                  refine lv_icmp_ge (tgt := 68) hx hb d_MD_put_42 (by decide) (fun c_18 => ?_) (fun c_18 => ?_)
                  · exact absurd c_18 (by decide)
                  · skip
                    refine lv_aload_n hx hb d_MD_put_45 rfl (lv_at hl 1 rfl) ?_
                    refine va_get (D := (dC, dI)) (ci := 7) (v := .ref (bd 1)) (C := R_MD) (T := T_MD) (N := 28) hx hb hts i_MD hown hK hP 0 rfl rfl 2 (by decide) (hts _ wd_394) (fun _ h9 => h9) rfl d_MD_put_46 ?_
                    refine lv_iload_n hx hb d_MD_put_49 rfl (lv_at hl 2 rfl) ?_
                    refine lv_iload hx hb d_MD_put_50 (lv_at hl 0 rfl) ?_
                    refine lv_iadd hx hb d_MD_put_52 ?_
                    refine xtopi (y := nI (j + 3)) (nI_add (j) (3)) ?_
                    refine lv_iload_n hx hb d_MD_put_53 rfl (lv_at hl 4 rfl) ?_
                    refine lv_bipush (v := 8) hx hb d_MD_put_54 (by decide) ?_
                    refine lv_iload hx hb d_MD_put_56 (lv_at hl 0 rfl) ?_
                    refine lv_imul hx hb d_MD_put_58 ?_
                    refine lv_ishr hx hb d_MD_put_59 ?_
                    refine lv_i2b hx hb d_MD_put_60 rfl ?_
                    refine xbast (k := j + 3) (x' := (w >>> ((8 * 3 : Int32) &&& 31)).toInt8.toInt32) (ws1 := wsM bd cm 0 n (upd (upd (upd (upd fr (j + 0) ((w >>> ((8 * 0 : Int32) &&& 31)).toInt8.toInt32)) (j + 1) ((w >>> ((8 * 1 : Int32) &&& 31)).toInt8.toInt32)) (j + 2) ((w >>> ((8 * 2 : Int32) &&& 31)).toInt8.toInt32)) (j + 3) ((w >>> ((8 * 3 : Int32) &&& 31)).toInt8.toInt32)) a z le wy fo en fF fA fB fS fW sk pg ye ys yt yg yp tk gF gA gB gS gW yk) hx hb hK hP hD hS 1 0 rfl rfl (rfl) (by omega) (by decide) (pk_vb _) rfl d_MD_put_61 (fun H locs hP hD hS => ?_)
                    refine lv_iinc (v := 4) (lv' := [(4, .int 4), (0, .ref (bd 0)), (1, .int (nI j)), (2, .int 4), (3, .int w)]) hx hb d_MD_put_62 hl (k := 0) rfl rfl (by decide) rfl (fun ls hl => ?_)
                    refine lv_goto (tgt := 39) hx hb d_MD_put_65 (by decide) ?_
                    refine lv_iload hx hb d_MD_put_39 (lv_at hl 0 rfl) ?_
                    refine lv_iload_n hx hb d_MD_put_41 rfl (lv_at hl 3 rfl) ?_
                    refine lv_icmp_ge (tgt := 68) hx hb d_MD_put_42 (by decide) (fun c_19 => ?_) (fun c_19 => ?_)
                    · skip
                      refine lv_iconst (v := 1) hx hb d_MD_put_68 (by decide) ?_
                      have hw9 : wsM bd cm 0 n (upd (upd (upd (upd fr (j + 0) ((w >>> ((8 * 0 : Int32) &&& 31)).toInt8.toInt32)) (j + 1) ((w >>> ((8 * 1 : Int32) &&& 31)).toInt8.toInt32)) (j + 2) ((w >>> ((8 * 2 : Int32) &&& 31)).toInt8.toInt32)) (j + 3) ((w >>> ((8 * 3 : Int32) &&& 31)).toInt8.toInt32)) a z le wy fo en fF fA fB fS fW sk pg ye ys yt yg yp tk gF gA gB gS gW yk = wsM bd cm 0 n (mpF n fr k kn w) a z le wy fo en fF fA fB fS fW sk pg ye ys yt yg yp tk gF gA gB gS gW yk := by rw [mpF, if_pos ⟨hM, by rw [ej, nI_toInt hj]; omega, by rw [ej, nI_toInt hj, hT]; omega⟩, ej, nI_toInt hj, hT]; rfl
                      rw [hw9] at hP hD
                      exact xreti (v := 1) hx hb hr hlocks hK hP hD hS (rfl) (bI_1 ⟨hM, by rw [ej, nI_toInt hj]; omega, by rw [ej, nI_toInt hj, hT]; omega⟩) d_MD_put_69
                    · exact absurd c_19 (by decide)
          · skip
            have c_14 : ¬ (j + 4 ≤ n) := fun h9 => c_14 ((p_put (M := 4) hj hn (by decide)).mpr h9)
            refine lv_iconst (v := 0) hx hb d_MD_put_34 (by decide) ?_
            have hw9 : wsM bd cm 0 n fr a z le wy fo en fF fA fB fS fW sk pg ye ys yt yg yp tk gF gA gB gS gW yk = wsM bd cm 0 n (mpF n fr k kn w) a z le wy fo en fF fA fB fS fW sk pg ye ys yt yg yp tk gF gA gB gS gW yk := by rw [mpF, if_neg (fun h9 => absurd h9.2.2 (by rw [ej, nI_toInt hj, hT]; omega))]
            rw [hw9] at hP hD
            exact xreti (v := 0) hx hb hr hlocks hK hP hD hS (rfl) (bI_0 (fun h9 => absurd h9.2.2 (by rw [ej, nI_toInt hj, hT]; omega))) d_MD_put_35
set_option maxHeartbeats 4000000 in
set_option maxRecDepth 100000 in
theorem m_letters (l : Launch) (dC : Nat → ClassId) (dI : Nat → Nat → Nat) (bd : Nat → Nat) (cm : Nat → ClassId) (th : Int32) (n : Nat) (fr : Nat → Int32) (a : Nat) (z : Nat → Nat) (le : Nat → Int32) (wy : Int32) (fo : Nat) (en : Nat) (fF : Nat → Nat) (fA : Nat → Nat) (fB : Nat → Nat) (fS : Nat → Nat) (fW : Nat → Int32) (sk : Nat → Int32) (pg : Nat) (ye : Int32) (ys : Int32) (yt : Nat) (yg : Nat) (yp : Nat) (tk : Nat → Int32) (gF : Nat → Nat) (gA : Nat → Nat) (gB : Nat → Nat) (gS : Nat → Nat) (gW : Nat → Int32) (yk : Nat → Int32) (w : Int64) (ha : a ≤ 32) (hz : ∀ j, z j ≤ 127) (sz : Nat) : Met l y_MD_letters w_MD_letters { frames := 0, cells := 0, slots := 0, locals := 0 } (va_Pc [.ref (bd 0), .long w] (xP (dC, dI) (tyM cm) (wsM bd cm th n fr a z le wy fo en fF fA fB fS fW sk pg ye ys yt yg yp tk gF gA gB gS gW yk) sz)) (xQi (dC, dI) (tyM cm) (va_A (wsM bd cm th n fr a z le wy fo en fF fA fB fS fW sk pg ye ys yt yg yp tk gF gA gB gS gW yk) sz) (wsM bd cm 0 n fr a (exFZ a z w) (mxFA a le z w) wy fo en fF fA fB fS fW sk pg ye ys yt yg yp tk gF gA gB gS gW yk) (fun r => r = bI (0 < a ∧ z (a - 1) + ltN w 8 ≤ 127))) 0 0 (va_A (wsM bd cm th n fr a z le wy fo en fF fA fB fS fW sk pg ye ys yt yg yp tk gF gA gB gS gW yk) sz) := by
  refine xof (cc := b_MD_letters) (maxL := 6) (ret := (some .boolean)) (own := R_MD) (Qc := fun A => (xQi (dC, dI) (tyM cm) A (wsM bd cm 0 n fr a (exFZ a z w) (mxFA a le z w) wy fo en fF fA fB fS fW sk pg ye ys yt yg yp tk gF gA gB gS gW yk) (fun r => r = bI (0 < a ∧ z (a - 1) + ltN w 8 ≤ 127)))) (by decide) rfl rfl (Nat.le_of_ble_eq_true rfl) ?_ sz
  intro p e s m below meth c A C hnm hK hP hD hA hN hZ hS ls hl
  obtain ⟨hx, hb, hr, hml, hown, hts, hlocks⟩ := C
  have hl : lv_has ls 6 [(0, .ref (bd 0)), (1, .long w)] := hl
  have hmcl := fun t => mcN_le w t
  refine lv_aload_n hx hb d_MD_letters_0 rfl (lv_at hl 0 rfl) ?_
  refine lv_iconst (v := 0) hx hb d_MD_letters_1 (by decide) ?_
  refine va_put (D := (dC, dI)) (ci := 7) (v := .int 0) (ty := .int) (C := R_MD) (T := T_MD) (N := 28) hx hb hts i_MD t_MD k_MD n_MD hown hK hP hD hS 0 rfl rfl 0 (by decide) (hts _ wd_392) (fun _ h9 => h9) rfl (by decide +kernel) rfl rfl (Nat.le_of_ble_eq_true rfl) d_MD_letters_2 (fun H locs hP hD hS => ?_)
  have hP : va_P (dC, dI) vwCl (wsM bd cm 0 n fr a z le wy fo en fF fA fB fS fW sk pg ye ys yt yg yp tk gF gA gB gS gW yk) H := hP
  have hD : va_D A (wsM bd cm 0 n fr a z le wy fo en fF fA fB fS fW sk pg ye ys yt yg yp tk gF gA gB gS gW yk) := hD
  refine lv_iconst (v := 0) hx hb d_MD_letters_5 (by decide) ?_
  refine lv_istore_n (lv' := [(3, .int 0), (0, .ref (bd 0)), (1, .long w)]) hx hb d_MD_letters_6 rfl hl (by decide) rfl (fun ls hl => ?_)
  refine lv_iconst (v := 0) hx hb d_MD_letters_7 (by decide) ?_
  refine lv_istore (lv' := [(4, .int 0), (3, .int 0), (0, .ref (bd 0)), (1, .long w)]) hx hb d_MD_letters_8 hl (by decide) rfl (fun ls hl => ?_)
  have lp10 : ∀ (fu10 : Nat) (t : Nat), (8 - t < fu10) → (t ≤ 8) → ∀ (H : Heap) (locs : List Loc), va_P (dC, dI) vwCl (wsM bd cm 0 n fr a z le wy fo en fF fA fB fS fW sk pg ye ys yt yg yp tk gF gA gB gS gW yk) H → va_D A (wsM bd cm 0 n fr a z le wy fo en fF fA fB fS fW sk pg ye ys yt yg yp tk gF gA gB gS gW yk) → va_S A s.heap H locs → ∀ ls : Array Slot, lv_has ls 6 [(0, .ref (bd 0)), (1, .long w), (3, .int (nI (mcN w t))), (4, .int (nI t))] → W p l e { frames := 0, cells := 0, slots := 0, locals := 0 } s m [.ref (bd 0), .long w].toArray below meth c H locs 0 0 (MQ below (xQi (dC, dI) (tyM cm) A (wsM bd cm 0 n fr a (exFZ a z w) (mxFA a le z w) wy fo en fF fA fB fS fW sk pg ye ys yt yg yp tk gF gA gB gS gW yk) (fun r => r = bI (0 < a ∧ z (a - 1) + ltN w 8 ≤ 127))) [.ref (bd 0), .long w].toArray s 0 0 A) (F0 m 10 ls []) := by
    intro fu10
    induction fu10 with
    | zero => intro t hfu10; exact absurd hfu10 (Nat.not_lt_zero _)
    | succ fu10 ih10 =>
      intro t hfu10 ht H locs hP hD hS ls hl
      refine lv_iload hx hb d_MD_letters_10 (lv_at hl 3 rfl) ?_
      refine lv_bipush (v := 8) hx hb d_MD_letters_12 (by decide) ?_
      refine lv_icmp_ge (tgt := 47) hx hb d_MD_letters_14 (by decide) (fun c_1 => ?_) (fun c_1 => ?_)
      · skip
        have c_1 : 8 ≤ t := (nI_leI (a := 8) (b := t) (by omega) (by omega)).mp c_1
        have e8 : t = 8 := by omega
        rw [e8, mcN_lt] at hl
        have hzb := hz (a - 1)
        have hl8 := ltN_le w 8
        have hl := lv_sub hl [0, 1, 2] rfl
        have hl : lv_has ls 6 [(0, .ref (bd 0)), (1, .long w), (3, .int (nI (ltN w 8)))] := hl
        refine lv_aload_n hx hb d_MD_letters_47 rfl (lv_at hl 0 rfl) ?_
        refine va_get (D := (dC, dI)) (ci := 7) (v := .int (nI a)) (C := R_MD) (T := T_MD) (N := 28) hx hb hts i_MD hown hK hP 0 rfl rfl 3 (by decide) (hts _ wd_395) (fun _ h9 => h9) rfl d_MD_letters_48 ?_
        refine lv_if_eq (tgt := 72) hx hb d_MD_letters_51 (by decide) (fun c_2 => ?_) (fun c_2 => ?_)
        · skip
          have c_2 : a = 0 := (nI_eq (a := a) (b := 0) (by omega) (by omega)).mp c_2
          refine lv_iconst (v := 0) hx hb d_MD_letters_72 (by decide) ?_
          have hw9 : wsM bd cm 0 n fr a z le wy fo en fF fA fB fS fW sk pg ye ys yt yg yp tk gF gA gB gS gW yk = wsM bd cm 0 n fr a (exFZ a z w) (mxFA a le z w) wy fo en fF fA fB fS fW sk pg ye ys yt yg yp tk gF gA gB gS gW yk := by rw [mxFA, exFZ, if_neg (show ¬ (0 < a ∧ z (a - 1) + ltN w 8 ≤ 127) from by omega), if_neg (show ¬ (0 < a ∧ z (a - 1) + ltN w 8 ≤ 127) from by omega)]
          rw [hw9] at hP hD
          exact xreti (v := 0) hx hb hr hlocks hK hP hD hS (rfl) (bI_0 (by omega)) d_MD_letters_73
        · skip
          have c_2 : ¬ (a = 0) := fun h9 => c_2 ((nI_eq (a := a) (b := 0) (by omega) (by omega)).mpr h9)
          refine lv_aload_n hx hb d_MD_letters_54 rfl (lv_at hl 0 rfl) ?_
          refine va_get (D := (dC, dI)) (ci := 7) (v := .ref (bd 2)) (C := R_MD) (T := T_MD) (N := 28) hx hb hts i_MD hown hK hP 0 rfl rfl 4 (by decide) (hts _ wd_396) (fun _ h9 => h9) rfl d_MD_letters_55 ?_
          refine lv_aload_n hx hb d_MD_letters_58 rfl (lv_at hl 0 rfl) ?_
          refine va_get (D := (dC, dI)) (ci := 7) (v := .int (nI a)) (C := R_MD) (T := T_MD) (N := 28) hx hb hts i_MD hown hK hP 0 rfl rfl 3 (by decide) (hts _ wd_395) (fun _ h9 => h9) rfl d_MD_letters_59 ?_
          refine lv_iconst (v := 1) hx hb d_MD_letters_62 (by decide) ?_
          refine lv_isub hx hb d_MD_letters_63 ?_
          refine xtopi (y := nI (a - 1)) (pk_sub (a := a) (b := 1) (by omega)) ?_
          refine xiald (k := a - 1) hx hb hK hP 2 1 rfl rfl (rfl) (by omega) (by decide) d_MD_letters_64 ?_
          refine lv_iload_n hx hb d_MD_letters_65 rfl (lv_at hl 2 rfl) ?_
          refine lv_iadd hx hb d_MD_letters_66 ?_
          refine xtopi (y := nI ((z (a - 1)) + (ltN w 8))) (nI_add (z (a - 1)) (ltN w 8)) ?_
          refine lv_bipush (v := 127) hx hb d_MD_letters_67 (by decide) ?_
          refine lv_icmp_le (tgt := 74) hx hb d_MD_letters_69 (by decide) (fun c_3 => ?_) (fun c_3 => ?_)
          · skip
            have c_3 : (z (a - 1)) + (ltN w 8) ≤ 127 := (nI_leI (a := (z (a - 1)) + (ltN w 8)) (b := 127) (by omega) (by omega)).mp c_3
            refine lv_bipush (v := 7) hx hb d_MD_letters_74 (by decide) ?_
            refine lv_istore (lv' := [(4, .int 7), (0, .ref (bd 0)), (1, .long w), (3, .int (nI (ltN w 8)))]) hx hb d_MD_letters_76 hl (by decide) rfl (fun ls hl => ?_)
            have lp78 : ∀ (fu78 : Nat) (t : Nat), (8 - t < fu78) → (t ≤ 8) → ∀ (H : Heap) (locs : List Loc), va_P (dC, dI) vwCl (wsM bd cm 0 n fr a (upn z (a - 1) (z (a - 1) + ltN w t)) (mxA le z (a - 1) w t) wy fo en fF fA fB fS fW sk pg ye ys yt yg yp tk gF gA gB gS gW yk) H → va_D A (wsM bd cm 0 n fr a (upn z (a - 1) (z (a - 1) + ltN w t)) (mxA le z (a - 1) w t) wy fo en fF fA fB fS fW sk pg ye ys yt yg yp tk gF gA gB gS gW yk) → va_S A s.heap H locs → ∀ ls : Array Slot, lv_has ls 6 [(0, .ref (bd 0)), (1, .long w), (3, .int (nI (ltN w 8))), (4, .int (svK t))] → W p l e { frames := 0, cells := 0, slots := 0, locals := 0 } s m [.ref (bd 0), .long w].toArray below meth c H locs 0 0 (MQ below (xQi (dC, dI) (tyM cm) A (wsM bd cm 0 n fr a (exFZ a z w) (mxFA a le z w) wy fo en fF fA fB fS fW sk pg ye ys yt yg yp tk gF gA gB gS gW yk) (fun r => r = bI (0 < a ∧ z (a - 1) + ltN w 8 ≤ 127))) [.ref (bd 0), .long w].toArray s 0 0 A) (F0 m 78 ls []) := by
              intro fu78
              induction fu78 with
              | zero => intro t hfu78; exact absurd hfu78 (Nat.not_lt_zero _)
              | succ fu78 ih78 =>
                intro t hfu78 ht H locs hP hD hS ls hl
                refine lv_iload hx hb d_MD_letters_78 (lv_at hl 3 rfl) ?_
                refine lv_if_lt (tgt := 153) hx hb d_MD_letters_80 (by decide) (fun c_4 => ?_) (fun c_4 => ?_)
                · skip
                  have h8 : t = 8 := svK_neg ht c_4
                  refine lv_iconst (v := 1) hx hb d_MD_letters_153 (by decide) ?_
                  have hw9 : wsM bd cm 0 n fr a (upn z (a - 1) (z (a - 1) + ltN w t)) (mxA le z (a - 1) w t) wy fo en fF fA fB fS fW sk pg ye ys yt yg yp tk gF gA gB gS gW yk = wsM bd cm 0 n fr a (exFZ a z w) (mxFA a le z w) wy fo en fF fA fB fS fW sk pg ye ys yt yg yp tk gF gA gB gS gW yk := by rw [mxFA, exFZ, if_pos (show 0 < a ∧ z (a - 1) + ltN w 8 ≤ 127 from by omega), if_pos (show 0 < a ∧ z (a - 1) + ltN w 8 ≤ 127 from by omega), h8]
                  rw [hw9] at hP hD
                  exact xreti (v := 1) hx hb hr hlocks hK hP hD hS (rfl) (bI_1 ⟨by omega, by omega⟩) d_MD_letters_154
                · skip
                  have h8 : t < 8 := svK_pos ht c_4
                  have hzt : upn z (a - 1) (z (a - 1) + ltN w t) (a - 1) = z (a - 1) + ltN w t := upn_eq _ _ _
                  have hmb : ((w >>> ((8 * svK t).toInt64 &&& 63)).toInt32 &&& 255).toInt8.toInt32 = lby w t := mlb_b w h8
                  refine lv_lload_n hx hb d_MD_letters_83 rfl (lv_at hl 1 rfl) ?_
                  refine lv_bipush (v := 8) hx hb d_MD_letters_84 (by decide) ?_
                  refine lv_iload hx hb d_MD_letters_86 (lv_at hl 3 rfl) ?_
                  refine lv_imul hx hb d_MD_letters_88 ?_
                  refine lv_lshr hx hb d_MD_letters_89 rfl ?_
                  refine lv_l2i hx hb d_MD_letters_90 rfl ?_
                  refine lv_sipush (v := 255) hx hb d_MD_letters_91 (by decide) ?_
                  refine lv_iand hx hb d_MD_letters_94 ?_
                  refine lv_istore (lv' := [(5, .int (((w >>> ((8 * (svK t)).toInt64 &&& 63)).toInt32) &&& 255)), (0, .ref (bd 0)), (1, .long w), (3, .int (nI (ltN w 8))), (4, .int (svK t))]) hx hb d_MD_letters_95 hl (by decide) rfl (fun ls hl => ?_)
                  refine lv_iload hx hb d_MD_letters_97 (lv_at hl 0 rfl) ?_
                  refine lv_if_le (tgt := 147) hx hb d_MD_letters_99 (by decide) (fun c_5 => ?_) (fun c_5 => ?_)
                  · skip
                    have hc9 : lby w t = 0 := (mlb_le w h8).mp c_5
                    refine lv_iinc (v := svK (t + 1)) (lv' := [(4, .int (svK (t + 1))), (5, .int (((w >>> ((8 * (svK t)).toInt64 &&& 63)).toInt32) &&& 255)), (0, .ref (bd 0)), (1, .long w), (3, .int (nI (ltN w 8)))]) hx hb d_MD_letters_147 hl (k := 4) rfl (svK_step h8) (by decide) rfl (fun ls hl => ?_)
                    refine lv_goto (tgt := 78) hx hb d_MD_letters_150 (by decide) ?_
                    have hw9 : wsM bd cm 0 n fr a (upn z (a - 1) (z (a - 1) + ltN w t)) (mxA le z (a - 1) w t) wy fo en fF fA fB fS fW sk pg ye ys yt yg yp tk gF gA gB gS gW yk = wsM bd cm 0 n fr a (upn z (a - 1) (z (a - 1) + ltN w (t + 1))) (mxA le z (a - 1) w (t + 1)) wy fo en fF fA fB fS fW sk pg ye ys yt yg yp tk gF gA gB gS gW yk := by rw [mxA, ltN, if_pos hc9, if_pos hc9]
                    rw [hw9] at hP hD
                    exact ih78 (t + 1) (by omega) (by omega) _ _ hP hD hS _ (lv_sub hl [2, 3, 4, 0] rfl)
                  · skip
                    have hc9 : ¬ lby w t = 0 := fun h9 => c_5 ((mlb_le w h8).mpr h9)
                    have hm8 := ltN_mono w (t + 1) (8 - (t + 1))
                    rw [show t + 1 + (8 - (t + 1)) = 8 from by omega, ltN, if_neg hc9] at hm8
                    refine lv_aload_n hx hb d_MD_letters_102 rfl (lv_at hl 1 rfl) ?_
                    refine va_get (D := (dC, dI)) (ci := 7) (v := .ref (bd 3)) (C := R_MD) (T := T_MD) (N := 28) hx hb hts i_MD hown hK hP 0 rfl rfl 5 (by decide) (hts _ wd_397) (fun _ h9 => h9) rfl d_MD_letters_103 ?_
                    refine lv_sipush (v := 128) hx hb d_MD_letters_106 (by decide) ?_
                    refine lv_aload_n hx hb d_MD_letters_109 rfl (lv_at hl 1 rfl) ?_
                    refine va_get (D := (dC, dI)) (ci := 7) (v := .int (nI a)) (C := R_MD) (T := T_MD) (N := 28) hx hb hts i_MD hown hK hP 0 rfl rfl 3 (by decide) (hts _ wd_395) (fun _ h9 => h9) rfl d_MD_letters_110 ?_
                    refine lv_iconst (v := 1) hx hb d_MD_letters_113 (by decide) ?_
                    refine lv_isub hx hb d_MD_letters_114 ?_
                    refine xtopi (y := nI (a - 1)) (pk_sub (a := a) (b := 1) (by omega)) ?_
                    refine lv_imul hx hb d_MD_letters_115 ?_
                    refine xtopi (y := nI (128 * (a - 1))) (pk_mul (128) (a - 1)) ?_
                    refine lv_aload_n hx hb d_MD_letters_116 rfl (lv_at hl 1 rfl) ?_
                    refine va_get (D := (dC, dI)) (ci := 7) (v := .ref (bd 2)) (C := R_MD) (T := T_MD) (N := 28) hx hb hts i_MD hown hK hP 0 rfl rfl 4 (by decide) (hts _ wd_396) (fun _ h9 => h9) rfl d_MD_letters_117 ?_
                    refine lv_aload_n hx hb d_MD_letters_120 rfl (lv_at hl 1 rfl) ?_
                    refine va_get (D := (dC, dI)) (ci := 7) (v := .int (nI a)) (C := R_MD) (T := T_MD) (N := 28) hx hb hts i_MD hown hK hP 0 rfl rfl 3 (by decide) (hts _ wd_395) (fun _ h9 => h9) rfl d_MD_letters_121 ?_
                    refine lv_iconst (v := 1) hx hb d_MD_letters_124 (by decide) ?_
                    refine lv_isub hx hb d_MD_letters_125 ?_
                    refine xtopi (y := nI (a - 1)) (pk_sub (a := a) (b := 1) (by omega)) ?_
                    refine xiald (k := a - 1) hx hb hK hP 2 1 rfl rfl (rfl) (by omega) (by decide) d_MD_letters_126 ?_
                    refine lv_iadd hx hb d_MD_letters_127 ?_
                    refine xtopi (y := nI ((128 * (a - 1)) + ((upn z (a - 1) (z (a - 1) + ltN w t)) (a - 1)))) (nI_add (128 * (a - 1)) ((upn z (a - 1) (z (a - 1) + ltN w t)) (a - 1))) ?_
                    refine lv_iload hx hb d_MD_letters_128 (lv_at hl 0 rfl) ?_
                    refine lv_i2b hx hb d_MD_letters_130 rfl ?_
                    refine xbast (k := (128 * (a - 1)) + ((upn z (a - 1) (z (a - 1) + ltN w t)) (a - 1))) (x' := (((w >>> ((8 * (svK t)).toInt64 &&& 63)).toInt32) &&& 255).toInt8.toInt32) (ws1 := wsM bd cm 0 n fr a (upn z (a - 1) (z (a - 1) + ltN w t)) (upd (mxA le z (a - 1) w t) ((128 * (a - 1)) + ((upn z (a - 1) (z (a - 1) + ltN w t)) (a - 1))) ((((w >>> ((8 * (svK t)).toInt64 &&& 63)).toInt32) &&& 255).toInt8.toInt32)) wy fo en fF fA fB fS fW sk pg ye ys yt yg yp tk gF gA gB gS gW yk) hx hb hK hP hD hS 3 0 rfl rfl (rfl) (by omega) (by decide) (pk_vb _) rfl d_MD_letters_131 (fun H locs hP hD hS => ?_)
                    refine lv_aload_n hx hb d_MD_letters_132 rfl (lv_at hl 1 rfl) ?_
                    refine va_get (D := (dC, dI)) (ci := 7) (v := .ref (bd 2)) (C := R_MD) (T := T_MD) (N := 28) hx hb hts i_MD hown hK hP 0 rfl rfl 4 (by decide) (hts _ wd_396) (fun _ h9 => h9) rfl d_MD_letters_133 ?_
                    refine lv_aload_n hx hb d_MD_letters_136 rfl (lv_at hl 1 rfl) ?_
                    refine va_get (D := (dC, dI)) (ci := 7) (v := .int (nI a)) (C := R_MD) (T := T_MD) (N := 28) hx hb hts i_MD hown hK hP 0 rfl rfl 3 (by decide) (hts _ wd_395) (fun _ h9 => h9) rfl d_MD_letters_137 ?_
                    refine lv_iconst (v := 1) hx hb d_MD_letters_140 (by decide) ?_
                    refine lv_isub hx hb d_MD_letters_141 ?_
                    refine xtopi (y := nI (a - 1)) (pk_sub (a := a) (b := 1) (by omega)) ?_
                    refine lv_dup2_11 hx hb d_MD_letters_142 rfl rfl ?_
                    refine xiald (k := a - 1) hx hb hK hP 2 1 rfl rfl (rfl) (by omega) (by decide) d_MD_letters_143 ?_
                    refine lv_iconst (v := 1) hx hb d_MD_letters_144 (by decide) ?_
                    refine lv_iadd hx hb d_MD_letters_145 ?_
                    refine xtopi (y := nI (((upn z (a - 1) (z (a - 1) + ltN w t)) (a - 1)) + 1)) (nI_add ((upn z (a - 1) (z (a - 1) + ltN w t)) (a - 1)) (1)) ?_
                    refine xiast (k := a - 1) (ws1 := wsM bd cm 0 n fr a (upn (upn z (a - 1) (z (a - 1) + ltN w t)) (a - 1) (((upn z (a - 1) (z (a - 1) + ltN w t)) (a - 1)) + 1)) (upd (mxA le z (a - 1) w t) ((128 * (a - 1)) + ((upn z (a - 1) (z (a - 1) + ltN w t)) (a - 1))) ((((w >>> ((8 * (svK t)).toInt64 &&& 63)).toInt32) &&& 255).toInt8.toInt32)) wy fo en fF fA fB fS fW sk pg ye ys yt yg yp tk gF gA gB gS gW yk) hx hb hK hP hD hS 2 1 rfl rfl (rfl) (by omega) (by decide) wsM_put_z d_MD_letters_146 (fun H locs hP hD hS => ?_)
                    refine lv_iinc (v := svK (t + 1)) (lv' := [(4, .int (svK (t + 1))), (5, .int (((w >>> ((8 * (svK t)).toInt64 &&& 63)).toInt32) &&& 255)), (0, .ref (bd 0)), (1, .long w), (3, .int (nI (ltN w 8)))]) hx hb d_MD_letters_147 hl (k := 4) rfl (svK_step h8) (by decide) rfl (fun ls hl => ?_)
                    refine lv_goto (tgt := 78) hx hb d_MD_letters_150 (by decide) ?_
                    have hw9 : wsM bd cm 0 n fr a (upn (upn z (a - 1) (z (a - 1) + ltN w t)) (a - 1) (((upn z (a - 1) (z (a - 1) + ltN w t)) (a - 1)) + 1)) (upd (mxA le z (a - 1) w t) ((128 * (a - 1)) + ((upn z (a - 1) (z (a - 1) + ltN w t)) (a - 1))) ((((w >>> ((8 * (svK t)).toInt64 &&& 63)).toInt32) &&& 255).toInt8.toInt32)) wy fo en fF fA fB fS fW sk pg ye ys yt yg yp tk gF gA gB gS gW yk = wsM bd cm 0 n fr a (upn z (a - 1) (z (a - 1) + ltN w (t + 1))) (mxA le z (a - 1) w (t + 1)) wy fo en fF fA fB fS fW sk pg ye ys yt yg yp tk gF gA gB gS gW yk := by rw [mxA, ltN, if_neg hc9, if_neg hc9, hzt, upn_upn, Nat.add_assoc, hmb]
                    rw [hw9] at hP hD
                    exact ih78 (t + 1) (by omega) (by omega) _ _ hP hD hS _ (lv_sub hl [2, 3, 4, 0] rfl)
            have ez0 : upn z (a - 1) (z (a - 1) + ltN w 0) = z := upn_self z (a - 1)
            have hP : va_P (dC, dI) vwCl (wsM bd cm 0 n fr a (upn z (a - 1) (z (a - 1) + ltN w 0)) le wy fo en fF fA fB fS fW sk pg ye ys yt yg yp tk gF gA gB gS gW yk) H := by rw [ez0]; exact hP
            have hD : va_D A (wsM bd cm 0 n fr a (upn z (a - 1) (z (a - 1) + ltN w 0)) le wy fo en fF fA fB fS fW sk pg ye ys yt yg yp tk gF gA gB gS gW yk) := by rw [ez0]; exact hD
            exact lp78 ((8 - 0) + 1) 0 (Nat.lt_succ_self _) (by omega) _ _ hP hD hS _ (lv_sub hl [1, 2, 3, 0] rfl)
          · skip
            have c_3 : ¬ ((z (a - 1)) + (ltN w 8) ≤ 127) := fun h9 => c_3 ((nI_leI (a := (z (a - 1)) + (ltN w 8)) (b := 127) (by omega) (by omega)).mpr h9)
            refine lv_iconst (v := 0) hx hb d_MD_letters_72 (by decide) ?_
            have hw9 : wsM bd cm 0 n fr a z le wy fo en fF fA fB fS fW sk pg ye ys yt yg yp tk gF gA gB gS gW yk = wsM bd cm 0 n fr a (exFZ a z w) (mxFA a le z w) wy fo en fF fA fB fS fW sk pg ye ys yt yg yp tk gF gA gB gS gW yk := by rw [mxFA, exFZ, if_neg (show ¬ (0 < a ∧ z (a - 1) + ltN w 8 ≤ 127) from by omega), if_neg (show ¬ (0 < a ∧ z (a - 1) + ltN w 8 ≤ 127) from by omega)]
            rw [hw9] at hP hD
            exact xreti (v := 0) hx hb hr hlocks hK hP hD hS (rfl) (bI_0 (by omega)) d_MD_letters_73
      · skip
        have c_1 : ¬ (8 ≤ t) := fun h9 => c_1 ((nI_leI (a := 8) (b := t) (by omega) (by omega)).mpr h9)
        have hmc := hmcl t
        refine lv_iload_n hx hb d_MD_letters_17 rfl (lv_at hl 2 rfl) ?_
        refine lv_lload_n hx hb d_MD_letters_18 rfl (lv_at hl 1 rfl) ?_
        refine lv_bipush (v := 8) hx hb d_MD_letters_19 (by decide) ?_
        refine lv_iload hx hb d_MD_letters_21 (lv_at hl 3 rfl) ?_
        refine lv_imul hx hb d_MD_letters_23 ?_
        refine xtopi (y := nI (8 * t)) (pk_mul (8) (t)) ?_
        refine lv_lshr hx hb d_MD_letters_24 rfl ?_
        refine lv_ldc2 (v := 255) hx hb hown (hts _ wd_506) d_MD_letters_25 ?_
        refine lv_land hx hb d_MD_letters_28 ?_
        refine lv_lconst (v := 0) hx hb d_MD_letters_29 (by decide) ?_
        refine W.lcmp hx hb d_MD_letters_30 ?_
        refine lv_if_le (tgt := 38) hx hb d_MD_letters_31 (by decide) (fun c_6 => ?_) (fun c_6 => ?_)
        · skip
          rw [lg_cmp_le] at c_6
          refine lv_iconst (v := 0) hx hb d_MD_letters_38 (by decide) ?_
          refine lv_iadd hx hb d_MD_letters_39 ?_
          refine xtopi (y := nI ((mcN w t) + 0)) (nI_add (mcN w t) (0)) ?_
          refine lv_istore_n (lv' := [(3, .int (nI ((mcN w t) + 0))), (0, .ref (bd 0)), (1, .long w), (4, .int (nI t))]) hx hb d_MD_letters_40 rfl hl (by decide) rfl (fun ls hl => ?_)
          refine lv_iinc (v := nI (t + 1)) (lv' := [(4, .int (nI (t + 1))), (3, .int (nI ((mcN w t) + 0))), (0, .ref (bd 0)), (1, .long w)]) hx hb d_MD_letters_41 hl (k := 3) rfl (nI_1 _) (by decide) rfl (fun ls hl => ?_)
          refine lv_goto (tgt := 10) hx hb d_MD_letters_44 (by decide) ?_
          have e9 : mcN w t + 0 = mcN w (t + 1) := by rw [mcN, if_pos (show mby w t ≤ 0 from c_6)]; rfl
          rw [e9] at hl
          exact ih10 (t + 1) (by omega) (by omega) _ _ hP hD hS _ (lv_sub hl [2, 3, 1, 0] rfl)
        · skip
          rw [lg_cmp_le] at c_6
          refine lv_iconst (v := 1) hx hb d_MD_letters_34 (by decide) ?_
          refine lv_goto (tgt := 39) hx hb d_MD_letters_35 (by decide) ?_
          refine lv_iadd hx hb d_MD_letters_39 ?_
          refine xtopi (y := nI ((mcN w t) + 1)) (nI_add (mcN w t) (1)) ?_
          refine lv_istore_n (lv' := [(3, .int (nI ((mcN w t) + 1))), (0, .ref (bd 0)), (1, .long w), (4, .int (nI t))]) hx hb d_MD_letters_40 rfl hl (by decide) rfl (fun ls hl => ?_)
          refine lv_iinc (v := nI (t + 1)) (lv' := [(4, .int (nI (t + 1))), (3, .int (nI ((mcN w t) + 1))), (0, .ref (bd 0)), (1, .long w)]) hx hb d_MD_letters_41 hl (k := 3) rfl (nI_1 _) (by decide) rfl (fun ls hl => ?_)
          refine lv_goto (tgt := 10) hx hb d_MD_letters_44 (by decide) ?_
          have e9 : mcN w t + 1 = mcN w (t + 1) := by rw [mcN, if_neg (show ¬ mby w t ≤ 0 from c_6)]
          rw [e9] at hl
          exact ih10 (t + 1) (by omega) (by omega) _ _ hP hD hS _ (lv_sub hl [2, 3, 1, 0] rfl)
  exact lp10 ((8 - 0) + 1) 0 (Nat.lt_succ_self _) (by omega) _ _ hP hD hS _ (lv_sub hl [2, 3, 1, 0] rfl)
