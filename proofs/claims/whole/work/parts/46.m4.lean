set_option maxHeartbeats 4000000 in
set_option maxRecDepth 100000 in
theorem m_about (l : Launch) (dC : Nat → ClassId) (dI : Nat → Nat → Nat) (bd : Nat → Nat) (cm : Nat → ClassId) (th : Int32) (n : Nat) (fr : Nat → Int32) (a : Nat) (z : Nat → Nat) (le : Nat → Int32) (wy : Int32) (fo : Nat) (en : Nat) (fF : Nat → Nat) (fA : Nat → Nat) (fB : Nat → Nat) (fS : Nat → Nat) (fW : Nat → Int32) (sk : Nat → Int32) (pg : Nat) (ye : Int32) (ys : Int32) (yt : Nat) (yg : Nat) (yp : Nat) (tk : Nat → Int32) (gF : Nat → Nat) (gA : Nat → Nat) (gB : Nat → Nat) (gS : Nat → Nat) (gW : Nat → Int32) (yk : Nat → Int32) (x : Int32) (hpg : pg ≤ 32) (sz : Nat) : Met l y_MD_about w_MD_about { frames := 0, cells := 0, slots := 0, locals := 0 } (va_Pc [.ref (bd 0), .int x] (xP (dC, dI) (tyM cm) (wsM bd cm th n fr a z le wy fo en fF fA fB fS fW sk pg ye ys yt yg yp tk gF gA gB gS gW yk) sz)) (xQi (dC, dI) (tyM cm) (va_A (wsM bd cm th n fr a z le wy fo en fF fA fB fS fW sk pg ye ys yt yg yp tk gF gA gB gS gW yk) sz) (wsM bd cm 0 n fr a z le wy fo en fF fA fB fS fW sk pg ye ys yt yg yp tk gF gA gB gS gW yk) (fun r => r = mabO pg ye ys yt yg x)) 0 0 (va_A (wsM bd cm th n fr a z le wy fo en fF fA fB fS fW sk pg ye ys yt yg yp tk gF gA gB gS gW yk) sz) := by
  refine xof (cc := b_MD_about) (maxL := 2) (ret := (some .int)) (own := R_MD) (Qc := fun A => (xQi (dC, dI) (tyM cm) A (wsM bd cm 0 n fr a z le wy fo en fF fA fB fS fW sk pg ye ys yt yg yp tk gF gA gB gS gW yk) (fun r => r = mabO pg ye ys yt yg x))) (by decide) rfl rfl (Nat.le_of_ble_eq_true rfl) ?_ sz
  intro p e s m below meth c A C hnm hK hP hD hA hN hZ hS ls hl
  obtain ⟨hx, hb, hr, hml, hown, hts, hlocks⟩ := C
  have hl : lv_has ls 2 [(0, .ref (bd 0)), (1, .int x)] := hl
  refine lv_aload_n hx hb d_MD_about_0 rfl (lv_at hl 0 rfl) ?_
  refine lv_iconst (v := 0) hx hb d_MD_about_1 (by decide) ?_
  refine va_put (D := (dC, dI)) (ci := 7) (v := .int 0) (ty := .int) (C := R_MD) (T := T_MD) (N := 28) hx hb hts i_MD t_MD k_MD n_MD hown hK hP hD hS 0 rfl rfl 0 (by decide) (hts _ wd_392) (fun _ h9 => h9) rfl (by decide +kernel) rfl rfl (Nat.le_of_ble_eq_true rfl) d_MD_about_2 (fun H locs hP hD hS => ?_)
  have hP : va_P (dC, dI) vwCl (wsM bd cm 0 n fr a z le wy fo en fF fA fB fS fW sk pg ye ys yt yg yp tk gF gA gB gS gW yk) H := hP
  have hD : va_D A (wsM bd cm 0 n fr a z le wy fo en fF fA fB fS fW sk pg ye ys yt yg yp tk gF gA gB gS gW yk) := hD
  refine lv_iload_n hx hb d_MD_about_5 rfl (lv_at hl 1 rfl) ?_
  refine lv_if_lt (tgt := 14) hx hb d_MD_about_6 (by decide) (fun c_1 => ?_) (fun c_1 => ?_)
  · skip
    refine lv_iconst (v := (-1)) hx hb d_MD_about_14 (by decide) ?_
    exact xreti (v := (-1)) hx hb hr hlocks hK hP hD hS (rfl) (by rw [mabO, if_pos (Or.inl c_1)]) d_MD_about_15
  · skip
    refine lv_iload_n hx hb d_MD_about_9 rfl (lv_at hl 1 rfl) ?_
    refine lv_iconst (v := 4) hx hb d_MD_about_10 (by decide) ?_
    refine lv_icmp_le (tgt := 16) hx hb d_MD_about_11 (by decide) (fun c_2 => ?_) (fun c_2 => ?_)
    · skip
      refine lv_aload_n hx hb d_MD_about_16 rfl (lv_at hl 0 rfl) ?_
      refine va_get (D := (dC, dI)) (ci := 7) (v := .int (nI pg)) (C := R_MD) (T := T_MD) (N := 28) hx hb hts i_MD hown hK hP 0 rfl rfl 15 (by decide) (hts _ wd_407) (fun _ h9 => h9) rfl d_MD_about_17 ?_
      refine lv_if_ne (tgt := 25) hx hb d_MD_about_20 (by decide) (fun c_3 => ?_) (fun c_3 => ?_)
      · skip
        have c_3 : ¬ (pg = 0) := fun h9 => c_3 ((nI_eq (a := pg) (b := 0) (by omega) (by omega)).mpr h9)
        refine lv_iload_n hx hb d_MD_about_25 rfl (lv_at hl 1 rfl) ?_
        refine lv_if_ne (tgt := 36) hx hb d_MD_about_26 (by decide) (fun c_4 => ?_) (fun c_4 => ?_)
        · skip
          refine lv_iload_n hx hb d_MD_about_36 rfl (lv_at hl 1 rfl) ?_
          refine lv_iconst (v := 1) hx hb d_MD_about_37 (by decide) ?_
          refine lv_icmp_ne (tgt := 48) hx hb d_MD_about_38 (by decide) (fun c_5 => ?_) (fun c_5 => ?_)
          · skip
            refine lv_iload_n hx hb d_MD_about_48 rfl (lv_at hl 1 rfl) ?_
            refine lv_iconst (v := 2) hx hb d_MD_about_49 (by decide) ?_
            refine lv_icmp_ne (tgt := 60) hx hb d_MD_about_50 (by decide) (fun c_6 => ?_) (fun c_6 => ?_)
            · skip
              refine lv_iload_n hx hb d_MD_about_60 rfl (lv_at hl 1 rfl) ?_
              refine lv_iconst (v := 3) hx hb d_MD_about_61 (by decide) ?_
              refine lv_icmp_ne (tgt := 72) hx hb d_MD_about_62 (by decide) (fun c_7 => ?_) (fun c_7 => ?_)
              · skip
                refine lv_aload_n hx hb d_MD_about_72 rfl (lv_at hl 0 rfl) ?_
                refine va_get (D := (dC, dI)) (ci := 7) (v := .int (nI pg)) (C := R_MD) (T := T_MD) (N := 28) hx hb hts i_MD hown hK hP 0 rfl rfl 15 (by decide) (hts _ wd_407) (fun _ h9 => h9) rfl d_MD_about_73 ?_
                exact xreti (v := nI pg) hx hb hr hlocks hK hP hD hS (rfl) (by rw [mabO, if_neg (show ¬ (x < 0 ∨ ¬ x ≤ 4) from fun h9 => h9.elim c_1 (fun h9 => h9 c_2)), if_neg c_3, if_neg c_4, if_neg c_5, if_neg c_6, if_neg c_7]) d_MD_about_76
              · skip
                refine lv_aload_n hx hb d_MD_about_65 rfl (lv_at hl 0 rfl) ?_
                refine va_get (D := (dC, dI)) (ci := 7) (v := .int (nI yg)) (C := R_MD) (T := T_MD) (N := 28) hx hb hts i_MD hown hK hP 0 rfl rfl 19 (by decide) (hts _ wd_411) (fun _ h9 => h9) rfl d_MD_about_66 ?_
                refine lv_goto (tgt := 76) hx hb d_MD_about_69 (by decide) ?_
                exact xreti (v := nI yg) hx hb hr hlocks hK hP hD hS (rfl) (by rw [mabO, if_neg (show ¬ (x < 0 ∨ ¬ x ≤ 4) from fun h9 => h9.elim c_1 (fun h9 => h9 c_2)), if_neg c_3, if_neg c_4, if_neg c_5, if_neg c_6, if_pos c_7]) d_MD_about_76
            · skip
              refine lv_aload_n hx hb d_MD_about_53 rfl (lv_at hl 0 rfl) ?_
              refine va_get (D := (dC, dI)) (ci := 7) (v := .int (nI yt)) (C := R_MD) (T := T_MD) (N := 28) hx hb hts i_MD hown hK hP 0 rfl rfl 18 (by decide) (hts _ wd_410) (fun _ h9 => h9) rfl d_MD_about_54 ?_
              refine lv_goto (tgt := 76) hx hb d_MD_about_57 (by decide) ?_
              exact xreti (v := nI yt) hx hb hr hlocks hK hP hD hS (rfl) (by rw [mabO, if_neg (show ¬ (x < 0 ∨ ¬ x ≤ 4) from fun h9 => h9.elim c_1 (fun h9 => h9 c_2)), if_neg c_3, if_neg c_4, if_neg c_5, if_pos c_6]) d_MD_about_76
          · skip
            refine lv_aload_n hx hb d_MD_about_41 rfl (lv_at hl 0 rfl) ?_
            refine va_get (D := (dC, dI)) (ci := 7) (v := .int ys) (C := R_MD) (T := T_MD) (N := 28) hx hb hts i_MD hown hK hP 0 rfl rfl 17 (by decide) (hts _ wd_409) (fun _ h9 => h9) rfl d_MD_about_42 ?_
            refine lv_goto (tgt := 76) hx hb d_MD_about_45 (by decide) ?_
            exact xreti (v := ys) hx hb hr hlocks hK hP hD hS (rfl) (by rw [mabO, if_neg (show ¬ (x < 0 ∨ ¬ x ≤ 4) from fun h9 => h9.elim c_1 (fun h9 => h9 c_2)), if_neg c_3, if_neg c_4, if_pos c_5]) d_MD_about_76
        · skip
          refine lv_aload_n hx hb d_MD_about_29 rfl (lv_at hl 0 rfl) ?_
          refine va_get (D := (dC, dI)) (ci := 7) (v := .int ye) (C := R_MD) (T := T_MD) (N := 28) hx hb hts i_MD hown hK hP 0 rfl rfl 16 (by decide) (hts _ wd_408) (fun _ h9 => h9) rfl d_MD_about_30 ?_
          refine lv_goto (tgt := 76) hx hb d_MD_about_33 (by decide) ?_
          exact xreti (v := ye) hx hb hr hlocks hK hP hD hS (rfl) (by rw [mabO, if_neg (show ¬ (x < 0 ∨ ¬ x ≤ 4) from fun h9 => h9.elim c_1 (fun h9 => h9 c_2)), if_neg c_3, if_pos c_4]) d_MD_about_76
      · skip
        have c_3 : pg = 0 := (nI_eq (a := pg) (b := 0) (by omega) (by omega)).mp c_3
        refine lv_iconst (v := 0) hx hb d_MD_about_23 (by decide) ?_
        exact xreti (v := 0) hx hb hr hlocks hK hP hD hS (rfl) (by rw [mabO, if_neg (show ¬ (x < 0 ∨ ¬ x ≤ 4) from fun h9 => h9.elim c_1 (fun h9 => h9 c_2)), if_pos c_3]) d_MD_about_24
    · skip
      refine lv_iconst (v := (-1)) hx hb d_MD_about_14 (by decide) ?_
      exact xreti (v := (-1)) hx hb hr hlocks hK hP hD hS (rfl) (by rw [mabO, if_pos (Or.inr c_2)]) d_MD_about_15
set_option maxHeartbeats 4000000 in
set_option maxRecDepth 100000 in
theorem m_laid0 (l : Launch) (dC : Nat → ClassId) (dI : Nat → Nat → Nat) (bd : Nat → Nat) (cm : Nat → ClassId) (th : Int32) (n : Nat) (fr : Nat → Int32) (a : Nat) (z : Nat → Nat) (le : Nat → Int32) (wy : Int32) (fo : Nat) (en : Nat) (fF : Nat → Nat) (fA : Nat → Nat) (fB : Nat → Nat) (fS : Nat → Nat) (fW : Nat → Int32) (sk : Nat → Int32) (pg : Nat) (ye : Int32) (ys : Int32) (yt : Nat) (yg : Nat) (yp : Nat) (tk : Nat → Int32) (gF : Nat → Nat) (gA : Nat → Nat) (gB : Nat → Nat) (gS : Nat → Nat) (gW : Nat → Int32) (yk : Nat → Int32) (E P : Nat) (hE : 8192 ≤ E) (hE2 : E ≤ 1073741824) (hsp : spOf z a = nI P) (hP4 : P + 4 * (a + 1) ≤ tpN z a) (hLe : sb_Fit le) (ha : a ≤ 32) (hz : ∀ j, z j ≤ 127) (sz : Nat) : Met l y_MD_laid w_MD_laid { frames := 0, cells := 0, slots := 0, locals := 0 } (va_Pc [.ref (bd 0), .int (nI E)] (xP (dC, dI) (tyM cm) (wsM bd cm th n fr a z le wy fo en fF fA fB fS fW sk pg ye ys yt yg yp tk gF gA gB gS gW yk) sz)) (xQi (dC, dI) (tyM cm) (va_A (wsM bd cm th n fr a z le wy fo en fF fA fB fS fW sk pg ye ys yt yg yp tk gF gA gB gS gW yk) sz) (wsM bd cm th n fr a z le wy fo en fF fA fB fS fW (mkT (zf 4096 sk) le z P E a) pg ye ys yt yg yp tk gF gA gB gS gW yk) (fun r => r = nI (E - 4096 + P))) 0 0 (va_A (wsM bd cm th n fr a z le wy fo en fF fA fB fS fW sk pg ye ys yt yg yp tk gF gA gB gS gW yk) sz) := by
  refine xof (cc := b_MD_laid) (maxL := 6) (ret := (some .int)) (own := R_MD) (Qc := fun A => (xQi (dC, dI) (tyM cm) A (wsM bd cm th n fr a z le wy fo en fF fA fB fS fW (mkT (zf 4096 sk) le z P E a) pg ye ys yt yg yp tk gF gA gB gS gW yk) (fun r => r = nI (E - 4096 + P)))) (by decide) rfl rfl (Nat.le_of_ble_eq_true rfl) ?_ sz
  intro p e s m below meth c A C hnm hK hP hD hA hN hZ hS ls hl
  obtain ⟨hx, hb, hr, hml, hown, hts, hlocks⟩ := C
  have hl : lv_has ls 6 [(0, .ref (bd 0)), (1, .int (nI E))] := hl
  refine lv_iconst (v := 0) hx hb d_MD_laid_0 (by decide) ?_
  refine lv_istore_n (lv' := [(2, .int 0), (0, .ref (bd 0)), (1, .int (nI E))]) hx hb d_MD_laid_1 rfl hl (by decide) rfl (fun ls hl => ?_)
  have lp2 : ∀ (fu2 : Nat) (t : Nat), (4096 - t < fu2) → (t ≤ 4096) → ∀ (H : Heap) (locs : List Loc), va_P (dC, dI) vwCl (wsM bd cm th n fr a z le wy fo en fF fA fB fS fW (zf t sk) pg ye ys yt yg yp tk gF gA gB gS gW yk) H → va_D A (wsM bd cm th n fr a z le wy fo en fF fA fB fS fW (zf t sk) pg ye ys yt yg yp tk gF gA gB gS gW yk) → va_S A s.heap H locs → ∀ ls : Array Slot, lv_has ls 6 [(0, .ref (bd 0)), (1, .int (nI E)), (2, .int (nI t))] → W p l e { frames := 0, cells := 0, slots := 0, locals := 0 } s m [.ref (bd 0), .int (nI E)].toArray below meth c H locs 0 0 (MQ below (xQi (dC, dI) (tyM cm) A (wsM bd cm th n fr a z le wy fo en fF fA fB fS fW (mkT (zf 4096 sk) le z P E a) pg ye ys yt yg yp tk gF gA gB gS gW yk) (fun r => r = nI (E - 4096 + P))) [.ref (bd 0), .int (nI E)].toArray s 0 0 A) (F0 m 2 ls []) := by
    intro fu2
    induction fu2 with
    | zero => intro t hfu2; exact absurd hfu2 (Nat.not_lt_zero _)
    | succ fu2 ih2 =>
      intro t hfu2 ht H locs hP hD hS ls hl
      refine lv_iload_n hx hb d_MD_laid_2 rfl (lv_at hl 2 rfl) ?_
      refine lv_sipush (v := 4096) hx hb d_MD_laid_3 (by decide) ?_
      refine lv_icmp_ge (tgt := 22) hx hb d_MD_laid_6 (by decide) (fun c_1 => ?_) (fun c_1 => ?_)
      · skip
        have c_1 : 4096 ≤ t := (nI_leI (a := 4096) (b := t) (by omega) (by omega)).mp c_1
        have e9 : t = 4096 := by omega
        rw [e9] at hP hD
        refine lv_sipush (v := 4096) hx hb d_MD_laid_22 (by decide) ?_
        refine lv_istore_n (lv' := [(2, .int 4096), (0, .ref (bd 0)), (1, .int (nI E))]) hx hb d_MD_laid_25 rfl hl (by decide) rfl (fun ls hl => ?_)
        refine lv_iconst (v := 0) hx hb d_MD_laid_26 (by decide) ?_
        refine lv_istore_n (lv' := [(3, .int 0), (2, .int 4096), (0, .ref (bd 0)), (1, .int (nI E))]) hx hb d_MD_laid_27 rfl hl (by decide) rfl (fun ls hl => ?_)
        have lp28 : ∀ (fu28 : Nat) (k : Nat), (a - k < fu28) → (k ≤ a) → ∀ (H : Heap) (locs : List Loc), va_P (dC, dI) vwCl (wsM bd cm th n fr a z le wy fo en fF fA fB fS fW (zf 4096 sk) pg ye ys yt yg yp tk gF gA gB gS gW yk) H → va_D A (wsM bd cm th n fr a z le wy fo en fF fA fB fS fW (zf 4096 sk) pg ye ys yt yg yp tk gF gA gB gS gW yk) → va_S A s.heap H locs → ∀ ls : Array Slot, lv_has ls 6 [(0, .ref (bd 0)), (1, .int (nI E)), (2, .int (nI (tpN z k))), (3, .int (nI k))] → W p l e { frames := 0, cells := 0, slots := 0, locals := 0 } s m [.ref (bd 0), .int (nI E)].toArray below meth c H locs 0 0 (MQ below (xQi (dC, dI) (tyM cm) A (wsM bd cm th n fr a z le wy fo en fF fA fB fS fW (mkT (zf 4096 sk) le z P E a) pg ye ys yt yg yp tk gF gA gB gS gW yk) (fun r => r = nI (E - 4096 + P))) [.ref (bd 0), .int (nI E)].toArray s 0 0 A) (F0 m 28 ls []) := by
          intro fu28
          induction fu28 with
          | zero => intro k hfu28; exact absurd hfu28 (Nat.not_lt_zero _)
          | succ fu28 ih28 =>
            intro k hfu28 hk H locs hP hD hS ls hl
            refine lv_iload_n hx hb d_MD_laid_28 rfl (lv_at hl 3 rfl) ?_
            refine lv_aload_n hx hb d_MD_laid_29 rfl (lv_at hl 0 rfl) ?_
            refine va_get (D := (dC, dI)) (ci := 7) (v := .int (nI a)) (C := R_MD) (T := T_MD) (N := 28) hx hb hts i_MD hown hK hP 0 rfl rfl 3 (by decide) (hts _ wd_395) (fun _ h9 => h9) rfl d_MD_laid_30 ?_
            refine lv_icmp_ge (tgt := 56) hx hb d_MD_laid_33 (by decide) (fun c_2 => ?_) (fun c_2 => ?_)
            · skip
              have c_2 : a ≤ k := (nI_leI (a := a) (b := k) (by omega) (by omega)).mp c_2
              have e8 : k = a := by omega
              rw [e8] at hl
              refine lv_iload_n hx hb d_MD_laid_56 rfl (lv_at hl 2 rfl) ?_
              refine lv_iconst (v := 4) hx hb d_MD_laid_57 (by decide) ?_
              refine lv_aload_n hx hb d_MD_laid_58 rfl (lv_at hl 0 rfl) ?_
              refine va_get (D := (dC, dI)) (ci := 7) (v := .int (nI a)) (C := R_MD) (T := T_MD) (N := 28) hx hb hts i_MD hown hK hP 0 rfl rfl 3 (by decide) (hts _ wd_395) (fun _ h9 => h9) rfl d_MD_laid_59 ?_
              refine lv_iconst (v := 1) hx hb d_MD_laid_62 (by decide) ?_
              refine lv_iadd hx hb d_MD_laid_63 ?_
              refine xtopi (y := nI (a + 1)) (nI_add (a) (1)) ?_
              refine lv_imul hx hb d_MD_laid_64 ?_
              refine xtopi (y := nI (4 * (a + 1))) (pk_mul (4) (a + 1)) ?_
              refine lv_isub hx hb d_MD_laid_65 ?_
              refine lv_bipush (v := (-16)) hx hb d_MD_laid_66 (by decide) ?_
              refine lv_iand hx hb d_MD_laid_68 ?_
              refine xtopi (y := spOf z a) (rfl) ?_
              refine lv_istore_n (lv' := [(3, .int (spOf z a)), (0, .ref (bd 0)), (1, .int (nI E)), (2, .int (nI (tpN z a)))]) hx hb d_MD_laid_69 rfl hl (by decide) rfl (fun ls hl => ?_)
              refine lv_iload_n hx hb d_MD_laid_70 rfl (lv_at hl 0 rfl) ?_
              refine lv_if_ge (tgt := 76) hx hb d_MD_laid_71 (by decide) (fun c_3 => ?_) (fun c_3 => ?_)
              · skip
                rw [hsp] at hl
                refine lv_sipush (v := 4096) hx hb d_MD_laid_76 (by decide) ?_
                refine lv_istore_n (lv' := [(2, .int 4096), (3, .int (nI P)), (0, .ref (bd 0)), (1, .int (nI E))]) hx hb d_MD_laid_79 rfl hl (by decide) rfl (fun ls hl => ?_)
                refine lv_iconst (v := 0) hx hb d_MD_laid_80 (by decide) ?_
                refine lv_istore (lv' := [(4, .int 0), (2, .int 4096), (3, .int (nI P)), (0, .ref (bd 0)), (1, .int (nI E))]) hx hb d_MD_laid_81 hl (by decide) rfl (fun ls hl => ?_)
                have lp83 : ∀ (fu83 : Nat) (q : Nat), (a - q < fu83) → (q ≤ a) → ∀ (H : Heap) (locs : List Loc), va_P (dC, dI) vwCl (wsM bd cm th n fr a z le wy fo en fF fA fB fS fW (mkT (zf 4096 sk) le z P E q) pg ye ys yt yg yp tk gF gA gB gS gW yk) H → va_D A (wsM bd cm th n fr a z le wy fo en fF fA fB fS fW (mkT (zf 4096 sk) le z P E q) pg ye ys yt yg yp tk gF gA gB gS gW yk) → va_S A s.heap H locs → ∀ ls : Array Slot, lv_has ls 6 [(0, .ref (bd 0)), (1, .int (nI E)), (2, .int (nI (tpN z q))), (3, .int (nI P)), (4, .int (nI q))] → W p l e { frames := 0, cells := 0, slots := 0, locals := 0 } s m [.ref (bd 0), .int (nI E)].toArray below meth c H locs 0 0 (MQ below (xQi (dC, dI) (tyM cm) A (wsM bd cm th n fr a z le wy fo en fF fA fB fS fW (mkT (zf 4096 sk) le z P E a) pg ye ys yt yg yp tk gF gA gB gS gW yk) (fun r => r = nI (E - 4096 + P))) [.ref (bd 0), .int (nI E)].toArray s 0 0 A) (F0 m 83 ls []) := by
                  intro fu83
                  induction fu83 with
                  | zero => intro q hfu83; exact absurd hfu83 (Nat.not_lt_zero _)
                  | succ fu83 ih83 =>
                    intro q hfu83 hq H locs hP hD hS ls hl
                    refine lv_iload hx hb d_MD_laid_83 (lv_at hl 4 rfl) ?_
                    refine lv_aload_n hx hb d_MD_laid_85 rfl (lv_at hl 0 rfl) ?_
                    refine va_get (D := (dC, dI)) (ci := 7) (v := .int (nI a)) (C := R_MD) (T := T_MD) (N := 28) hx hb hts i_MD hown hK hP 0 rfl rfl 3 (by decide) (hts _ wd_395) (fun _ h9 => h9) rfl d_MD_laid_86 ?_
                    refine lv_icmp_ge (tgt := 200) hx hb d_MD_laid_89 (by decide) (fun c_4 => ?_) (fun c_4 => ?_)
                    · skip
                      have c_4 : a ≤ q := (nI_leI (a := a) (b := q) (by omega) (by omega)).mp c_4
                      have e9 : q = a := by omega
                      refine lv_iload_n hx hb d_MD_laid_200 rfl (lv_at hl 1 rfl) ?_
                      refine lv_sipush (v := 4096) hx hb d_MD_laid_201 (by decide) ?_
                      refine lv_isub hx hb d_MD_laid_204 ?_
                      refine xtopi (y := nI (E - 4096)) (pk_sub (a := E) (b := 4096) (by omega)) ?_
                      refine lv_iload_n hx hb d_MD_laid_205 rfl (lv_at hl 3 rfl) ?_
                      refine lv_iadd hx hb d_MD_laid_206 ?_
                      refine xtopi (y := nI ((E - 4096) + P)) (nI_add (E - 4096) (P)) ?_
                      have hw9 : wsM bd cm th n fr a z le wy fo en fF fA fB fS fW (mkT (zf 4096 sk) le z P E q) pg ye ys yt yg yp tk gF gA gB gS gW yk = wsM bd cm th n fr a z le wy fo en fF fA fB fS fW (mkT (zf 4096 sk) le z P E a) pg ye ys yt yg yp tk gF gA gB gS gW yk := by rw [e9]
                      rw [hw9] at hP hD
                      exact xreti (v := nI ((E - 4096) + P)) hx hb hr hlocks hK hP hD hS (rfl) (rfl) d_MD_laid_207
                    · skip
                      have c_4 : ¬ (a ≤ q) := fun h9 => c_4 ((nI_leI (a := a) (b := q) (by omega) (by omega)).mpr h9)
                      have htp := tpN_ge hz q; have hzi := hz q; have htl := tpN_le z q; have htn : tpN z (q + 1) = (tpN z q - z q - 1) / 4 * 4 := rfl; have hta := tpN_le z a
                      refine lv_iload_n hx hb d_MD_laid_92 rfl (lv_at hl 2 rfl) ?_
                      refine lv_aload_n hx hb d_MD_laid_93 rfl (lv_at hl 0 rfl) ?_
                      refine va_get (D := (dC, dI)) (ci := 7) (v := .ref (bd 2)) (C := R_MD) (T := T_MD) (N := 28) hx hb hts i_MD hown hK hP 0 rfl rfl 4 (by decide) (hts _ wd_396) (fun _ h9 => h9) rfl d_MD_laid_94 ?_
                      refine lv_iload hx hb d_MD_laid_97 (lv_at hl 4 rfl) ?_
                      refine xiald (k := q) hx hb hK hP 2 1 rfl rfl (rfl) (by omega) (by decide) d_MD_laid_99 ?_
                      refine lv_isub hx hb d_MD_laid_100 ?_
                      refine xtopi (y := nI ((tpN z q) - (z q))) (pk_sub (a := tpN z q) (b := z q) (by omega)) ?_
                      refine lv_iconst (v := 1) hx hb d_MD_laid_101 (by decide) ?_
                      refine lv_isub hx hb d_MD_laid_102 ?_
                      refine xtopi (y := nI (((tpN z q) - (z q)) - 1)) (pk_sub (a := (tpN z q) - (z q)) (b := 1) (by omega)) ?_
                      refine lv_bipush (v := (-4)) hx hb d_MD_laid_103 (by decide) ?_
                      refine lv_iand hx hb d_MD_laid_105 ?_
                      refine xtopi (y := nI (tpN z (q + 1))) (p_and4 (by omega)) ?_
                      refine lv_istore_n (lv' := [(2, .int (nI (tpN z (q + 1)))), (0, .ref (bd 0)), (1, .int (nI E)), (3, .int (nI P)), (4, .int (nI q))]) hx hb d_MD_laid_106 rfl hl (by decide) rfl (fun ls hl => ?_)
                      refine lv_iconst (v := 0) hx hb d_MD_laid_107 (by decide) ?_
                      refine lv_istore (lv' := [(5, .int 0), (2, .int (nI (tpN z (q + 1)))), (0, .ref (bd 0)), (1, .int (nI E)), (3, .int (nI P)), (4, .int (nI q))]) hx hb d_MD_laid_108 hl (by decide) rfl (fun ls hl => ?_)
                      have lp110 : ∀ (fu110 : Nat) (j : Nat), (z q - j < fu110) → (j ≤ z q) → ∀ (H : Heap) (locs : List Loc), va_P (dC, dI) vwCl (wsM bd cm th n fr a z le wy fo en fF fA fB fS fW (lcp (mkT (zf 4096 sk) le z P E q) le (128 * q) (tpN z (q + 1)) j) pg ye ys yt yg yp tk gF gA gB gS gW yk) H → va_D A (wsM bd cm th n fr a z le wy fo en fF fA fB fS fW (lcp (mkT (zf 4096 sk) le z P E q) le (128 * q) (tpN z (q + 1)) j) pg ye ys yt yg yp tk gF gA gB gS gW yk) → va_S A s.heap H locs → ∀ ls : Array Slot, lv_has ls 6 [(0, .ref (bd 0)), (1, .int (nI E)), (2, .int (nI (tpN z (q + 1)))), (3, .int (nI P)), (4, .int (nI q)), (5, .int (nI j))] → W p l e { frames := 0, cells := 0, slots := 0, locals := 0 } s m [.ref (bd 0), .int (nI E)].toArray below meth c H locs 0 0 (MQ below (xQi (dC, dI) (tyM cm) A (wsM bd cm th n fr a z le wy fo en fF fA fB fS fW (mkT (zf 4096 sk) le z P E a) pg ye ys yt yg yp tk gF gA gB gS gW yk) (fun r => r = nI (E - 4096 + P))) [.ref (bd 0), .int (nI E)].toArray s 0 0 A) (F0 m 110 ls []) := by
                        intro fu110
                        induction fu110 with
                        | zero => intro j hfu110; exact absurd hfu110 (Nat.not_lt_zero _)
                        | succ fu110 ih110 =>
                          intro j hfu110 hj H locs hP hD hS ls hl
                          refine lv_iload hx hb d_MD_laid_110 (lv_at hl 5 rfl) ?_
                          refine lv_aload_n hx hb d_MD_laid_112 rfl (lv_at hl 0 rfl) ?_
                          refine va_get (D := (dC, dI)) (ci := 7) (v := .ref (bd 2)) (C := R_MD) (T := T_MD) (N := 28) hx hb hts i_MD hown hK hP 0 rfl rfl 4 (by decide) (hts _ wd_396) (fun _ h9 => h9) rfl d_MD_laid_113 ?_
                          refine lv_iload hx hb d_MD_laid_116 (lv_at hl 4 rfl) ?_
                          refine xiald (k := q) hx hb hK hP 2 1 rfl rfl (rfl) (by omega) (by decide) d_MD_laid_118 ?_
                          refine lv_icmp_ge (tgt := 151) hx hb d_MD_laid_119 (by decide) (fun c_5 => ?_) (fun c_5 => ?_)
                          · skip
                            have c_5 : z q ≤ j := (nI_leI (a := z q) (b := j) (by omega) (by omega)).mp c_5
                            have e7 : j = z q := by omega
                            rw [e7] at hP hD
                            refine lv_iconst (v := 0) hx hb d_MD_laid_151 (by decide) ?_
                            refine lv_istore (lv' := [(5, .int 0), (0, .ref (bd 0)), (1, .int (nI E)), (2, .int (nI (tpN z (q + 1)))), (3, .int (nI P)), (4, .int (nI q))]) hx hb d_MD_laid_152 hl (by decide) rfl (fun ls hl => ?_)
                            refine lv_iload hx hb d_MD_laid_154 (lv_at hl 0 rfl) ?_
                            refine lv_iconst (v := 4) hx hb d_MD_laid_156 (by decide) ?_
                            refine lv_icmp_ge (tgt := 194) hx hb d_MD_laid_157 (by decide) (fun c_6 => ?_) (fun c_6 => ?_)
                            · exact absurd c_6 (by decide)
                            · skip
                              refine lv_aload_n hx hb d_MD_laid_160 rfl (lv_at hl 1 rfl) ?_
                              refine va_get (D := (dC, dI)) (ci := 7) (v := .ref (bd 9)) (C := R_MD) (T := T_MD) (N := 28) hx hb hts i_MD hown hK hP 0 rfl rfl 14 (by decide) (hts _ wd_406) (fun _ h9 => h9) rfl d_MD_laid_161 ?_
                              refine lv_iload_n hx hb d_MD_laid_164 rfl (lv_at hl 4 rfl) ?_
                              refine lv_iconst (v := 4) hx hb d_MD_laid_165 (by decide) ?_
                              refine lv_iload hx hb d_MD_laid_166 (lv_at hl 5 rfl) ?_
                              refine lv_imul hx hb d_MD_laid_168 ?_
                              refine xtopi (y := nI (4 * q)) (pk_mul (4) (q)) ?_
                              refine lv_iadd hx hb d_MD_laid_169 ?_
                              refine xtopi (y := nI (P + (4 * q))) (nI_add (P) (4 * q)) ?_
                              refine lv_iload hx hb d_MD_laid_170 (lv_at hl 0 rfl) ?_
                              refine lv_iadd hx hb d_MD_laid_172 ?_
                              refine xtopi (y := nI ((P + (4 * q)) + 0)) (nI_add (P + (4 * q)) (0)) ?_
                              refine lv_iload_n hx hb d_MD_laid_173 rfl (lv_at hl 2 rfl) ?_
                              refine lv_sipush (v := 4096) hx hb d_MD_laid_174 (by decide) ?_
                              refine lv_isub hx hb d_MD_laid_177 ?_
                              refine xtopi (y := nI (E - 4096)) (pk_sub (a := E) (b := 4096) (by omega)) ?_
                              refine lv_iload_n hx hb d_MD_laid_178 rfl (lv_at hl 3 rfl) ?_
                              refine lv_iadd hx hb d_MD_laid_179 ?_
                              refine xtopi (y := nI ((E - 4096) + (tpN z (q + 1)))) (nI_add (E - 4096) (tpN z (q + 1))) ?_
                              refine lv_bipush (v := 8) hx hb d_MD_laid_180 (by decide) ?_
                              refine lv_iload hx hb d_MD_laid_182 (lv_at hl 0 rfl) ?_
                              refine lv_imul hx hb d_MD_laid_184 ?_
                              refine lv_ishr hx hb d_MD_laid_185 ?_
                              refine lv_i2b hx hb d_MD_laid_186 rfl ?_
                              refine xbast (k := (P + (4 * q)) + 0) (x' := ((nI ((E - 4096) + (tpN z (q + 1)))) >>> ((8 * 0 : Int32) &&& 31)).toInt8.toInt32) (ws1 := wsM bd cm th n fr a z le wy fo en fF fA fB fS fW (upd (lcp (mkT (zf 4096 sk) le z P E q) le (128 * q) (tpN z (q + 1)) (z q)) ((P + (4 * q)) + 0) (((nI ((E - 4096) + (tpN z (q + 1)))) >>> ((8 * 0 : Int32) &&& 31)).toInt8.toInt32)) pg ye ys yt yg yp tk gF gA gB gS gW yk) hx hb hK hP hD hS 9 0 rfl rfl (rfl) (by omega) (by decide) (pk_vb _) rfl d_MD_laid_187 (fun H locs hP hD hS => ?_)
                              refine lv_iinc (v := 1) (lv' := [(5, .int 1), (0, .ref (bd 0)), (1, .int (nI E)), (2, .int (nI (tpN z (q + 1)))), (3, .int (nI P)), (4, .int (nI q))]) hx hb d_MD_laid_188 hl (k := 0) rfl rfl (by decide) rfl (fun ls hl => ?_)
                              refine lv_goto (tgt := 154) hx hb d_MD_laid_191 (by decide) ?_
                              refine lv_iload hx hb d_MD_laid_154 (lv_at hl 0 rfl) ?_
                              refine lv_iconst (v := 4) hx hb d_MD_laid_156 (by decide) ?_
                              refine lv_icmp_ge (tgt := 194) hx hb d_MD_laid_157 (by decide) (fun c_7 => ?_) (fun c_7 => ?_)
                              · exact absurd c_7 (by decide)
                              · skip
                                refine lv_aload_n hx hb d_MD_laid_160 rfl (lv_at hl 1 rfl) ?_
                                refine va_get (D := (dC, dI)) (ci := 7) (v := .ref (bd 9)) (C := R_MD) (T := T_MD) (N := 28) hx hb hts i_MD hown hK hP 0 rfl rfl 14 (by decide) (hts _ wd_406) (fun _ h9 => h9) rfl d_MD_laid_161 ?_
                                refine lv_iload_n hx hb d_MD_laid_164 rfl (lv_at hl 4 rfl) ?_
                                refine lv_iconst (v := 4) hx hb d_MD_laid_165 (by decide) ?_
                                refine lv_iload hx hb d_MD_laid_166 (lv_at hl 5 rfl) ?_
                                refine lv_imul hx hb d_MD_laid_168 ?_
                                refine xtopi (y := nI (4 * q)) (pk_mul (4) (q)) ?_
                                refine lv_iadd hx hb d_MD_laid_169 ?_
                                refine xtopi (y := nI (P + (4 * q))) (nI_add (P) (4 * q)) ?_
                                refine lv_iload hx hb d_MD_laid_170 (lv_at hl 0 rfl) ?_
                                refine lv_iadd hx hb d_MD_laid_172 ?_
                                refine xtopi (y := nI ((P + (4 * q)) + 1)) (nI_add (P + (4 * q)) (1)) ?_
                                refine lv_iload_n hx hb d_MD_laid_173 rfl (lv_at hl 2 rfl) ?_
                                refine lv_sipush (v := 4096) hx hb d_MD_laid_174 (by decide) ?_
                                refine lv_isub hx hb d_MD_laid_177 ?_
                                refine xtopi (y := nI (E - 4096)) (pk_sub (a := E) (b := 4096) (by omega)) ?_
                                refine lv_iload_n hx hb d_MD_laid_178 rfl (lv_at hl 3 rfl) ?_
                                refine lv_iadd hx hb d_MD_laid_179 ?_
                                refine xtopi (y := nI ((E - 4096) + (tpN z (q + 1)))) (nI_add (E - 4096) (tpN z (q + 1))) ?_
                                refine lv_bipush (v := 8) hx hb d_MD_laid_180 (by decide) ?_
                                refine lv_iload hx hb d_MD_laid_182 (lv_at hl 0 rfl) ?_
                                refine lv_imul hx hb d_MD_laid_184 ?_
                                refine lv_ishr hx hb d_MD_laid_185 ?_
                                refine lv_i2b hx hb d_MD_laid_186 rfl ?_
                                refine xbast (k := (P + (4 * q)) + 1) (x' := ((nI ((E - 4096) + (tpN z (q + 1)))) >>> ((8 * 1 : Int32) &&& 31)).toInt8.toInt32) (ws1 := wsM bd cm th n fr a z le wy fo en fF fA fB fS fW (upd (upd (lcp (mkT (zf 4096 sk) le z P E q) le (128 * q) (tpN z (q + 1)) (z q)) ((P + (4 * q)) + 0) (((nI ((E - 4096) + (tpN z (q + 1)))) >>> ((8 * 0 : Int32) &&& 31)).toInt8.toInt32)) ((P + (4 * q)) + 1) (((nI ((E - 4096) + (tpN z (q + 1)))) >>> ((8 * 1 : Int32) &&& 31)).toInt8.toInt32)) pg ye ys yt yg yp tk gF gA gB gS gW yk) hx hb hK hP hD hS 9 0 rfl rfl (rfl) (by omega) (by decide) (pk_vb _) rfl d_MD_laid_187 (fun H locs hP hD hS => ?_)
                                refine lv_iinc (v := 2) (lv' := [(5, .int 2), (0, .ref (bd 0)), (1, .int (nI E)), (2, .int (nI (tpN z (q + 1)))), (3, .int (nI P)), (4, .int (nI q))]) hx hb d_MD_laid_188 hl (k := 0) rfl rfl (by decide) rfl (fun ls hl => ?_)
                                refine lv_goto (tgt := 154) hx hb d_MD_laid_191 (by decide) ?_
                                refine lv_iload hx hb d_MD_laid_154 (lv_at hl 0 rfl) ?_
                                refine lv_iconst (v := 4) hx hb d_MD_laid_156 (by decide) ?_
                                refine lv_icmp_ge (tgt := 194) hx hb d_MD_laid_157 (by decide) (fun c_8 => ?_) (fun c_8 => ?_)
                                · exact absurd c_8 (by decide)
                                · skip
                                  refine lv_aload_n hx hb d_MD_laid_160 rfl (lv_at hl 1 rfl) ?_
                                  refine va_get (D := (dC, dI)) (ci := 7) (v := .ref (bd 9)) (C := R_MD) (T := T_MD) (N := 28) hx hb hts i_MD hown hK hP 0 rfl rfl 14 (by decide) (hts _ wd_406) (fun _ h9 => h9) rfl d_MD_laid_161 ?_
                                  refine lv_iload_n hx hb d_MD_laid_164 rfl (lv_at hl 4 rfl) ?_
                                  refine lv_iconst (v := 4) hx hb d_MD_laid_165 (by decide) ?_
                                  refine lv_iload hx hb d_MD_laid_166 (lv_at hl 5 rfl) ?_
                                  refine lv_imul hx hb d_MD_laid_168 ?_
                                  refine xtopi (y := nI (4 * q)) (pk_mul (4) (q)) ?_
                                  refine lv_iadd hx hb d_MD_laid_169 ?_
                                  refine xtopi (y := nI (P + (4 * q))) (nI_add (P) (4 * q)) ?_
                                  refine lv_iload hx hb d_MD_laid_170 (lv_at hl 0 rfl) ?_
                                  refine lv_iadd hx hb d_MD_laid_172 ?_
                                  refine xtopi (y := nI ((P + (4 * q)) + 2)) (nI_add (P + (4 * q)) (2)) ?_
                                  refine lv_iload_n hx hb d_MD_laid_173 rfl (lv_at hl 2 rfl) ?_
                                  refine lv_sipush (v := 4096) hx hb d_MD_laid_174 (by decide) ?_
                                  refine lv_isub hx hb d_MD_laid_177 ?_
                                  refine xtopi (y := nI (E - 4096)) (pk_sub (a := E) (b := 4096) (by omega)) ?_
                                  refine lv_iload_n hx hb d_MD_laid_178 rfl (lv_at hl 3 rfl) ?_
                                  refine lv_iadd hx hb d_MD_laid_179 ?_
                                  refine xtopi (y := nI ((E - 4096) + (tpN z (q + 1)))) (nI_add (E - 4096) (tpN z (q + 1))) ?_
                                  refine lv_bipush (v := 8) hx hb d_MD_laid_180 (by decide) ?_
                                  refine lv_iload hx hb d_MD_laid_182 (lv_at hl 0 rfl) ?_
                                  refine lv_imul hx hb d_MD_laid_184 ?_
                                  refine lv_ishr hx hb d_MD_laid_185 ?_
                                  refine lv_i2b hx hb d_MD_laid_186 rfl ?_
                                  refine xbast (k := (P + (4 * q)) + 2) (x' := ((nI ((E - 4096) + (tpN z (q + 1)))) >>> ((8 * 2 : Int32) &&& 31)).toInt8.toInt32) (ws1 := wsM bd cm th n fr a z le wy fo en fF fA fB fS fW (upd (upd (upd (lcp (mkT (zf 4096 sk) le z P E q) le (128 * q) (tpN z (q + 1)) (z q)) ((P + (4 * q)) + 0) (((nI ((E - 4096) + (tpN z (q + 1)))) >>> ((8 * 0 : Int32) &&& 31)).toInt8.toInt32)) ((P + (4 * q)) + 1) (((nI ((E - 4096) + (tpN z (q + 1)))) >>> ((8 * 1 : Int32) &&& 31)).toInt8.toInt32)) ((P + (4 * q)) + 2) (((nI ((E - 4096) + (tpN z (q + 1)))) >>> ((8 * 2 : Int32) &&& 31)).toInt8.toInt32)) pg ye ys yt yg yp tk gF gA gB gS gW yk) hx hb hK hP hD hS 9 0 rfl rfl (rfl) (by omega) (by decide) (pk_vb _) rfl d_MD_laid_187 (fun H locs hP hD hS => ?_)
                                  refine lv_iinc (v := 3) (lv' := [(5, .int 3), (0, .ref (bd 0)), (1, .int (nI E)), (2, .int (nI (tpN z (q + 1)))), (3, .int (nI P)), (4, .int (nI q))]) hx hb d_MD_laid_188 hl (k := 0) rfl rfl (by decide) rfl (fun ls hl => ?_)
                                  refine lv_goto (tgt := 154) hx hb d_MD_laid_191 (by decide) ?_
                                  refine lv_iload hx hb d_MD_laid_154 (lv_at hl 0 rfl) ?_
                                  refine lv_iconst (v := 4) hx hb d_MD_laid_156 (by decide) ?_
                                  refine lv_icmp_ge (tgt := 194) hx hb d_MD_laid_157 (by decide) (fun c_9 => ?_) (fun c_9 => ?_)
                                  · exact absurd c_9 (by decide)
                                  · skip
                                    refine lv_aload_n hx hb d_MD_laid_160 rfl (lv_at hl 1 rfl) ?_
                                    refine va_get (D := (dC, dI)) (ci := 7) (v := .ref (bd 9)) (C := R_MD) (T := T_MD) (N := 28) hx hb hts i_MD hown hK hP 0 rfl rfl 14 (by decide) (hts _ wd_406) (fun _ h9 => h9) rfl d_MD_laid_161 ?_
                                    refine lv_iload_n hx hb d_MD_laid_164 rfl (lv_at hl 4 rfl) ?_
                                    refine lv_iconst (v := 4) hx hb d_MD_laid_165 (by decide) ?_
                                    refine lv_iload hx hb d_MD_laid_166 (lv_at hl 5 rfl) ?_
                                    refine lv_imul hx hb d_MD_laid_168 ?_
                                    refine xtopi (y := nI (4 * q)) (pk_mul (4) (q)) ?_
                                    refine lv_iadd hx hb d_MD_laid_169 ?_
                                    refine xtopi (y := nI (P + (4 * q))) (nI_add (P) (4 * q)) ?_
                                    refine lv_iload hx hb d_MD_laid_170 (lv_at hl 0 rfl) ?_
                                    refine lv_iadd hx hb d_MD_laid_172 ?_
                                    refine xtopi (y := nI ((P + (4 * q)) + 3)) (nI_add (P + (4 * q)) (3)) ?_
                                    refine lv_iload_n hx hb d_MD_laid_173 rfl (lv_at hl 2 rfl) ?_
                                    refine lv_sipush (v := 4096) hx hb d_MD_laid_174 (by decide) ?_
                                    refine lv_isub hx hb d_MD_laid_177 ?_
                                    refine xtopi (y := nI (E - 4096)) (pk_sub (a := E) (b := 4096) (by omega)) ?_
                                    refine lv_iload_n hx hb d_MD_laid_178 rfl (lv_at hl 3 rfl) ?_
                                    refine lv_iadd hx hb d_MD_laid_179 ?_
                                    refine xtopi (y := nI ((E - 4096) + (tpN z (q + 1)))) (nI_add (E - 4096) (tpN z (q + 1))) ?_
                                    refine lv_bipush (v := 8) hx hb d_MD_laid_180 (by decide) ?_
                                    refine lv_iload hx hb d_MD_laid_182 (lv_at hl 0 rfl) ?_
                                    refine lv_imul hx hb d_MD_laid_184 ?_
                                    refine lv_ishr hx hb d_MD_laid_185 ?_
                                    refine lv_i2b hx hb d_MD_laid_186 rfl ?_
                                    refine xbast (k := (P + (4 * q)) + 3) (x' := ((nI ((E - 4096) + (tpN z (q + 1)))) >>> ((8 * 3 : Int32) &&& 31)).toInt8.toInt32) (ws1 := wsM bd cm th n fr a z le wy fo en fF fA fB fS fW (upd (upd (upd (upd (lcp (mkT (zf 4096 sk) le z P E q) le (128 * q) (tpN z (q + 1)) (z q)) ((P + (4 * q)) + 0) (((nI ((E - 4096) + (tpN z (q + 1)))) >>> ((8 * 0 : Int32) &&& 31)).toInt8.toInt32)) ((P + (4 * q)) + 1) (((nI ((E - 4096) + (tpN z (q + 1)))) >>> ((8 * 1 : Int32) &&& 31)).toInt8.toInt32)) ((P + (4 * q)) + 2) (((nI ((E - 4096) + (tpN z (q + 1)))) >>> ((8 * 2 : Int32) &&& 31)).toInt8.toInt32)) ((P + (4 * q)) + 3) (((nI ((E - 4096) + (tpN z (q + 1)))) >>> ((8 * 3 : Int32) &&& 31)).toInt8.toInt32)) pg ye ys yt yg yp tk gF gA gB gS gW yk) hx hb hK hP hD hS 9 0 rfl rfl (rfl) (by omega) (by decide) (pk_vb _) rfl d_MD_laid_187 (fun H locs hP hD hS => ?_)
                                    refine lv_iinc (v := 4) (lv' := [(5, .int 4), (0, .ref (bd 0)), (1, .int (nI E)), (2, .int (nI (tpN z (q + 1)))), (3, .int (nI P)), (4, .int (nI q))]) hx hb d_MD_laid_188 hl (k := 0) rfl rfl (by decide) rfl (fun ls hl => ?_)
                                    refine lv_goto (tgt := 154) hx hb d_MD_laid_191 (by decide) ?_
                                    refine lv_iload hx hb d_MD_laid_154 (lv_at hl 0 rfl) ?_
                                    refine lv_iconst (v := 4) hx hb d_MD_laid_156 (by decide) ?_
                                    refine lv_icmp_ge (tgt := 194) hx hb d_MD_laid_157 (by decide) (fun c_10 => ?_) (fun c_10 => ?_)
                                    · skip
                                      refine lv_iinc (v := nI (q + 1)) (lv' := [(4, .int (nI (q + 1))), (5, .int 4), (0, .ref (bd 0)), (1, .int (nI E)), (2, .int (nI (tpN z (q + 1)))), (3, .int (nI P))]) hx hb d_MD_laid_194 hl (k := 5) rfl (nI_1 _) (by decide) rfl (fun ls hl => ?_)
                                      refine lv_goto (tgt := 83) hx hb d_MD_laid_197 (by decide) ?_
                                      have hw9 : wsM bd cm th n fr a z le wy fo en fF fA fB fS fW (upd (upd (upd (upd (lcp (mkT (zf 4096 sk) le z P E q) le (128 * q) (tpN z (q + 1)) (z q)) ((P + (4 * q)) + 0) (((nI ((E - 4096) + (tpN z (q + 1)))) >>> ((8 * 0 : Int32) &&& 31)).toInt8.toInt32)) ((P + (4 * q)) + 1) (((nI ((E - 4096) + (tpN z (q + 1)))) >>> ((8 * 1 : Int32) &&& 31)).toInt8.toInt32)) ((P + (4 * q)) + 2) (((nI ((E - 4096) + (tpN z (q + 1)))) >>> ((8 * 2 : Int32) &&& 31)).toInt8.toInt32)) ((P + (4 * q)) + 3) (((nI ((E - 4096) + (tpN z (q + 1)))) >>> ((8 * 3 : Int32) &&& 31)).toInt8.toInt32)) pg ye ys yt yg yp tk gF gA gB gS gW yk = wsM bd cm th n fr a z le wy fo en fF fA fB fS fW (mkT (zf 4096 sk) le z P E (q + 1)) pg ye ys yt yg yp tk gF gA gB gS gW yk := rfl
                                      rw [hw9] at hP hD
                                      exact ih83 (q + 1) (by omega) (by omega) _ _ hP hD hS _ (lv_sub hl [2, 3, 4, 5, 0] rfl)
                                    · exact absurd c_10 (by decide)
                          · skip
                            have c_5 : ¬ (z q ≤ j) := fun h9 => c_5 ((nI_leI (a := z q) (b := j) (by omega) (by omega)).mpr h9)
                            refine lv_aload_n hx hb d_MD_laid_122 rfl (lv_at hl 0 rfl) ?_
                            refine va_get (D := (dC, dI)) (ci := 7) (v := .ref (bd 9)) (C := R_MD) (T := T_MD) (N := 28) hx hb hts i_MD hown hK hP 0 rfl rfl 14 (by decide) (hts _ wd_406) (fun _ h9 => h9) rfl d_MD_laid_123 ?_
                            refine lv_iload_n hx hb d_MD_laid_126 rfl (lv_at hl 2 rfl) ?_
                            refine lv_iload hx hb d_MD_laid_127 (lv_at hl 5 rfl) ?_
                            refine lv_iadd hx hb d_MD_laid_129 ?_
                            refine xtopi (y := nI ((tpN z (q + 1)) + j)) (nI_add (tpN z (q + 1)) (j)) ?_
                            refine lv_aload_n hx hb d_MD_laid_130 rfl (lv_at hl 0 rfl) ?_
                            refine va_get (D := (dC, dI)) (ci := 7) (v := .ref (bd 3)) (C := R_MD) (T := T_MD) (N := 28) hx hb hts i_MD hown hK hP 0 rfl rfl 5 (by decide) (hts _ wd_397) (fun _ h9 => h9) rfl d_MD_laid_131 ?_
                            refine lv_sipush (v := 128) hx hb d_MD_laid_134 (by decide) ?_
                            refine lv_iload hx hb d_MD_laid_137 (lv_at hl 4 rfl) ?_
                            refine lv_imul hx hb d_MD_laid_139 ?_
                            refine xtopi (y := nI (128 * q)) (pk_mul (128) (q)) ?_
                            refine lv_iload hx hb d_MD_laid_140 (lv_at hl 5 rfl) ?_
                            refine lv_iadd hx hb d_MD_laid_142 ?_
                            refine xtopi (y := nI ((128 * q) + j)) (nI_add (128 * q) (j)) ?_
                            refine xbald (k := (128 * q) + j) hx hb hK hP 3 0 rfl rfl (rfl) (by omega) (by decide) d_MD_laid_143 ?_
                            refine xbast (k := (tpN z (q + 1)) + j) (x' := le ((128 * q) + j)) (ws1 := wsM bd cm th n fr a z le wy fo en fF fA fB fS fW (upd (lcp (mkT (zf 4096 sk) le z P E q) le (128 * q) (tpN z (q + 1)) j) ((tpN z (q + 1)) + j) (le ((128 * q) + j))) pg ye ys yt yg yp tk gF gA gB gS gW yk) hx hb hK hP hD hS 9 0 rfl rfl (rfl) (by omega) (by decide) (fitnar (hLe _)) rfl d_MD_laid_144 (fun H locs hP hD hS => ?_)
                            refine lv_iinc (v := nI (j + 1)) (lv' := [(5, .int (nI (j + 1))), (0, .ref (bd 0)), (1, .int (nI E)), (2, .int (nI (tpN z (q + 1)))), (3, .int (nI P)), (4, .int (nI q))]) hx hb d_MD_laid_145 hl (k := 5) rfl (nI_1 _) (by decide) rfl (fun ls hl => ?_)
                            refine lv_goto (tgt := 110) hx hb d_MD_laid_148 (by decide) ?_
                            exact ih110 (j + 1) (by omega) (by omega) _ _ hP hD hS _ (lv_sub hl [1, 2, 3, 4, 5, 0] rfl)
                      exact lp110 ((z q - 0) + 1) 0 (Nat.lt_succ_self _) (by omega) _ _ hP hD hS _ (lv_sub hl [2, 3, 1, 4, 5, 0] rfl)
                exact lp83 ((a - 0) + 1) 0 (Nat.lt_succ_self _) (by omega) _ _ hP hD hS _ (lv_sub hl [3, 4, 1, 2, 0] rfl)
              · skip
                exact absurd (by rw [hsp]; exact nI_pos' (by have := tpN_le z a; omega)) c_3
            · skip
              have c_2 : ¬ (a ≤ k) := fun h9 => c_2 ((nI_leI (a := a) (b := k) (by omega) (by omega)).mpr h9)
              have htp := tpN_ge hz k; have hzi := hz k; have htl := tpN_le z k; have htn : tpN z (k + 1) = (tpN z k - z k - 1) / 4 * 4 := rfl; have hta := tpN_le z a
              refine lv_iload_n hx hb d_MD_laid_36 rfl (lv_at hl 2 rfl) ?_
              refine lv_aload_n hx hb d_MD_laid_37 rfl (lv_at hl 0 rfl) ?_
              refine va_get (D := (dC, dI)) (ci := 7) (v := .ref (bd 2)) (C := R_MD) (T := T_MD) (N := 28) hx hb hts i_MD hown hK hP 0 rfl rfl 4 (by decide) (hts _ wd_396) (fun _ h9 => h9) rfl d_MD_laid_38 ?_
              refine lv_iload_n hx hb d_MD_laid_41 rfl (lv_at hl 3 rfl) ?_
              refine xiald (k := k) hx hb hK hP 2 1 rfl rfl (rfl) (by omega) (by decide) d_MD_laid_42 ?_
              refine lv_isub hx hb d_MD_laid_43 ?_
              refine xtopi (y := nI ((tpN z k) - (z k))) (pk_sub (a := tpN z k) (b := z k) (by omega)) ?_
              refine lv_iconst (v := 1) hx hb d_MD_laid_44 (by decide) ?_
              refine lv_isub hx hb d_MD_laid_45 ?_
              refine xtopi (y := nI (((tpN z k) - (z k)) - 1)) (pk_sub (a := (tpN z k) - (z k)) (b := 1) (by omega)) ?_
              refine lv_bipush (v := (-4)) hx hb d_MD_laid_46 (by decide) ?_
              refine lv_iand hx hb d_MD_laid_48 ?_
              refine xtopi (y := nI (tpN z (k + 1))) (p_and4 (by omega)) ?_
              refine lv_istore_n (lv' := [(2, .int (nI (tpN z (k + 1)))), (0, .ref (bd 0)), (1, .int (nI E)), (3, .int (nI k))]) hx hb d_MD_laid_49 rfl hl (by decide) rfl (fun ls hl => ?_)
              refine lv_iinc (v := nI (k + 1)) (lv' := [(3, .int (nI (k + 1))), (2, .int (nI (tpN z (k + 1)))), (0, .ref (bd 0)), (1, .int (nI E))]) hx hb d_MD_laid_50 hl (k := 3) rfl (nI_1 _) (by decide) rfl (fun ls hl => ?_)
              refine lv_goto (tgt := 28) hx hb d_MD_laid_53 (by decide) ?_
              exact ih28 (k + 1) (by omega) (by omega) _ _ hP hD hS _ (lv_sub hl [2, 3, 1, 0] rfl)
        exact lp28 ((a - 0) + 1) 0 (Nat.lt_succ_self _) (by omega) _ _ hP hD hS _ (lv_sub hl [2, 3, 1, 0] rfl)
      · skip
        have c_1 : ¬ (4096 ≤ t) := fun h9 => c_1 ((nI_leI (a := 4096) (b := t) (by omega) (by omega)).mpr h9)
        refine lv_aload_n hx hb d_MD_laid_9 rfl (lv_at hl 0 rfl) ?_
        refine va_get (D := (dC, dI)) (ci := 7) (v := .ref (bd 9)) (C := R_MD) (T := T_MD) (N := 28) hx hb hts i_MD hown hK hP 0 rfl rfl 14 (by decide) (hts _ wd_406) (fun _ h9 => h9) rfl d_MD_laid_10 ?_
        refine lv_iload_n hx hb d_MD_laid_13 rfl (lv_at hl 2 rfl) ?_
        refine lv_iconst (v := 0) hx hb d_MD_laid_14 (by decide) ?_
        refine xbast (k := t) (x' := 0) (ws1 := wsM bd cm th n fr a z le wy fo en fF fA fB fS fW (upd (zf t sk) t 0) pg ye ys yt yg yp tk gF gA gB gS gW yk) hx hb hK hP hD hS 9 0 rfl rfl (rfl) (by omega) (by decide) (rfl) rfl d_MD_laid_15 (fun H locs hP hD hS => ?_)
        refine lv_iinc (v := nI (t + 1)) (lv' := [(2, .int (nI (t + 1))), (0, .ref (bd 0)), (1, .int (nI E))]) hx hb d_MD_laid_16 hl (k := 2) rfl (nI_1 _) (by decide) rfl (fun ls hl => ?_)
        refine lv_goto (tgt := 2) hx hb d_MD_laid_19 (by decide) ?_
        have hw9 : wsM bd cm th n fr a z le wy fo en fF fA fB fS fW (upd (zf t sk) t 0) pg ye ys yt yg yp tk gF gA gB gS gW yk = wsM bd cm th n fr a z le wy fo en fF fA fB fS fW (zf (t + 1) sk) pg ye ys yt yg yp tk gF gA gB gS gW yk := by rw [zf_step]
        rw [hw9] at hP hD
        exact ih2 (t + 1) (by omega) (by omega) _ _ hP hD hS _ (lv_sub hl [1, 2, 0] rfl)
  have e0 : zf 0 sk = sk := zf_0 sk
  have hP : va_P (dC, dI) vwCl (wsM bd cm th n fr a z le wy fo en fF fA fB fS fW (zf 0 sk) pg ye ys yt yg yp tk gF gA gB gS gW yk) s.heap := by rw [e0]; exact hP
  have hD : va_D A (wsM bd cm th n fr a z le wy fo en fF fA fB fS fW (zf 0 sk) pg ye ys yt yg yp tk gF gA gB gS gW yk) := by rw [e0]; exact hD
  exact lp2 ((4096 - 0) + 1) 0 (Nat.lt_succ_self _) (by omega) _ _ hP hD hS _ (lv_sub hl [1, 2, 0] rfl)
set_option maxHeartbeats 4000000 in
set_option maxRecDepth 100000 in
theorem m_laidX (l : Launch) (dC : Nat → ClassId) (dI : Nat → Nat → Nat) (bd : Nat → Nat) (cm : Nat → ClassId) (th : Int32) (n : Nat) (fr : Nat → Int32) (a : Nat) (z : Nat → Nat) (le : Nat → Int32) (wy : Int32) (fo : Nat) (en : Nat) (fF : Nat → Nat) (fA : Nat → Nat) (fB : Nat → Nat) (fS : Nat → Nat) (fW : Nat → Int32) (sk : Nat → Int32) (pg : Nat) (ye : Int32) (ys : Int32) (yt : Nat) (yg : Nat) (yp : Nat) (tk : Nat → Int32) (gF : Nat → Nat) (gA : Nat → Nat) (gB : Nat → Nat) (gS : Nat → Nat) (gW : Nat → Int32) (yk : Nat → Int32) (E : Nat) (hE : 8192 ≤ E) (hE2 : E ≤ 1073741824) (hneg : ¬ 0 ≤ spOf z a) (hLe : sb_Fit le) (ha : a ≤ 32) (hz : ∀ j, z j ≤ 127) (sz : Nat) : Met l y_MD_laid w_MD_laid { frames := 0, cells := 0, slots := 0, locals := 0 } (va_Pc [.ref (bd 0), .int (nI E)] (xP (dC, dI) (tyM cm) (wsM bd cm th n fr a z le wy fo en fF fA fB fS fW sk pg ye ys yt yg yp tk gF gA gB gS gW yk) sz)) (xQi (dC, dI) (tyM cm) (va_A (wsM bd cm th n fr a z le wy fo en fF fA fB fS fW sk pg ye ys yt yg yp tk gF gA gB gS gW yk) sz) (wsM bd cm th n fr a z le wy fo en fF fA fB fS fW (zf 4096 sk) pg ye ys yt yg yp tk gF gA gB gS gW yk) (fun r => r = -1)) 0 0 (va_A (wsM bd cm th n fr a z le wy fo en fF fA fB fS fW sk pg ye ys yt yg yp tk gF gA gB gS gW yk) sz) := by
  refine xof (cc := b_MD_laid) (maxL := 6) (ret := (some .int)) (own := R_MD) (Qc := fun A => (xQi (dC, dI) (tyM cm) A (wsM bd cm th n fr a z le wy fo en fF fA fB fS fW (zf 4096 sk) pg ye ys yt yg yp tk gF gA gB gS gW yk) (fun r => r = -1))) (by decide) rfl rfl (Nat.le_of_ble_eq_true rfl) ?_ sz
  intro p e s m below meth c A C hnm hK hP hD hA hN hZ hS ls hl
  obtain ⟨hx, hb, hr, hml, hown, hts, hlocks⟩ := C
  have hl : lv_has ls 6 [(0, .ref (bd 0)), (1, .int (nI E))] := hl
  refine lv_iconst (v := 0) hx hb d_MD_laid_0 (by decide) ?_
  refine lv_istore_n (lv' := [(2, .int 0), (0, .ref (bd 0)), (1, .int (nI E))]) hx hb d_MD_laid_1 rfl hl (by decide) rfl (fun ls hl => ?_)
  have lp2 : ∀ (fu2 : Nat) (t : Nat), (4096 - t < fu2) → (t ≤ 4096) → ∀ (H : Heap) (locs : List Loc), va_P (dC, dI) vwCl (wsM bd cm th n fr a z le wy fo en fF fA fB fS fW (zf t sk) pg ye ys yt yg yp tk gF gA gB gS gW yk) H → va_D A (wsM bd cm th n fr a z le wy fo en fF fA fB fS fW (zf t sk) pg ye ys yt yg yp tk gF gA gB gS gW yk) → va_S A s.heap H locs → ∀ ls : Array Slot, lv_has ls 6 [(0, .ref (bd 0)), (1, .int (nI E)), (2, .int (nI t))] → W p l e { frames := 0, cells := 0, slots := 0, locals := 0 } s m [.ref (bd 0), .int (nI E)].toArray below meth c H locs 0 0 (MQ below (xQi (dC, dI) (tyM cm) A (wsM bd cm th n fr a z le wy fo en fF fA fB fS fW (zf 4096 sk) pg ye ys yt yg yp tk gF gA gB gS gW yk) (fun r => r = -1)) [.ref (bd 0), .int (nI E)].toArray s 0 0 A) (F0 m 2 ls []) := by
    intro fu2
    induction fu2 with
    | zero => intro t hfu2; exact absurd hfu2 (Nat.not_lt_zero _)
    | succ fu2 ih2 =>
      intro t hfu2 ht H locs hP hD hS ls hl
      refine lv_iload_n hx hb d_MD_laid_2 rfl (lv_at hl 2 rfl) ?_
      refine lv_sipush (v := 4096) hx hb d_MD_laid_3 (by decide) ?_
      refine lv_icmp_ge (tgt := 22) hx hb d_MD_laid_6 (by decide) (fun c_1 => ?_) (fun c_1 => ?_)
      · skip
        have c_1 : 4096 ≤ t := (nI_leI (a := 4096) (b := t) (by omega) (by omega)).mp c_1
        have e9 : t = 4096 := by omega
        rw [e9] at hP hD
        refine lv_sipush (v := 4096) hx hb d_MD_laid_22 (by decide) ?_
        refine lv_istore_n (lv' := [(2, .int 4096), (0, .ref (bd 0)), (1, .int (nI E))]) hx hb d_MD_laid_25 rfl hl (by decide) rfl (fun ls hl => ?_)
        refine lv_iconst (v := 0) hx hb d_MD_laid_26 (by decide) ?_
        refine lv_istore_n (lv' := [(3, .int 0), (2, .int 4096), (0, .ref (bd 0)), (1, .int (nI E))]) hx hb d_MD_laid_27 rfl hl (by decide) rfl (fun ls hl => ?_)
        have lp28 : ∀ (fu28 : Nat) (k : Nat), (a - k < fu28) → (k ≤ a) → ∀ (H : Heap) (locs : List Loc), va_P (dC, dI) vwCl (wsM bd cm th n fr a z le wy fo en fF fA fB fS fW (zf 4096 sk) pg ye ys yt yg yp tk gF gA gB gS gW yk) H → va_D A (wsM bd cm th n fr a z le wy fo en fF fA fB fS fW (zf 4096 sk) pg ye ys yt yg yp tk gF gA gB gS gW yk) → va_S A s.heap H locs → ∀ ls : Array Slot, lv_has ls 6 [(0, .ref (bd 0)), (1, .int (nI E)), (2, .int (nI (tpN z k))), (3, .int (nI k))] → W p l e { frames := 0, cells := 0, slots := 0, locals := 0 } s m [.ref (bd 0), .int (nI E)].toArray below meth c H locs 0 0 (MQ below (xQi (dC, dI) (tyM cm) A (wsM bd cm th n fr a z le wy fo en fF fA fB fS fW (zf 4096 sk) pg ye ys yt yg yp tk gF gA gB gS gW yk) (fun r => r = -1)) [.ref (bd 0), .int (nI E)].toArray s 0 0 A) (F0 m 28 ls []) := by
          intro fu28
          induction fu28 with
          | zero => intro k hfu28; exact absurd hfu28 (Nat.not_lt_zero _)
          | succ fu28 ih28 =>
            intro k hfu28 hk H locs hP hD hS ls hl
            refine lv_iload_n hx hb d_MD_laid_28 rfl (lv_at hl 3 rfl) ?_
            refine lv_aload_n hx hb d_MD_laid_29 rfl (lv_at hl 0 rfl) ?_
            refine va_get (D := (dC, dI)) (ci := 7) (v := .int (nI a)) (C := R_MD) (T := T_MD) (N := 28) hx hb hts i_MD hown hK hP 0 rfl rfl 3 (by decide) (hts _ wd_395) (fun _ h9 => h9) rfl d_MD_laid_30 ?_
            refine lv_icmp_ge (tgt := 56) hx hb d_MD_laid_33 (by decide) (fun c_2 => ?_) (fun c_2 => ?_)
            · skip
              have c_2 : a ≤ k := (nI_leI (a := a) (b := k) (by omega) (by omega)).mp c_2
              have e8 : k = a := by omega
              rw [e8] at hl
              refine lv_iload_n hx hb d_MD_laid_56 rfl (lv_at hl 2 rfl) ?_
              refine lv_iconst (v := 4) hx hb d_MD_laid_57 (by decide) ?_
              refine lv_aload_n hx hb d_MD_laid_58 rfl (lv_at hl 0 rfl) ?_
              refine va_get (D := (dC, dI)) (ci := 7) (v := .int (nI a)) (C := R_MD) (T := T_MD) (N := 28) hx hb hts i_MD hown hK hP 0 rfl rfl 3 (by decide) (hts _ wd_395) (fun _ h9 => h9) rfl d_MD_laid_59 ?_
              refine lv_iconst (v := 1) hx hb d_MD_laid_62 (by decide) ?_
              refine lv_iadd hx hb d_MD_laid_63 ?_
              refine xtopi (y := nI (a + 1)) (nI_add (a) (1)) ?_
              refine lv_imul hx hb d_MD_laid_64 ?_
              refine xtopi (y := nI (4 * (a + 1))) (pk_mul (4) (a + 1)) ?_
              refine lv_isub hx hb d_MD_laid_65 ?_
              refine lv_bipush (v := (-16)) hx hb d_MD_laid_66 (by decide) ?_
              refine lv_iand hx hb d_MD_laid_68 ?_
              refine xtopi (y := spOf z a) (rfl) ?_
              refine lv_istore_n (lv' := [(3, .int (spOf z a)), (0, .ref (bd 0)), (1, .int (nI E)), (2, .int (nI (tpN z a)))]) hx hb d_MD_laid_69 rfl hl (by decide) rfl (fun ls hl => ?_)
              refine lv_iload_n hx hb d_MD_laid_70 rfl (lv_at hl 0 rfl) ?_
              refine lv_if_ge (tgt := 76) hx hb d_MD_laid_71 (by decide) (fun c_3 => ?_) (fun c_3 => ?_)
              · skip
                exact absurd c_3 hneg
              · skip
                refine lv_iconst (v := (-1)) hx hb d_MD_laid_74 (by decide) ?_
                exact xreti (v := (-1)) hx hb hr hlocks hK hP hD hS (rfl) (rfl) d_MD_laid_75
            · skip
              have c_2 : ¬ (a ≤ k) := fun h9 => c_2 ((nI_leI (a := a) (b := k) (by omega) (by omega)).mpr h9)
              have htp := tpN_ge hz k; have hzi := hz k; have htl := tpN_le z k; have htn : tpN z (k + 1) = (tpN z k - z k - 1) / 4 * 4 := rfl; have hta := tpN_le z a
              refine lv_iload_n hx hb d_MD_laid_36 rfl (lv_at hl 2 rfl) ?_
              refine lv_aload_n hx hb d_MD_laid_37 rfl (lv_at hl 0 rfl) ?_
              refine va_get (D := (dC, dI)) (ci := 7) (v := .ref (bd 2)) (C := R_MD) (T := T_MD) (N := 28) hx hb hts i_MD hown hK hP 0 rfl rfl 4 (by decide) (hts _ wd_396) (fun _ h9 => h9) rfl d_MD_laid_38 ?_
              refine lv_iload_n hx hb d_MD_laid_41 rfl (lv_at hl 3 rfl) ?_
              refine xiald (k := k) hx hb hK hP 2 1 rfl rfl (rfl) (by omega) (by decide) d_MD_laid_42 ?_
              refine lv_isub hx hb d_MD_laid_43 ?_
              refine xtopi (y := nI ((tpN z k) - (z k))) (pk_sub (a := tpN z k) (b := z k) (by omega)) ?_
              refine lv_iconst (v := 1) hx hb d_MD_laid_44 (by decide) ?_
              refine lv_isub hx hb d_MD_laid_45 ?_
              refine xtopi (y := nI (((tpN z k) - (z k)) - 1)) (pk_sub (a := (tpN z k) - (z k)) (b := 1) (by omega)) ?_
              refine lv_bipush (v := (-4)) hx hb d_MD_laid_46 (by decide) ?_
              refine lv_iand hx hb d_MD_laid_48 ?_
              refine xtopi (y := nI (tpN z (k + 1))) (p_and4 (by omega)) ?_
              refine lv_istore_n (lv' := [(2, .int (nI (tpN z (k + 1)))), (0, .ref (bd 0)), (1, .int (nI E)), (3, .int (nI k))]) hx hb d_MD_laid_49 rfl hl (by decide) rfl (fun ls hl => ?_)
              refine lv_iinc (v := nI (k + 1)) (lv' := [(3, .int (nI (k + 1))), (2, .int (nI (tpN z (k + 1)))), (0, .ref (bd 0)), (1, .int (nI E))]) hx hb d_MD_laid_50 hl (k := 3) rfl (nI_1 _) (by decide) rfl (fun ls hl => ?_)
              refine lv_goto (tgt := 28) hx hb d_MD_laid_53 (by decide) ?_
              exact ih28 (k + 1) (by omega) (by omega) _ _ hP hD hS _ (lv_sub hl [2, 3, 1, 0] rfl)
        exact lp28 ((a - 0) + 1) 0 (Nat.lt_succ_self _) (by omega) _ _ hP hD hS _ (lv_sub hl [2, 3, 1, 0] rfl)
      · skip
        have c_1 : ¬ (4096 ≤ t) := fun h9 => c_1 ((nI_leI (a := 4096) (b := t) (by omega) (by omega)).mpr h9)
        refine lv_aload_n hx hb d_MD_laid_9 rfl (lv_at hl 0 rfl) ?_
        refine va_get (D := (dC, dI)) (ci := 7) (v := .ref (bd 9)) (C := R_MD) (T := T_MD) (N := 28) hx hb hts i_MD hown hK hP 0 rfl rfl 14 (by decide) (hts _ wd_406) (fun _ h9 => h9) rfl d_MD_laid_10 ?_
        refine lv_iload_n hx hb d_MD_laid_13 rfl (lv_at hl 2 rfl) ?_
        refine lv_iconst (v := 0) hx hb d_MD_laid_14 (by decide) ?_
        refine xbast (k := t) (x' := 0) (ws1 := wsM bd cm th n fr a z le wy fo en fF fA fB fS fW (upd (zf t sk) t 0) pg ye ys yt yg yp tk gF gA gB gS gW yk) hx hb hK hP hD hS 9 0 rfl rfl (rfl) (by omega) (by decide) (rfl) rfl d_MD_laid_15 (fun H locs hP hD hS => ?_)
        refine lv_iinc (v := nI (t + 1)) (lv' := [(2, .int (nI (t + 1))), (0, .ref (bd 0)), (1, .int (nI E))]) hx hb d_MD_laid_16 hl (k := 2) rfl (nI_1 _) (by decide) rfl (fun ls hl => ?_)
        refine lv_goto (tgt := 2) hx hb d_MD_laid_19 (by decide) ?_
        have hw9 : wsM bd cm th n fr a z le wy fo en fF fA fB fS fW (upd (zf t sk) t 0) pg ye ys yt yg yp tk gF gA gB gS gW yk = wsM bd cm th n fr a z le wy fo en fF fA fB fS fW (zf (t + 1) sk) pg ye ys yt yg yp tk gF gA gB gS gW yk := by rw [zf_step]
        rw [hw9] at hP hD
        exact ih2 (t + 1) (by omega) (by omega) _ _ hP hD hS _ (lv_sub hl [1, 2, 0] rfl)
  have e0 : zf 0 sk = sk := zf_0 sk
  have hP : va_P (dC, dI) vwCl (wsM bd cm th n fr a z le wy fo en fF fA fB fS fW (zf 0 sk) pg ye ys yt yg yp tk gF gA gB gS gW yk) s.heap := by rw [e0]; exact hP
  have hD : va_D A (wsM bd cm th n fr a z le wy fo en fF fA fB fS fW (zf 0 sk) pg ye ys yt yg yp tk gF gA gB gS gW yk) := by rw [e0]; exact hD
  exact lp2 ((4096 - 0) + 1) 0 (Nat.lt_succ_self _) (by omega) _ _ hP hD hS _ (lv_sub hl [1, 2, 0] rfl)
set_option maxHeartbeats 4000000 in
set_option maxRecDepth 100000 in
theorem m_part (l : Launch) (dC : Nat → ClassId) (dI : Nat → Nat → Nat) (bd : Nat → Nat) (cm : Nat → ClassId) (th : Int32) (n : Nat) (fr : Nat → Int32) (a : Nat) (z : Nat → Nat) (le : Nat → Int32) (wy : Int32) (fo : Nat) (en : Nat) (fF : Nat → Nat) (fA : Nat → Nat) (fB : Nat → Nat) (fS : Nat → Nat) (fW : Nat → Int32) (sk : Nat → Int32) (pg : Nat) (ye : Int32) (ys : Int32) (yt : Nat) (yg : Nat) (yp : Nat) (tk : Nat → Int32) (gF : Nat → Nat) (gA : Nat → Nat) (gB : Nat → Nat) (gS : Nat → Nat) (gW : Nat → Int32) (yk : Nat → Int32) (x : Int32) (hyp : yp ≤ 8) (hgs : ∀ k, k < yp → gA k + gS k ≤ 1073733632) (sz : Nat) : Met l y_MD_part w_MD_part { frames := 1, cells := 0, slots := 0, locals := 30 } (va_Pc [.ref (bd 0), .int x] (xP (dC, dI) (tyM cm) (wsM bd cm th n fr a z le wy fo en fF fA fB fS fW sk pg ye ys yt yg yp tk gF gA gB gS gW yk) sz)) (xQi (dC, dI) (tyM cm) (va_A (wsM bd cm th n fr a z le wy fo en fF fA fB fS fW sk pg ye ys yt yg yp tk gF gA gB gS gW yk) sz) (wsM bd cm th n fr a z le wy fo en fF fA fB fS fW sk pg ye ys yt yg yp tk gF gA gB gS gW yk) (fun r => r = psI gA gS x yp)) 0 0 (va_A (wsM bd cm th n fr a z le wy fo en fF fA fB fS fW sk pg ye ys yt yg yp tk gF gA gB gS gW yk) sz) := by
  refine xof (cc := b_MD_part) (maxL := 4) (ret := (some .int)) (own := R_MD) (Qc := fun A => (xQi (dC, dI) (tyM cm) A (wsM bd cm th n fr a z le wy fo en fF fA fB fS fW sk pg ye ys yt yg yp tk gF gA gB gS gW yk) (fun r => r = psI gA gS x yp))) (by decide) rfl rfl (Nat.le_of_ble_eq_true rfl) ?_ sz
  intro p e s m below meth c A C hnm hK hP hD hA hN hZ hS ls hl
  obtain ⟨hx, hb, hr, hml, hown, hts, hlocks⟩ := C
  have hl : lv_has ls 4 [(0, .ref (bd 0)), (1, .int x)] := hl
  refine lv_iconst (v := (-1)) hx hb d_MD_part_0 (by decide) ?_
  refine lv_istore_n (lv' := [(2, .int (-1)), (0, .ref (bd 0)), (1, .int x)]) hx hb d_MD_part_1 rfl hl (by decide) rfl (fun ls hl => ?_)
  refine lv_iconst (v := 0) hx hb d_MD_part_2 (by decide) ?_
  refine lv_istore_n (lv' := [(3, .int 0), (2, .int (-1)), (0, .ref (bd 0)), (1, .int x)]) hx hb d_MD_part_3 rfl hl (by decide) rfl (fun ls hl => ?_)
  have lp4 : ∀ (fu4 : Nat) (k : Nat), (yp - k < fu4) → (k ≤ yp) → ∀ (H : Heap) (locs : List Loc), va_P (dC, dI) vwCl (wsM bd cm th n fr a z le wy fo en fF fA fB fS fW sk pg ye ys yt yg yp tk gF gA gB gS gW yk) H → va_D A (wsM bd cm th n fr a z le wy fo en fF fA fB fS fW sk pg ye ys yt yg yp tk gF gA gB gS gW yk) → va_S A s.heap H locs → ∀ ls : Array Slot, lv_has ls 4 [(0, .ref (bd 0)), (1, .int x), (2, .int (psI gA gS x k)), (3, .int (nI k))] → W p l e { frames := 1, cells := 0, slots := 0, locals := 30 } s m [.ref (bd 0), .int x].toArray below meth c H locs 0 0 (MQ below (xQi (dC, dI) (tyM cm) A (wsM bd cm th n fr a z le wy fo en fF fA fB fS fW sk pg ye ys yt yg yp tk gF gA gB gS gW yk) (fun r => r = psI gA gS x yp)) [.ref (bd 0), .int x].toArray s 0 0 A) (F0 m 4 ls []) := by
    intro fu4
    induction fu4 with
    | zero => intro k hfu4; exact absurd hfu4 (Nat.not_lt_zero _)
    | succ fu4 ih4 =>
      intro k hfu4 hk H locs hP hD hS ls hl
      refine lv_iload_n hx hb d_MD_part_4 rfl (lv_at hl 3 rfl) ?_
      refine lv_aload_n hx hb d_MD_part_5 rfl (lv_at hl 0 rfl) ?_
      refine va_get (D := (dC, dI)) (ci := 7) (v := .int (nI yp)) (C := R_MD) (T := T_MD) (N := 28) hx hb hts i_MD hown hK hP 0 rfl rfl 20 (by decide) (hts _ wd_412) (fun _ h9 => h9) rfl d_MD_part_6 ?_
      refine lv_icmp_ge (tgt := 58) hx hb d_MD_part_9 (by decide) (fun c_1 => ?_) (fun c_1 => ?_)
      · skip
        have c_1 : yp ≤ k := (nI_leI (a := yp) (b := k) (by omega) (by omega)).mp c_1
        have e8 : k = yp := by omega
        refine lv_iload_n hx hb d_MD_part_58 rfl (lv_at hl 2 rfl) ?_
        exact xreti (v := psI gA gS x k) hx hb hr hlocks hK hP hD hS (rfl) (by rw [e8]) d_MD_part_59
      · skip
        have c_1 : ¬ (yp ≤ k) := fun h9 => c_1 ((nI_leI (a := yp) (b := k) (by omega) (by omega)).mpr h9)
        have hs := hgs k (by omega)
        refine lv_iload_n hx hb d_MD_part_12 rfl (lv_at hl 1 rfl) ?_
        refine lv_aload_n hx hb d_MD_part_13 rfl (lv_at hl 0 rfl) ?_
        refine va_get (D := (dC, dI)) (ci := 7) (v := .ref (bd 12)) (C := R_MD) (T := T_MD) (N := 28) hx hb hts i_MD hown hK hP 0 rfl rfl 23 (by decide) (hts _ wd_415) (fun _ h9 => h9) rfl d_MD_part_14 ?_
        refine lv_iload_n hx hb d_MD_part_17 rfl (lv_at hl 3 rfl) ?_
        refine xiald (k := k) hx hb hK hP 12 1 rfl rfl (rfl) (by omega) (by decide) d_MD_part_18 ?_
        refine lv_icmp_lt (tgt := 50) hx hb d_MD_part_19 (by decide) (fun c_2 => ?_) (fun c_2 => ?_)
        · skip
          have c_2 := (p_ltI (x := x) (A := gA k) (by omega)).mp c_2
          refine lv_iload_n hx hb d_MD_part_50 rfl (lv_at hl 2 rfl) ?_
          refine lv_istore_n (lv' := [(2, .int (psI gA gS x k)), (0, .ref (bd 0)), (1, .int x), (3, .int (nI k))]) hx hb d_MD_part_51 rfl hl (by decide) rfl (fun ls hl => ?_)
          refine lv_iinc (v := nI (k + 1)) (lv' := [(3, .int (nI (k + 1))), (2, .int (psI gA gS x k)), (0, .ref (bd 0)), (1, .int x)]) hx hb d_MD_part_52 hl (k := 3) rfl (nI_1 _) (by decide) rfl (fun ls hl => ?_)
          refine lv_goto (tgt := 4) hx hb d_MD_part_55 (by decide) ?_
          have hno : ¬ inP gA gS x k := fun h9 => absurd h9.1 (by omega)
          have e9 : psI gA gS x k = psI gA gS x (k + 1) := by rw [psI, if_neg hno]
          rw [e9] at hl
          exact ih4 (k + 1) (by omega) (by omega) _ _ hP hD hS _ (lv_sub hl [2, 3, 1, 0] rfl)
        · skip
          have c_2 := mt (p_ltI (x := x) (A := gA k) (by omega)).mpr c_2
          refine lv_iload_n hx hb d_MD_part_22 rfl (lv_at hl 1 rfl) ?_
          refine lv_i2l hx hb d_MD_part_23 rfl ?_
          refine lv_aload_n hx hb d_MD_part_24 rfl (lv_at hl 0 rfl) ?_
          refine va_get (D := (dC, dI)) (ci := 7) (v := .ref (bd 12)) (C := R_MD) (T := T_MD) (N := 28) hx hb hts i_MD hown hK hP 0 rfl rfl 23 (by decide) (hts _ wd_415) (fun _ h9 => h9) rfl d_MD_part_25 ?_
          refine lv_iload_n hx hb d_MD_part_28 rfl (lv_at hl 3 rfl) ?_
          refine xiald (k := k) hx hb hK hP 12 1 rfl rfl (rfl) (by omega) (by decide) d_MD_part_29 ?_
          refine lv_i2l hx hb d_MD_part_30 rfl ?_
          refine xtopl (y := lN (gA k)) (nI_l (n := gA k) (by omega)) ?_
          refine lv_aload_n hx hb d_MD_part_31 rfl (lv_at hl 0 rfl) ?_
          refine va_get (D := (dC, dI)) (ci := 7) (v := .ref (bd 14)) (C := R_MD) (T := T_MD) (N := 28) hx hb hts i_MD hown hK hP 0 rfl rfl 25 (by decide) (hts _ wd_417) (fun _ h9 => h9) rfl d_MD_part_32 ?_
          refine lv_iload_n hx hb d_MD_part_35 rfl (lv_at hl 3 rfl) ?_
          refine xiald (k := k) hx hb hK hP 14 1 rfl rfl (rfl) (by omega) (by decide) d_MD_part_36 ?_
          refine lv_i2l hx hb d_MD_part_37 rfl ?_
          refine xtopl (y := lN (gS k)) (nI_l (n := gS k) (by omega)) ?_
          refine lv_ladd hx hb d_MD_part_38 ?_
          refine xtopl (y := lN ((gA k) + (gS k))) (lN_add (gA k) (gS k)) ?_
          refine xcalll (va_runS (As := [.long (lN ((gA k) + (gS k)))]) (rest := [.long x.toInt64]) ⟨hx, hb, hml, hown, hts⟩ (m_up l dC dI bd cm th n fr a z le wy fo en fF fA fB fS fW sk pg ye ys yt yg yp tk gF gA gB gS gW yk ((gA k) + (gS k)) (by omega) H.size) (cwS 1 hts (xgS wd_553 wd_554 wd_22 wd_555) rfl rfl rfl (by decide +kernel) ⟨Nat.le_of_ble_eq_true rfl, Nat.le_of_ble_eq_true rfl⟩) (xpreS hK hN hZ hA hS hP hD) rfl rfl hl.1 rfl (lv_room (Nat.le_of_ble_eq_true rfl)) d_MD_part_39 ⟨Nat.zero_le _, Nat.zero_le _⟩) hD hS hA (fun r_3 H locs hr_3 hP hD hS => ?_)
          subst hr_3
          refine W.lcmp hx hb d_MD_part_42 ?_
          refine lv_if_ge (tgt := 50) hx hb d_MD_part_43 (by decide) (fun c_4 => ?_) (fun c_4 => ?_)
          · skip
            rw [lg_cmp_ge] at c_4
            have c_4 := (p_leL (x := x) (U := (gA k + gS k + 4095) / 4096 * 4096) (by omega)).mp c_4
            refine lv_iload_n hx hb d_MD_part_50 rfl (lv_at hl 2 rfl) ?_
            refine lv_istore_n (lv' := [(2, .int (psI gA gS x k)), (0, .ref (bd 0)), (1, .int x), (3, .int (nI k))]) hx hb d_MD_part_51 rfl hl (by decide) rfl (fun ls hl => ?_)
            refine lv_iinc (v := nI (k + 1)) (lv' := [(3, .int (nI (k + 1))), (2, .int (psI gA gS x k)), (0, .ref (bd 0)), (1, .int x)]) hx hb d_MD_part_52 hl (k := 3) rfl (nI_1 _) (by decide) rfl (fun ls hl => ?_)
            refine lv_goto (tgt := 4) hx hb d_MD_part_55 (by decide) ?_
            have hno : ¬ inP gA gS x k := fun h9 => absurd h9.2 (by omega)
            have e9 : psI gA gS x k = psI gA gS x (k + 1) := by rw [psI, if_neg hno]
            rw [e9] at hl
            exact ih4 (k + 1) (by omega) (by omega) _ _ hP hD hS _ (lv_sub hl [2, 3, 1, 0] rfl)
          · skip
            rw [lg_cmp_ge] at c_4
            have c_4 := mt (p_leL (x := x) (U := (gA k + gS k + 4095) / 4096 * 4096) (by omega)).mpr c_4
            refine lv_iload_n hx hb d_MD_part_46 rfl (lv_at hl 3 rfl) ?_
            refine lv_goto (tgt := 51) hx hb d_MD_part_47 (by decide) ?_
            refine lv_istore_n (lv' := [(2, .int (nI k)), (0, .ref (bd 0)), (1, .int x), (3, .int (nI k))]) hx hb d_MD_part_51 rfl hl (by decide) rfl (fun ls hl => ?_)
            refine lv_iinc (v := nI (k + 1)) (lv' := [(3, .int (nI (k + 1))), (2, .int (nI k)), (0, .ref (bd 0)), (1, .int x)]) hx hb d_MD_part_52 hl (k := 3) rfl (nI_1 _) (by decide) rfl (fun ls hl => ?_)
            refine lv_goto (tgt := 4) hx hb d_MD_part_55 (by decide) ?_
            have hyes : inP gA gS x k := ⟨by omega, by omega⟩
            have e9 : nI k = psI gA gS x (k + 1) := by rw [psI, if_pos hyes]
            rw [e9] at hl
            exact ih4 (k + 1) (by omega) (by omega) _ _ hP hD hS _ (lv_sub hl [2, 3, 1, 0] rfl)
  exact lp4 ((yp - 0) + 1) 0 (Nat.lt_succ_self _) (by omega) _ _ hP hD hS _ (lv_sub hl [2, 3, 1, 0] rfl)
set_option maxHeartbeats 4000000 in
set_option maxRecDepth 100000 in
theorem m_near (l : Launch) (dC : Nat → ClassId) (dI : Nat → Nat → Nat) (bd : Nat → Nat) (cm : Nat → ClassId) (th : Int32) (n : Nat) (fr : Nat → Int32) (a : Nat) (z : Nat → Nat) (le : Nat → Int32) (wy : Int32) (fo : Nat) (en : Nat) (fF : Nat → Nat) (fA : Nat → Nat) (fB : Nat → Nat) (fS : Nat → Nat) (fW : Nat → Int32) (sk : Nat → Int32) (pg : Nat) (ye : Int32) (ys : Int32) (yt : Nat) (yg : Nat) (yp : Nat) (tk : Nat → Int32) (gF : Nat → Nat) (gA : Nat → Nat) (gB : Nat → Nat) (gS : Nat → Nat) (gW : Nat → Int32) (yk : Nat → Int32) (x : Int32) (hpg : pg ≤ 32) (hyt : pg = 0 ∨ 8192 ≤ yt) (hyt2 : yt ≤ 1073741824) (sz : Nat) : Met l y_MD_near w_MD_near { frames := 0, cells := 0, slots := 0, locals := 0 } (va_Pc [.ref (bd 0), .int x] (xP (dC, dI) (tyM cm) (wsM bd cm th n fr a z le wy fo en fF fA fB fS fW sk pg ye ys yt yg yp tk gF gA gB gS gW yk) sz)) (xQi (dC, dI) (tyM cm) (va_A (wsM bd cm th n fr a z le wy fo en fF fA fB fS fW sk pg ye ys yt yg yp tk gF gA gB gS gW yk) sz) (wsM bd cm th n fr a z le wy fo en fF fA fB fS fW sk pg ye ys yt yg yp tk gF gA gB gS gW yk) (fun r => r = nI (nrO pg yt x))) 0 0 (va_A (wsM bd cm th n fr a z le wy fo en fF fA fB fS fW sk pg ye ys yt yg yp tk gF gA gB gS gW yk) sz) := by
  refine xof (cc := b_MD_near) (maxL := 2) (ret := (some .int)) (own := R_MD) (Qc := fun A => (xQi (dC, dI) (tyM cm) A (wsM bd cm th n fr a z le wy fo en fF fA fB fS fW sk pg ye ys yt yg yp tk gF gA gB gS gW yk) (fun r => r = nI (nrO pg yt x)))) (by decide) rfl rfl (Nat.le_of_ble_eq_true rfl) ?_ sz
  intro p e s m below meth c A C hnm hK hP hD hA hN hZ hS ls hl
  obtain ⟨hx, hb, hr, hml, hown, hts, hlocks⟩ := C
  have hl : lv_has ls 2 [(0, .ref (bd 0)), (1, .int x)] := hl
  refine lv_aload_n hx hb d_MD_near_0 rfl (lv_at hl 0 rfl) ?_
  refine va_get (D := (dC, dI)) (ci := 7) (v := .int (nI pg)) (C := R_MD) (T := T_MD) (N := 28) hx hb hts i_MD hown hK hP 0 rfl rfl 15 (by decide) (hts _ wd_407) (fun _ h9 => h9) rfl d_MD_near_1 ?_
  refine lv_if_ne (tgt := 11) hx hb d_MD_near_4 (by decide) (fun c_1 => ?_) (fun c_1 => ?_)
  · skip
    have c_1 : ¬ (pg = 0) := fun h9 => c_1 ((nI_eq (a := pg) (b := 0) (by omega) (by omega)).mpr h9)
    refine lv_iload_n hx hb d_MD_near_11 rfl (lv_at hl 1 rfl) ?_
    refine lv_aload_n hx hb d_MD_near_12 rfl (lv_at hl 0 rfl) ?_
    refine va_get (D := (dC, dI)) (ci := 7) (v := .int (nI yt)) (C := R_MD) (T := T_MD) (N := 28) hx hb hts i_MD hown hK hP 0 rfl rfl 18 (by decide) (hts _ wd_410) (fun _ h9 => h9) rfl d_MD_near_13 ?_
    refine lv_sipush (v := 4096) hx hb d_MD_near_16 (by decide) ?_
    refine lv_isub hx hb d_MD_near_19 ?_
    refine xtopi (y := nI (yt - 4096)) (pk_sub (a := yt) (b := 4096) (by omega)) ?_
    refine lv_icmp_lt (tgt := 35) hx hb d_MD_near_20 (by decide) (fun c_2 => ?_) (fun c_2 => ?_)
    · skip
      have c_2 := (p_ltI (x := x) (A := yt - 4096) (by omega)).mp c_2
      refine lv_iload_n hx hb d_MD_near_35 rfl (lv_at hl 1 rfl) ?_
      refine lv_aload_n hx hb d_MD_near_36 rfl (lv_at hl 0 rfl) ?_
      refine va_get (D := (dC, dI)) (ci := 7) (v := .int (nI yt)) (C := R_MD) (T := T_MD) (N := 28) hx hb hts i_MD hown hK hP 0 rfl rfl 18 (by decide) (hts _ wd_410) (fun _ h9 => h9) rfl d_MD_near_37 ?_
      refine lv_sipush (v := 8192) hx hb d_MD_near_40 (by decide) ?_
      refine lv_isub hx hb d_MD_near_43 ?_
      refine xtopi (y := nI (yt - 8192)) (pk_sub (a := yt) (b := 8192) (by omega)) ?_
      refine lv_icmp_lt (tgt := 63) hx hb d_MD_near_44 (by decide) (fun c_3 => ?_) (fun c_3 => ?_)
      · skip
        have c_3 := (p_ltI (x := x) (A := yt - 8192) (by omega)).mp c_3
        refine lv_iconst (v := 0) hx hb d_MD_near_63 (by decide) ?_
        exact xreti (v := 0) hx hb hr hlocks hK hP hD hS (rfl) (by rw [nrO, if_neg c_1, if_neg (by omega), if_neg (by omega)]; rfl) d_MD_near_64
      · skip
        have c_3 := mt (p_ltI (x := x) (A := yt - 8192) (by omega)).mpr c_3
        refine lv_iload_n hx hb d_MD_near_47 rfl (lv_at hl 1 rfl) ?_
        refine lv_aload_n hx hb d_MD_near_48 rfl (lv_at hl 0 rfl) ?_
        refine va_get (D := (dC, dI)) (ci := 7) (v := .int (nI yt)) (C := R_MD) (T := T_MD) (N := 28) hx hb hts i_MD hown hK hP 0 rfl rfl 18 (by decide) (hts _ wd_410) (fun _ h9 => h9) rfl d_MD_near_49 ?_
        refine lv_sipush (v := 4096) hx hb d_MD_near_52 (by decide) ?_
        refine lv_isub hx hb d_MD_near_55 ?_
        refine xtopi (y := nI (yt - 4096)) (pk_sub (a := yt) (b := 4096) (by omega)) ?_
        refine lv_icmp_ge (tgt := 63) hx hb d_MD_near_56 (by decide) (fun c_4 => ?_) (fun c_4 => ?_)
        · skip
          have c_4 := (p_leI (x := x) (A := yt - 4096) (by omega)).mp c_4
          refine lv_iconst (v := 0) hx hb d_MD_near_63 (by decide) ?_
          exact xreti (v := 0) hx hb hr hlocks hK hP hD hS (rfl) (by rw [nrO, if_neg c_1, if_neg (by omega), if_neg (by omega)]; rfl) d_MD_near_64
        · skip
          have c_4 := mt (p_leI (x := x) (A := yt - 4096) (by omega)).mpr c_4
          refine lv_iconst (v := 1) hx hb d_MD_near_59 (by decide) ?_
          refine lv_goto (tgt := 64) hx hb d_MD_near_60 (by decide) ?_
          exact xreti (v := 1) hx hb hr hlocks hK hP hD hS (rfl) (by rw [nrO, if_neg c_1, if_neg (by omega), if_pos (by omega)]; rfl) d_MD_near_64
    · skip
      have c_2 := mt (p_ltI (x := x) (A := yt - 4096) (by omega)).mpr c_2
      refine lv_iload_n hx hb d_MD_near_23 rfl (lv_at hl 1 rfl) ?_
      refine lv_aload_n hx hb d_MD_near_24 rfl (lv_at hl 0 rfl) ?_
      refine va_get (D := (dC, dI)) (ci := 7) (v := .int (nI yt)) (C := R_MD) (T := T_MD) (N := 28) hx hb hts i_MD hown hK hP 0 rfl rfl 18 (by decide) (hts _ wd_410) (fun _ h9 => h9) rfl d_MD_near_25 ?_
      refine lv_icmp_ge (tgt := 35) hx hb d_MD_near_28 (by decide) (fun c_5 => ?_) (fun c_5 => ?_)
      · skip
        have c_5 := (p_leI (x := x) (A := yt) (by omega)).mp c_5
        refine lv_iload_n hx hb d_MD_near_35 rfl (lv_at hl 1 rfl) ?_
        refine lv_aload_n hx hb d_MD_near_36 rfl (lv_at hl 0 rfl) ?_
        refine va_get (D := (dC, dI)) (ci := 7) (v := .int (nI yt)) (C := R_MD) (T := T_MD) (N := 28) hx hb hts i_MD hown hK hP 0 rfl rfl 18 (by decide) (hts _ wd_410) (fun _ h9 => h9) rfl d_MD_near_37 ?_
        refine lv_sipush (v := 8192) hx hb d_MD_near_40 (by decide) ?_
        refine lv_isub hx hb d_MD_near_43 ?_
        refine xtopi (y := nI (yt - 8192)) (pk_sub (a := yt) (b := 8192) (by omega)) ?_
        refine lv_icmp_lt (tgt := 63) hx hb d_MD_near_44 (by decide) (fun c_6 => ?_) (fun c_6 => ?_)
        · skip
          have c_6 := (p_ltI (x := x) (A := yt - 8192) (by omega)).mp c_6
          refine lv_iconst (v := 0) hx hb d_MD_near_63 (by decide) ?_
          exact xreti (v := 0) hx hb hr hlocks hK hP hD hS (rfl) (by rw [nrO, if_neg c_1, if_neg (by omega), if_neg (by omega)]; rfl) d_MD_near_64
        · skip
          have c_6 := mt (p_ltI (x := x) (A := yt - 8192) (by omega)).mpr c_6
          refine lv_iload_n hx hb d_MD_near_47 rfl (lv_at hl 1 rfl) ?_
          refine lv_aload_n hx hb d_MD_near_48 rfl (lv_at hl 0 rfl) ?_
          refine va_get (D := (dC, dI)) (ci := 7) (v := .int (nI yt)) (C := R_MD) (T := T_MD) (N := 28) hx hb hts i_MD hown hK hP 0 rfl rfl 18 (by decide) (hts _ wd_410) (fun _ h9 => h9) rfl d_MD_near_49 ?_
          refine lv_sipush (v := 4096) hx hb d_MD_near_52 (by decide) ?_
          refine lv_isub hx hb d_MD_near_55 ?_
          refine xtopi (y := nI (yt - 4096)) (pk_sub (a := yt) (b := 4096) (by omega)) ?_
          refine lv_icmp_ge (tgt := 63) hx hb d_MD_near_56 (by decide) (fun c_7 => ?_) (fun c_7 => ?_)
          · skip
            have c_7 := (p_leI (x := x) (A := yt - 4096) (by omega)).mp c_7
            refine lv_iconst (v := 0) hx hb d_MD_near_63 (by decide) ?_
            exact xreti (v := 0) hx hb hr hlocks hK hP hD hS (rfl) (by rw [nrO, if_neg c_1, if_neg (by omega), if_neg (by omega)]; rfl) d_MD_near_64
          · skip
            have c_7 := mt (p_leI (x := x) (A := yt - 4096) (by omega)).mpr c_7
            refine lv_iconst (v := 1) hx hb d_MD_near_59 (by decide) ?_
            refine lv_goto (tgt := 64) hx hb d_MD_near_60 (by decide) ?_
            exact xreti (v := 1) hx hb hr hlocks hK hP hD hS (rfl) (by rw [nrO, if_neg c_1, if_neg (by omega), if_pos (by omega)]; rfl) d_MD_near_64
      · skip
        have c_5 := mt (p_leI (x := x) (A := yt) (by omega)).mpr c_5
        refine lv_iconst (v := 2) hx hb d_MD_near_31 (by decide) ?_
        refine lv_goto (tgt := 64) hx hb d_MD_near_32 (by decide) ?_
        exact xreti (v := 2) hx hb hr hlocks hK hP hD hS (rfl) (by rw [nrO, if_neg c_1, if_pos (by omega)]; rfl) d_MD_near_64
  · skip
    have c_1 : pg = 0 := (nI_eq (a := pg) (b := 0) (by omega) (by omega)).mp c_1
    refine lv_iconst (v := 0) hx hb d_MD_near_7 (by decide) ?_
    refine lv_goto (tgt := 64) hx hb d_MD_near_8 (by decide) ?_
    exact xreti (v := 0) hx hb hr hlocks hK hP hD hS (rfl) (by rw [nrO, if_pos c_1]; rfl) d_MD_near_64
set_option maxHeartbeats 4000000 in
set_option maxRecDepth 100000 in
theorem m_at (l : Launch) (dC : Nat → ClassId) (dI : Nat → Nat → Nat) (bd : Nat → Nat) (cm : Nat → ClassId) (th : Int32) (n : Nat) (fr : Nat → Int32) (a : Nat) (z : Nat → Nat) (le : Nat → Int32) (wy : Int32) (fo : Nat) (en : Nat) (fF : Nat → Nat) (fA : Nat → Nat) (fB : Nat → Nat) (fS : Nat → Nat) (fW : Nat → Int32) (sk : Nat → Int32) (pg : Nat) (ye : Int32) (ys : Int32) (yt : Nat) (yg : Nat) (yp : Nat) (tk : Nat → Int32) (gF : Nat → Nat) (gA : Nat → Nat) (gB : Nat → Nat) (gS : Nat → Nat) (gW : Nat → Int32) (yk : Nat → Int32) (x : Int32) (hyp : yp ≤ 8) (hgs : ∀ k, k < yp → gA k + gS k ≤ 1073733632) (hgf : ∀ k, k < yp → gF k + gB k ≤ 65536) (hpg : pg ≤ 32) (hyt : pg = 0 ∨ 8192 ≤ yt) (hyt2 : yt ≤ 1073741824) (sz : Nat) : Met l y_MD_at w_MD_at { frames := 2, cells := 0, slots := 0, locals := 60 } (va_Pc [.ref (bd 0), .int x] (xP (dC, dI) (tyM cm) (wsM bd cm th n fr a z le wy fo en fF fA fB fS fW sk pg ye ys yt yg yp tk gF gA gB gS gW yk) sz)) (xQi (dC, dI) (tyM cm) (va_A (wsM bd cm th n fr a z le wy fo en fF fA fB fS fW sk pg ye ys yt yg yp tk gF gA gB gS gW yk) sz) (wsM bd cm 0 n fr a z le wy fo en fF fA fB fS fW sk pg ye ys yt yg yp tk gF gA gB gS gW yk) (fun r => r = mAtO yp gF gA gB gS tk pg yt yk x)) 0 0 (va_A (wsM bd cm th n fr a z le wy fo en fF fA fB fS fW sk pg ye ys yt yg yp tk gF gA gB gS gW yk) sz) := by
  refine xof (cc := b_MD_at) (maxL := 4) (ret := (some .int)) (own := R_MD) (Qc := fun A => (xQi (dC, dI) (tyM cm) A (wsM bd cm 0 n fr a z le wy fo en fF fA fB fS fW sk pg ye ys yt yg yp tk gF gA gB gS gW yk) (fun r => r = mAtO yp gF gA gB gS tk pg yt yk x))) (by decide) rfl rfl (Nat.le_of_ble_eq_true rfl) ?_ sz
  intro p e s m below meth c A C hnm hK hP hD hA hN hZ hS ls hl
  obtain ⟨hx, hb, hr, hml, hown, hts, hlocks⟩ := C
  have hl : lv_has ls 4 [(0, .ref (bd 0)), (1, .int x)] := hl
  refine lv_aload_n hx hb d_MD_at_0 rfl (lv_at hl 0 rfl) ?_
  refine lv_iconst (v := 0) hx hb d_MD_at_1 (by decide) ?_
  refine va_put (D := (dC, dI)) (ci := 7) (v := .int 0) (ty := .int) (C := R_MD) (T := T_MD) (N := 28) hx hb hts i_MD t_MD k_MD n_MD hown hK hP hD hS 0 rfl rfl 0 (by decide) (hts _ wd_392) (fun _ h9 => h9) rfl (by decide +kernel) rfl rfl (Nat.le_of_ble_eq_true rfl) d_MD_at_2 (fun H locs hP hD hS => ?_)
  have hP : va_P (dC, dI) vwCl (wsM bd cm 0 n fr a z le wy fo en fF fA fB fS fW sk pg ye ys yt yg yp tk gF gA gB gS gW yk) H := hP
  have hD : va_D A (wsM bd cm 0 n fr a z le wy fo en fF fA fB fS fW sk pg ye ys yt yg yp tk gF gA gB gS gW yk) := hD
  refine lv_aload_n hx hb d_MD_at_5 rfl (lv_at hl 0 rfl) ?_
  refine lv_iload_n hx hb d_MD_at_6 rfl (lv_at hl 1 rfl) ?_
  refine xcalli (va_runV (As := [.int x]) (rest := []) ⟨hx, hb, hml, hown, hts⟩ (m_part l dC dI bd cm 0 n fr a z le wy fo en fF fA fB fS fW sk pg ye ys yt yg yp tk gF gA gB gS gW yk x hyp hgs H.size) (cwV 1 hts (xgV wd_577 wd_579 wd_12 wd_22 wd_580) rfl rfl rfl (by decide +kernel) ⟨Nat.le_of_ble_eq_true rfl, Nat.le_of_ble_eq_true rfl⟩) (xpreV (q0 := 0) hK hN hZ hA hS hP hD rfl rfl) rfl rfl hl.1 rfl (lv_room (Nat.le_of_ble_eq_true rfl)) d_MD_at_7 ⟨Nat.zero_le _, Nat.zero_le _⟩) hD hS hA (fun r_1 H locs hr_1 hP hD hS => ?_)
  subst hr_1
  rcases psI_or gA gS x yp with hps | ⟨j, hj, hps, hin⟩
  · skip
    refine xtopi (y := (-1)) (hps) ?_
    have hnr := nrO_le pg yt x
    refine lv_istore_n (lv' := [(2, .int (-1)), (0, .ref (bd 0)), (1, .int x)]) hx hb d_MD_at_10 rfl hl (by decide) rfl (fun ls hl => ?_)
    refine lv_iload_n hx hb d_MD_at_11 rfl (lv_at hl 0 rfl) ?_
    refine lv_if_lt (tgt := 56) hx hb d_MD_at_12 (by decide) (fun c_2 => ?_) (fun c_2 => ?_)
    · skip
      refine lv_aload_n hx hb d_MD_at_56 rfl (lv_at hl 1 rfl) ?_
      refine lv_iload_n hx hb d_MD_at_57 rfl (lv_at hl 2 rfl) ?_
      refine xcalli (va_runV (As := [.int x]) (rest := []) ⟨hx, hb, hml, hown, hts⟩ (m_near l dC dI bd cm 0 n fr a z le wy fo en fF fA fB fS fW sk pg ye ys yt yg yp tk gF gA gB gS gW yk x hpg hyt hyt2 H.size) (cwV 1 hts (xgV wd_581 wd_583 wd_13 wd_22 wd_584) rfl rfl rfl (by decide +kernel) ⟨Nat.le_of_ble_eq_true rfl, Nat.le_of_ble_eq_true rfl⟩) (xpreV (q0 := 0) hK hN hZ hA hS hP hD rfl rfl) rfl rfl hl.1 rfl (lv_room (Nat.le_of_ble_eq_true rfl)) d_MD_at_58 ⟨Nat.zero_le _, Nat.zero_le _⟩) hD hS hA (fun r_3 H locs hr_3 hP hD hS => ?_)
      subst hr_3
      refine lv_iconst (v := 2) hx hb d_MD_at_61 (by decide) ?_
      refine lv_icmp_ne (tgt := 87) hx hb d_MD_at_62 (by decide) (fun c_4 => ?_) (fun c_4 => ?_)
      · skip
        have c_4 : ¬ (nrO pg yt x = 2) := fun h9 => c_4 ((nI_eq (a := nrO pg yt x) (b := 2) (by omega) (by omega)).mpr h9)
        refine lv_aload_n hx hb d_MD_at_87 rfl (lv_at hl 1 rfl) ?_
        refine lv_iload_n hx hb d_MD_at_88 rfl (lv_at hl 2 rfl) ?_
        refine xcalli (va_runV (As := [.int x]) (rest := []) ⟨hx, hb, hml, hown, hts⟩ (m_near l dC dI bd cm 0 n fr a z le wy fo en fF fA fB fS fW sk pg ye ys yt yg yp tk gF gA gB gS gW yk x hpg hyt hyt2 H.size) (cwV 1 hts (xgV wd_581 wd_583 wd_13 wd_22 wd_584) rfl rfl rfl (by decide +kernel) ⟨Nat.le_of_ble_eq_true rfl, Nat.le_of_ble_eq_true rfl⟩) (xpreV (q0 := 0) hK hN hZ hA hS hP hD rfl rfl) rfl rfl hl.1 rfl (lv_room (Nat.le_of_ble_eq_true rfl)) d_MD_at_89 ⟨Nat.zero_le _, Nat.zero_le _⟩) hD hS hA (fun r_5 H locs hr_5 hP hD hS => ?_)
        subst hr_5
        refine lv_iconst (v := 1) hx hb d_MD_at_92 (by decide) ?_
        refine lv_isub hx hb d_MD_at_93 ?_
        exact xreti (v := (nI (nrO pg yt x)) - 1) hx hb hr hlocks hK hP hD hS (rfl) (by rw [mAtO, if_pos (show psI gA gS x yp < 0 from by rw [hps]; decide), if_neg c_4]) d_MD_at_94
      · skip
        have c_4 : nrO pg yt x = 2 := (nI_eq (a := nrO pg yt x) (b := 2) (by omega) (by omega)).mp c_4
        have hn2 := nrO_2 (show nrO pg yt x = 2 from c_4)
        have hpg0 := nrO_pg (show nrO pg yt x = 2 from c_4)
        obtain ⟨X, eX, hX⟩ := p_ofNat (k := x) (by omega)
        rw [eX] at hl
        refine lv_aload_n hx hb d_MD_at_65 rfl (lv_at hl 1 rfl) ?_
        refine va_get (D := (dC, dI)) (ci := 7) (v := .ref (bd 16)) (C := R_MD) (T := T_MD) (N := 28) hx hb hts i_MD hown hK hP 0 rfl rfl 27 (by decide) (hts _ wd_419) (fun _ h9 => h9) rfl d_MD_at_66 ?_
        refine lv_iload_n hx hb d_MD_at_69 rfl (lv_at hl 2 rfl) ?_
        refine lv_aload_n hx hb d_MD_at_70 rfl (lv_at hl 1 rfl) ?_
        refine va_get (D := (dC, dI)) (ci := 7) (v := .int (nI yt)) (C := R_MD) (T := T_MD) (N := 28) hx hb hts i_MD hown hK hP 0 rfl rfl 18 (by decide) (hts _ wd_410) (fun _ h9 => h9) rfl d_MD_at_71 ?_
        refine lv_isub hx hb d_MD_at_74 ?_
        refine lv_sipush (v := 4096) hx hb d_MD_at_75 (by decide) ?_
        refine lv_iadd hx hb d_MD_at_78 ?_
        refine xtopi (y := nI (X - (yt - 4096))) (p_stk (by omega) (by omega)) ?_
        refine xbald (k := X - (yt - 4096)) hx hb hK hP 16 0 rfl rfl (rfl) (by omega) (by decide) d_MD_at_79 ?_
        refine lv_sipush (v := 255) hx hb d_MD_at_80 (by decide) ?_
        refine lv_iand hx hb d_MD_at_83 ?_
        refine lv_goto (tgt := 94) hx hb d_MD_at_84 (by decide) ?_
        exact xreti (v := (yk (X - (yt - 4096))) &&& 255) hx hb hr hlocks hK hP hD hS (rfl) (by rw [mAtO, if_pos (show psI gA gS x yp < 0 from by rw [hps]; decide), if_pos (show nrO pg yt x = 2 from c_4), eX, nI_toInt (by omega)]; rfl) d_MD_at_94
    · exact absurd c_2 (by decide)
  · skip
    refine xtopi (y := nI j) (hps) ?_
    obtain ⟨X, eX, hX⟩ := p_ofNat (k := x) (by have := hin.1; omega)
    have hlo : gA j ≤ X := by have := hin.1; omega
    have hhi : X < (gA j + gS j + 4095) / 4096 * 4096 := by have := hin.2; omega
    have hs := hgs j hj
    have hfb := hgf j hj
    rw [eX] at hl
    refine lv_istore_n (lv' := [(2, .int (nI j)), (0, .ref (bd 0)), (1, .int (nI X))]) hx hb d_MD_at_10 rfl hl (by decide) rfl (fun ls hl => ?_)
    refine lv_iload_n hx hb d_MD_at_11 rfl (lv_at hl 0 rfl) ?_
    refine lv_if_lt (tgt := 56) hx hb d_MD_at_12 (by decide) (fun c_6 => ?_) (fun c_6 => ?_)
    · skip
      have c_6 : j < 0 := (nI_ltI (a := j) (b := 0) (by omega) (by omega)).mp c_6
      exact absurd c_6 (Nat.not_lt_zero _)
    · skip
      have c_6 : ¬ (j < 0) := fun h9 => c_6 ((nI_ltI (a := j) (b := 0) (by omega) (by omega)).mpr h9)
      refine lv_iload_n hx hb d_MD_at_15 rfl (lv_at hl 2 rfl) ?_
      refine lv_aload_n hx hb d_MD_at_16 rfl (lv_at hl 1 rfl) ?_
      refine va_get (D := (dC, dI)) (ci := 7) (v := .ref (bd 12)) (C := R_MD) (T := T_MD) (N := 28) hx hb hts i_MD hown hK hP 0 rfl rfl 23 (by decide) (hts _ wd_415) (fun _ h9 => h9) rfl d_MD_at_17 ?_
      refine lv_iload_n hx hb d_MD_at_20 rfl (lv_at hl 0 rfl) ?_
      refine xiald (k := j) hx hb hK hP 12 1 rfl rfl (rfl) (by omega) (by decide) d_MD_at_21 ?_
      refine lv_isub hx hb d_MD_at_22 ?_
      refine xtopi (y := nI (X - (gA j))) (pk_sub (a := X) (b := gA j) (by omega)) ?_
      refine lv_istore_n (lv' := [(3, .int (nI (X - (gA j)))), (2, .int (nI j)), (0, .ref (bd 0)), (1, .int (nI X))]) hx hb d_MD_at_23 rfl hl (by decide) rfl (fun ls hl => ?_)
      refine lv_iload_n hx hb d_MD_at_24 rfl (lv_at hl 0 rfl) ?_
      refine lv_aload_n hx hb d_MD_at_25 rfl (lv_at hl 2 rfl) ?_
      refine va_get (D := (dC, dI)) (ci := 7) (v := .ref (bd 13)) (C := R_MD) (T := T_MD) (N := 28) hx hb hts i_MD hown hK hP 0 rfl rfl 24 (by decide) (hts _ wd_416) (fun _ h9 => h9) rfl d_MD_at_26 ?_
      refine lv_iload_n hx hb d_MD_at_29 rfl (lv_at hl 1 rfl) ?_
      refine xiald (k := j) hx hb hK hP 13 1 rfl rfl (rfl) (by omega) (by decide) d_MD_at_30 ?_
      refine lv_icmp_ge (tgt := 54) hx hb d_MD_at_31 (by decide) (fun c_7 => ?_) (fun c_7 => ?_)
      · skip
        have c_7 : gB j ≤ X - (gA j) := (nI_leI (a := gB j) (b := X - (gA j)) (by omega) (by omega)).mp c_7
        refine lv_iconst (v := 0) hx hb d_MD_at_54 (by decide) ?_
        exact xreti (v := 0) hx hb hr hlocks hK hP hD hS (rfl) (by rw [mAtO, if_neg (show ¬ psI gA gS x yp < 0 from by rw [hps]; exact nI_pos (by omega)), hps, tN_nI (by omega), eX, nI_toInt (by omega), if_pos (show gB j ≤ ((X : Nat) : Int).toNat - gA j from by omega)]) d_MD_at_55
      · skip
        have c_7 : ¬ (gB j ≤ X - (gA j)) := fun h9 => c_7 ((nI_leI (a := gB j) (b := X - (gA j)) (by omega) (by omega)).mpr h9)
        refine lv_aload_n hx hb d_MD_at_34 rfl (lv_at hl 2 rfl) ?_
        refine va_get (D := (dC, dI)) (ci := 7) (v := .ref (bd 10)) (C := R_MD) (T := T_MD) (N := 28) hx hb hts i_MD hown hK hP 0 rfl rfl 21 (by decide) (hts _ wd_413) (fun _ h9 => h9) rfl d_MD_at_35 ?_
        refine lv_aload_n hx hb d_MD_at_38 rfl (lv_at hl 2 rfl) ?_
        refine va_get (D := (dC, dI)) (ci := 7) (v := .ref (bd 11)) (C := R_MD) (T := T_MD) (N := 28) hx hb hts i_MD hown hK hP 0 rfl rfl 22 (by decide) (hts _ wd_414) (fun _ h9 => h9) rfl d_MD_at_39 ?_
        refine lv_iload_n hx hb d_MD_at_42 rfl (lv_at hl 1 rfl) ?_
        refine xiald (k := j) hx hb hK hP 11 1 rfl rfl (rfl) (by omega) (by decide) d_MD_at_43 ?_
        refine lv_iload_n hx hb d_MD_at_44 rfl (lv_at hl 0 rfl) ?_
        refine lv_iadd hx hb d_MD_at_45 ?_
        refine xtopi (y := nI ((gF j) + (X - (gA j)))) (nI_add (gF j) (X - (gA j))) ?_
        refine xbald (k := (gF j) + (X - (gA j))) hx hb hK hP 10 0 rfl rfl (rfl) (by omega) (by decide) d_MD_at_46 ?_
        refine lv_sipush (v := 255) hx hb d_MD_at_47 (by decide) ?_
        refine lv_iand hx hb d_MD_at_50 ?_
        refine lv_goto (tgt := 55) hx hb d_MD_at_51 (by decide) ?_
        exact xreti (v := (tk ((gF j) + (X - (gA j)))) &&& 255) hx hb hr hlocks hK hP hD hS (rfl) (by rw [mAtO, if_neg (show ¬ psI gA gS x yp < 0 from by rw [hps]; exact nI_pos (by omega)), hps, tN_nI (by omega), eX, nI_toInt (by omega), if_neg (show ¬ gB j ≤ ((X : Nat) : Int).toNat - gA j from by omega)]; rfl) d_MD_at_55
set_option maxHeartbeats 4000000 in
set_option maxRecDepth 100000 in
theorem m_flags (l : Launch) (dC : Nat → ClassId) (dI : Nat → Nat → Nat) (bd : Nat → Nat) (cm : Nat → ClassId) (th : Int32) (n : Nat) (fr : Nat → Int32) (a : Nat) (z : Nat → Nat) (le : Nat → Int32) (wy : Int32) (fo : Nat) (en : Nat) (fF : Nat → Nat) (fA : Nat → Nat) (fB : Nat → Nat) (fS : Nat → Nat) (fW : Nat → Int32) (sk : Nat → Int32) (pg : Nat) (ye : Int32) (ys : Int32) (yt : Nat) (yg : Nat) (yp : Nat) (tk : Nat → Int32) (gF : Nat → Nat) (gA : Nat → Nat) (gB : Nat → Nat) (gS : Nat → Nat) (gW : Nat → Int32) (yk : Nat → Int32) (x : Int32) (hyp : yp ≤ 8) (hgs : ∀ k, k < yp → gA k + gS k ≤ 1073733632) (hgf : ∀ k, k < yp → gF k + gB k ≤ 65536) (hpg : pg ≤ 32) (hyt : pg = 0 ∨ 8192 ≤ yt) (hyt2 : yt ≤ 1073741824) (sz : Nat) : Met l y_MD_flags w_MD_flags { frames := 2, cells := 0, slots := 0, locals := 60 } (va_Pc [.ref (bd 0), .int x] (xP (dC, dI) (tyM cm) (wsM bd cm th n fr a z le wy fo en fF fA fB fS fW sk pg ye ys yt yg yp tk gF gA gB gS gW yk) sz)) (xQi (dC, dI) (tyM cm) (va_A (wsM bd cm th n fr a z le wy fo en fF fA fB fS fW sk pg ye ys yt yg yp tk gF gA gB gS gW yk) sz) (wsM bd cm 0 n fr a z le wy fo en fF fA fB fS fW sk pg ye ys yt yg yp tk gF gA gB gS gW yk) (fun r => r = mFlO yp gA gS gW pg yt x)) 0 0 (va_A (wsM bd cm th n fr a z le wy fo en fF fA fB fS fW sk pg ye ys yt yg yp tk gF gA gB gS gW yk) sz) := by
  refine xof (cc := b_MD_flags) (maxL := 3) (ret := (some .int)) (own := R_MD) (Qc := fun A => (xQi (dC, dI) (tyM cm) A (wsM bd cm 0 n fr a z le wy fo en fF fA fB fS fW sk pg ye ys yt yg yp tk gF gA gB gS gW yk) (fun r => r = mFlO yp gA gS gW pg yt x))) (by decide) rfl rfl (Nat.le_of_ble_eq_true rfl) ?_ sz
  intro p e s m below meth c A C hnm hK hP hD hA hN hZ hS ls hl
  obtain ⟨hx, hb, hr, hml, hown, hts, hlocks⟩ := C
  have hl : lv_has ls 3 [(0, .ref (bd 0)), (1, .int x)] := hl
  refine lv_aload_n hx hb d_MD_flags_0 rfl (lv_at hl 0 rfl) ?_
  refine lv_iconst (v := 0) hx hb d_MD_flags_1 (by decide) ?_
  refine va_put (D := (dC, dI)) (ci := 7) (v := .int 0) (ty := .int) (C := R_MD) (T := T_MD) (N := 28) hx hb hts i_MD t_MD k_MD n_MD hown hK hP hD hS 0 rfl rfl 0 (by decide) (hts _ wd_392) (fun _ h9 => h9) rfl (by decide +kernel) rfl rfl (Nat.le_of_ble_eq_true rfl) d_MD_flags_2 (fun H locs hP hD hS => ?_)
  have hP : va_P (dC, dI) vwCl (wsM bd cm 0 n fr a z le wy fo en fF fA fB fS fW sk pg ye ys yt yg yp tk gF gA gB gS gW yk) H := hP
  have hD : va_D A (wsM bd cm 0 n fr a z le wy fo en fF fA fB fS fW sk pg ye ys yt yg yp tk gF gA gB gS gW yk) := hD
  refine lv_aload_n hx hb d_MD_flags_5 rfl (lv_at hl 0 rfl) ?_
  refine lv_iload_n hx hb d_MD_flags_6 rfl (lv_at hl 1 rfl) ?_
  refine xcalli (va_runV (As := [.int x]) (rest := []) ⟨hx, hb, hml, hown, hts⟩ (m_part l dC dI bd cm 0 n fr a z le wy fo en fF fA fB fS fW sk pg ye ys yt yg yp tk gF gA gB gS gW yk x hyp hgs H.size) (cwV 1 hts (xgV wd_577 wd_579 wd_12 wd_22 wd_580) rfl rfl rfl (by decide +kernel) ⟨Nat.le_of_ble_eq_true rfl, Nat.le_of_ble_eq_true rfl⟩) (xpreV (q0 := 0) hK hN hZ hA hS hP hD rfl rfl) rfl rfl hl.1 rfl (lv_room (Nat.le_of_ble_eq_true rfl)) d_MD_flags_7 ⟨Nat.zero_le _, Nat.zero_le _⟩) hD hS hA (fun r_1 H locs hr_1 hP hD hS => ?_)
  subst hr_1
  rcases psI_or gA gS x yp with hps | ⟨j, hj, hps, hin⟩
  · skip
    refine xtopi (y := (-1)) (hps) ?_
    have hnr := nrO_le pg yt x
    refine lv_istore_n (lv' := [(2, .int (-1)), (0, .ref (bd 0)), (1, .int x)]) hx hb d_MD_flags_10 rfl hl (by decide) rfl (fun ls hl => ?_)
    refine lv_iload_n hx hb d_MD_flags_11 rfl (lv_at hl 0 rfl) ?_
    refine lv_if_lt (tgt := 24) hx hb d_MD_flags_12 (by decide) (fun c_2 => ?_) (fun c_2 => ?_)
    · skip
      refine lv_aload_n hx hb d_MD_flags_24 rfl (lv_at hl 1 rfl) ?_
      refine lv_iload_n hx hb d_MD_flags_25 rfl (lv_at hl 2 rfl) ?_
      refine xcalli (va_runV (As := [.int x]) (rest := []) ⟨hx, hb, hml, hown, hts⟩ (m_near l dC dI bd cm 0 n fr a z le wy fo en fF fA fB fS fW sk pg ye ys yt yg yp tk gF gA gB gS gW yk x hpg hyt hyt2 H.size) (cwV 1 hts (xgV wd_581 wd_583 wd_13 wd_22 wd_584) rfl rfl rfl (by decide +kernel) ⟨Nat.le_of_ble_eq_true rfl, Nat.le_of_ble_eq_true rfl⟩) (xpreV (q0 := 0) hK hN hZ hA hS hP hD rfl rfl) rfl rfl hl.1 rfl (lv_room (Nat.le_of_ble_eq_true rfl)) d_MD_flags_26 ⟨Nat.zero_le _, Nat.zero_le _⟩) hD hS hA (fun r_3 H locs hr_3 hP hD hS => ?_)
      subst hr_3
      refine lv_iconst (v := 2) hx hb d_MD_flags_29 (by decide) ?_
      refine lv_icmp_ne (tgt := 38) hx hb d_MD_flags_30 (by decide) (fun c_4 => ?_) (fun c_4 => ?_)
      · skip
        have c_4 : ¬ (nrO pg yt x = 2) := fun h9 => c_4 ((nI_eq (a := nrO pg yt x) (b := 2) (by omega) (by omega)).mpr h9)
        refine lv_aload_n hx hb d_MD_flags_38 rfl (lv_at hl 1 rfl) ?_
        refine lv_iload_n hx hb d_MD_flags_39 rfl (lv_at hl 2 rfl) ?_
        refine xcalli (va_runV (As := [.int x]) (rest := []) ⟨hx, hb, hml, hown, hts⟩ (m_near l dC dI bd cm 0 n fr a z le wy fo en fF fA fB fS fW sk pg ye ys yt yg yp tk gF gA gB gS gW yk x hpg hyt hyt2 H.size) (cwV 1 hts (xgV wd_581 wd_583 wd_13 wd_22 wd_584) rfl rfl rfl (by decide +kernel) ⟨Nat.le_of_ble_eq_true rfl, Nat.le_of_ble_eq_true rfl⟩) (xpreV (q0 := 0) hK hN hZ hA hS hP hD rfl rfl) rfl rfl hl.1 rfl (lv_room (Nat.le_of_ble_eq_true rfl)) d_MD_flags_40 ⟨Nat.zero_le _, Nat.zero_le _⟩) hD hS hA (fun r_5 H locs hr_5 hP hD hS => ?_)
        subst hr_5
        refine lv_iconst (v := 1) hx hb d_MD_flags_43 (by decide) ?_
        refine lv_icmp_ne (tgt := 51) hx hb d_MD_flags_44 (by decide) (fun c_6 => ?_) (fun c_6 => ?_)
        · skip
          have c_6 : ¬ (nrO pg yt x = 1) := fun h9 => c_6 ((nI_eq (a := nrO pg yt x) (b := 1) (by omega) (by omega)).mpr h9)
          refine lv_iconst (v := (-1)) hx hb d_MD_flags_51 (by decide) ?_
          exact xreti (v := (-1)) hx hb hr hlocks hK hP hD hS (rfl) (by rw [mFlO, if_pos (show psI gA gS x yp < 0 from by rw [hps]; decide), if_neg (show ¬ nrO pg yt x = 2 from c_4), if_neg (show ¬ nrO pg yt x = 1 from c_6)]) d_MD_flags_52
        · skip
          have c_6 : nrO pg yt x = 1 := (nI_eq (a := nrO pg yt x) (b := 1) (by omega) (by omega)).mp c_6
          refine lv_iconst (v := 3) hx hb d_MD_flags_47 (by decide) ?_
          refine lv_goto (tgt := 52) hx hb d_MD_flags_48 (by decide) ?_
          exact xreti (v := 3) hx hb hr hlocks hK hP hD hS (rfl) (by rw [mFlO, if_pos (show psI gA gS x yp < 0 from by rw [hps]; decide), if_neg (show ¬ nrO pg yt x = 2 from c_4), if_pos (show nrO pg yt x = 1 from c_6)]) d_MD_flags_52
      · skip
        have c_4 : nrO pg yt x = 2 := (nI_eq (a := nrO pg yt x) (b := 2) (by omega) (by omega)).mp c_4
        refine lv_bipush (v := 11) hx hb d_MD_flags_33 (by decide) ?_
        refine lv_goto (tgt := 52) hx hb d_MD_flags_35 (by decide) ?_
        exact xreti (v := 11) hx hb hr hlocks hK hP hD hS (rfl) (by rw [mFlO, if_pos (show psI gA gS x yp < 0 from by rw [hps]; decide), if_pos (show nrO pg yt x = 2 from c_4)]) d_MD_flags_52
    · exact absurd c_2 (by decide)
  · skip
    refine xtopi (y := nI j) (hps) ?_
    obtain ⟨X, eX, hX⟩ := p_ofNat (k := x) (by have := hin.1; omega)
    have hlo : gA j ≤ X := by have := hin.1; omega
    have hhi : X < (gA j + gS j + 4095) / 4096 * 4096 := by have := hin.2; omega
    have hs := hgs j hj
    have hfb := hgf j hj
    refine lv_istore_n (lv' := [(2, .int (nI j)), (0, .ref (bd 0)), (1, .int x)]) hx hb d_MD_flags_10 rfl hl (by decide) rfl (fun ls hl => ?_)
    refine lv_iload_n hx hb d_MD_flags_11 rfl (lv_at hl 0 rfl) ?_
    refine lv_if_lt (tgt := 24) hx hb d_MD_flags_12 (by decide) (fun c_7 => ?_) (fun c_7 => ?_)
    · skip
      have c_7 : j < 0 := (nI_ltI (a := j) (b := 0) (by omega) (by omega)).mp c_7
      exact absurd c_7 (Nat.not_lt_zero _)
    · skip
      have c_7 : ¬ (j < 0) := fun h9 => c_7 ((nI_ltI (a := j) (b := 0) (by omega) (by omega)).mpr h9)
      refine lv_aload_n hx hb d_MD_flags_15 rfl (lv_at hl 1 rfl) ?_
      refine va_get (D := (dC, dI)) (ci := 7) (v := .ref (bd 15)) (C := R_MD) (T := T_MD) (N := 28) hx hb hts i_MD hown hK hP 0 rfl rfl 26 (by decide) (hts _ wd_418) (fun _ h9 => h9) rfl d_MD_flags_16 ?_
      refine lv_iload_n hx hb d_MD_flags_19 rfl (lv_at hl 0 rfl) ?_
      refine xiald (k := j) hx hb hK hP 15 1 rfl rfl (rfl) (by omega) (by decide) d_MD_flags_20 ?_
      refine lv_goto (tgt := 52) hx hb d_MD_flags_21 (by decide) ?_
      exact xreti (v := gW j) hx hb hr hlocks hK hP hD hS (rfl) (by rw [mFlO, if_neg (show ¬ psI gA gS x yp < 0 from by rw [hps]; exact nI_pos (by omega)), hps, tN_nI (by omega)]) d_MD_flags_52
