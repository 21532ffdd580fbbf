set_option maxHeartbeats 4000000 in
set_option maxRecDepth 100000 in
theorem c_fb_hasRoom (l : Launch) (dC : Nat → ClassId) (dI : Nat → Nat → Nat) (ad : Nat → Nat) (ck : Nat → ClassId) (rf : Int32) (n : Nat) (fr : Nat → Int32) (a : Nat) (ar : Nat → Int32) (z : Nat → Nat) (pc : Nat) (pe : Int32) (pt pp : Nat) (pf : Nat → Nat → Int32) (ic : Nat) (ie ip iz ia : Int32) (st rt : Nat → Int32) (pb : Nat → Nat → Int32) (hn : n ≤ 65536) (sz : Nat) : Met l y_FB_hasRoom w_FB_hasRoom { frames := 0, cells := 0, slots := 0, locals := 0 } (va_Pc [.ref (ad 1), .int 20] (xP (dC, dI) (tyG ck) (wsG ad ck rf n fr a ar z pc pe pt pp pf ic ie ip iz ia st rt pb) sz)) (xQi (dC, dI) (tyG ck) (va_A (wsG ad ck rf n fr a ar z pc pe pt pp pf ic ie ip iz ia st rt pb) sz) (wsG ad ck rf n fr a ar z pc pe pt pp pf ic ie ip iz ia st rt pb) (fun r => r = bI (n + 20 ≤ 65536))) 0 0 (va_A (wsG ad ck rf n fr a ar z pc pe pt pp pf ic ie ip iz ia st rt pb) sz) := by
  refine xof (cc := b_FB_hasRoom) (maxL := 2) (ret := (some .boolean)) (own := R_FB) (Qc := fun A => (xQi (dC, dI) (tyG ck) A (wsG ad ck rf n fr a ar z pc pe pt pp pf ic ie ip iz ia st rt pb) (fun r => r = bI (n + 20 ≤ 65536)))) (by decide) rfl rfl (Nat.le_of_ble_eq_true rfl) ?_ sz
  intro p e s m below meth c A C hnm hK hP hD hA hN hZ hS ls hl
  obtain ⟨hx, hb, hr, hml, hown, hts, hlocks⟩ := C
  have hl : lv_has ls 2 [(0, .ref (ad 1)), (1, .int 20)] := hl
  refine lv_iload_n hx hb d_FB_hasRoom_0 rfl (lv_at hl 1 rfl) ?_
  refine lv_aload_n hx hb d_FB_hasRoom_1 rfl (lv_at hl 0 rfl) ?_
  refine va_get (D := (dC, dI)) (ci := 1) (v := .ref (ad 2)) (C := R_FB) (T := T_FB) (N := 2) hx hb hts i_FB hown hK hP 1 rfl rfl 0 (by decide) (hts _ wd_41) (fun _ h9 => h9) rfl d_FB_hasRoom_2 ?_
  refine va_alen (v := 65536) hx hb hK hP 2 0 rfl rfl rfl d_FB_hasRoom_5 ?_
  refine lv_aload_n hx hb d_FB_hasRoom_6 rfl (lv_at hl 0 rfl) ?_
  refine va_get (D := (dC, dI)) (ci := 1) (v := .int (nI n)) (C := R_FB) (T := T_FB) (N := 2) hx hb hts i_FB hown hK hP 1 rfl rfl 1 (by decide) (hts _ wd_42) (fun _ h9 => h9) rfl d_FB_hasRoom_7 ?_
  refine lv_isub hx hb d_FB_hasRoom_10 ?_
  refine xtopi (y := nI (65536 - n)) (pk_sub (a := 65536) (b := n) (by omega)) ?_
  refine lv_icmp_gt (tgt := 18) hx hb d_FB_hasRoom_11 (by decide) (fun c_1 => ?_) (fun c_1 => ?_)
  · skip
    have c_1 : 65536 - n < 20 := (nI_ltI (a := 65536 - n) (b := 20) (by omega) (by omega)).mp c_1
    refine lv_iconst (v := 0) hx hb d_FB_hasRoom_18 (by decide) ?_
    exact xreti (v := 0) hx hb hr hlocks hK hP hD hS (rfl) (bI_0 (by omega)) d_FB_hasRoom_19
  · skip
    have c_1 : ¬ (65536 - n < 20) := fun h9 => c_1 ((nI_ltI (a := 65536 - n) (b := 20) (by omega) (by omega)).mpr h9)
    refine lv_iconst (v := 1) hx hb d_FB_hasRoom_14 (by decide) ?_
    refine lv_goto (tgt := 19) hx hb d_FB_hasRoom_15 (by decide) ?_
    exact xreti (v := 1) hx hb hr hlocks hK hP hD hS (rfl) (bI_1 (by omega)) d_FB_hasRoom_19
set_option maxHeartbeats 4000000 in
set_option maxRecDepth 100000 in
theorem c_fb_holds (l : Launch) (dC : Nat → ClassId) (dI : Nat → Nat → Nat) (ad : Nat → Nat) (ck : Nat → ClassId) (rf : Int32) (n : Nat) (fr : Nat → Int32) (a : Nat) (ar : Nat → Int32) (z : Nat → Nat) (pc : Nat) (pe : Int32) (pt pp : Nat) (pf : Nat → Nat → Int32) (ic : Nat) (ie ip iz ia : Int32) (st rt : Nat → Int32) (pb : Nat → Nat → Int32) (f k : Int64) (hn : n ≤ 65536) (sz : Nat) : Met l y_FB_holds w_FB_holds { frames := 0, cells := 0, slots := 0, locals := 0 } (va_Pc [.ref (ad 1), .long f, .long k] (xP (dC, dI) (tyG ck) (wsG ad ck rf n fr a ar z pc pe pt pp pf ic ie ip iz ia st rt pb) sz)) (xQi (dC, dI) (tyG ck) (va_A (wsG ad ck rf n fr a ar z pc pe pt pp pf ic ie ip iz ia st rt pb) sz) (wsG ad ck rf n fr a ar z pc pe pt pp pf ic ie ip iz ia st rt pb) (fun r => r = bI (0 ≤ f.toInt ∧ 0 ≤ k.toInt ∧ f.toInt + k.toInt ≤ (n : Int)))) 0 0 (va_A (wsG ad ck rf n fr a ar z pc pe pt pp pf ic ie ip iz ia st rt pb) sz) := by
  refine xof (cc := b_FB_holds) (maxL := 5) (ret := (some .boolean)) (own := R_FB) (Qc := fun A => (xQi (dC, dI) (tyG ck) A (wsG ad ck rf n fr a ar z pc pe pt pp pf ic ie ip iz ia st rt pb) (fun r => r = bI (0 ≤ f.toInt ∧ 0 ≤ k.toInt ∧ f.toInt + k.toInt ≤ (n : Int))))) (by decide) rfl rfl (Nat.le_of_ble_eq_true rfl) ?_ sz
  intro p e s m below meth c A C hnm hK hP hD hA hN hZ hS ls hl
  obtain ⟨hx, hb, hr, hml, hown, hts, hlocks⟩ := C
  have hl : lv_has ls 5 [(0, .ref (ad 1)), (1, .long f), (3, .long k)] := hl
  refine lv_lload_n hx hb d_FB_holds_0 rfl (lv_at hl 1 rfl) ?_
  refine lv_lconst (v := 0) hx hb d_FB_holds_1 (by decide) ?_
  refine W.lcmp hx hb d_FB_holds_2 ?_
  refine lv_if_lt (tgt := 38) hx hb d_FB_holds_3 (by decide) (fun c_1 => ?_) (fun c_1 => ?_)
  · skip
    rw [lg_cmp_lt] at c_1
    refine lv_iconst (v := 0) hx hb d_FB_holds_38 (by decide) ?_
    exact xreti (v := 0) hx hb hr hlocks hK hP hD hS (rfl) (bI_0 (fun h9 => absurd c_1 ((p_holds hn).mpr h9).1)) d_FB_holds_39
  · skip
    rw [lg_cmp_lt] at c_1
    refine lv_lload_n hx hb d_FB_holds_6 rfl (lv_at hl 2 rfl) ?_
    refine lv_lconst (v := 0) hx hb d_FB_holds_7 (by decide) ?_
    refine W.lcmp hx hb d_FB_holds_8 ?_
    refine lv_if_lt (tgt := 38) hx hb d_FB_holds_9 (by decide) (fun c_2 => ?_) (fun c_2 => ?_)
    · skip
      rw [lg_cmp_lt] at c_2
      refine lv_iconst (v := 0) hx hb d_FB_holds_38 (by decide) ?_
      exact xreti (v := 0) hx hb hr hlocks hK hP hD hS (rfl) (bI_0 (fun h9 => absurd c_2 ((p_holds hn).mpr h9).2.1)) d_FB_holds_39
    · skip
      rw [lg_cmp_lt] at c_2
      refine lv_lload_n hx hb d_FB_holds_12 rfl (lv_at hl 1 rfl) ?_
      refine lv_aload_n hx hb d_FB_holds_13 rfl (lv_at hl 0 rfl) ?_
      refine va_get (D := (dC, dI)) (ci := 1) (v := .int (nI n)) (C := R_FB) (T := T_FB) (N := 2) hx hb hts i_FB hown hK hP 1 rfl rfl 1 (by decide) (hts _ wd_42) (fun _ h9 => h9) rfl d_FB_holds_14 ?_
      refine lv_i2l hx hb d_FB_holds_17 rfl ?_
      refine xtopl (y := lN n) (nI_l (by omega)) ?_
      refine W.lcmp hx hb d_FB_holds_18 ?_
      refine lv_if_gt (tgt := 38) hx hb d_FB_holds_19 (by decide) (fun c_3 => ?_) (fun c_3 => ?_)
      · skip
        rw [lg_cmp_gt] at c_3
        refine lv_iconst (v := 0) hx hb d_FB_holds_38 (by decide) ?_
        exact xreti (v := 0) hx hb hr hlocks hK hP hD hS (rfl) (bI_0 (fun h9 => absurd c_3 ((p_holds hn).mpr h9).2.2.1)) d_FB_holds_39
      · skip
        rw [lg_cmp_gt] at c_3
        refine lv_lload_n hx hb d_FB_holds_22 rfl (lv_at hl 2 rfl) ?_
        refine lv_aload_n hx hb d_FB_holds_23 rfl (lv_at hl 0 rfl) ?_
        refine va_get (D := (dC, dI)) (ci := 1) (v := .int (nI n)) (C := R_FB) (T := T_FB) (N := 2) hx hb hts i_FB hown hK hP 1 rfl rfl 1 (by decide) (hts _ wd_42) (fun _ h9 => h9) rfl d_FB_holds_24 ?_
        refine lv_i2l hx hb d_FB_holds_27 rfl ?_
        refine xtopl (y := lN n) (nI_l (by omega)) ?_
        refine lv_lload_n hx hb d_FB_holds_28 rfl (lv_at hl 1 rfl) ?_
        refine lv_lsub hx hb d_FB_holds_29 ?_
        refine W.lcmp hx hb d_FB_holds_30 ?_
        refine lv_if_gt (tgt := 38) hx hb d_FB_holds_31 (by decide) (fun c_4 => ?_) (fun c_4 => ?_)
        · skip
          rw [lg_cmp_gt] at c_4
          refine lv_iconst (v := 0) hx hb d_FB_holds_38 (by decide) ?_
          exact xreti (v := 0) hx hb hr hlocks hK hP hD hS (rfl) (bI_0 (fun h9 => absurd c_4 ((p_holds hn).mpr h9).2.2.2)) d_FB_holds_39
        · skip
          rw [lg_cmp_gt] at c_4
          refine lv_iconst (v := 1) hx hb d_FB_holds_34 (by decide) ?_
          refine lv_goto (tgt := 39) hx hb d_FB_holds_35 (by decide) ?_
          exact xreti (v := 1) hx hb hr hlocks hK hP hD hS (rfl) (bI_1 ((p_holds hn).mp ⟨c_1, c_2, c_3, c_4⟩)) d_FB_holds_39
set_option maxHeartbeats 4000000 in
set_option maxRecDepth 100000 in
theorem c_fb_append (l : Launch) (dC : Nat → ClassId) (dI : Nat → Nat → Nat) (ad : Nat → Nat) (ck : Nat → ClassId) (rf : Int32) (n : Nat) (fr : Nat → Int32) (a : Nat) (ar : Nat → Int32) (z : Nat → Nat) (pc : Nat) (pe : Int32) (pt pp : Nat) (pf : Nat → Nat → Int32) (ic : Nat) (ie ip iz ia : Int32) (st rt : Nat → Int32) (pb : Nat → Nat → Int32) (w : Int32) (hn : n + 4 ≤ 65536) (sz : Nat) : Met l y_FB_append w_FB_append { frames := 0, cells := 0, slots := 0, locals := 0 } (va_Pc [.ref (ad 1), .int w] (xP (dC, dI) (tyG ck) (wsG ad ck rf n fr a ar z pc pe pt pp pf ic ie ip iz ia st rt pb) sz)) (xQv (dC, dI) (tyG ck) (va_A (wsG ad ck rf n fr a ar z pc pe pt pp pf ic ie ip iz ia st rt pb) sz) (wsG ad ck rf (n + 4) (apW fr n w) a ar z pc pe pt pp pf ic ie ip iz ia st rt pb)) 0 0 (va_A (wsG ad ck rf n fr a ar z pc pe pt pp pf ic ie ip iz ia st rt pb) sz) := by
  refine xof (cc := b_FB_append) (maxL := 3) (ret := none) (own := R_FB) (Qc := fun A => (xQv (dC, dI) (tyG ck) A (wsG ad ck rf (n + 4) (apW fr n w) a ar z pc pe pt pp pf ic ie ip iz ia st rt pb))) (by decide) rfl rfl (Nat.le_of_ble_eq_true rfl) ?_ sz
  intro p e s m below meth c A C hnm hK hP hD hA hN hZ hS ls hl
  obtain ⟨hx, hb, hr, hml, hown, hts, hlocks⟩ := C
  have hl : lv_has ls 3 [(0, .ref (ad 1)), (1, .int w)] := hl
  refine lv_bipush (v := 24) hx hb d_FB_append_0 (by decide) ?_
  refine lv_istore_n (lv' := [(2, .int 24), (0, .ref (ad 1)), (1, .int w)]) hx hb d_FB_append_2 rfl hl (by decide) rfl (fun ls hl => ?_)
  refine lv_iload_n hx hb d_FB_append_3 rfl (lv_at hl 0 rfl) ?_
  refine lv_if_lt (tgt := 48) hx hb d_FB_append_4 (by decide) (fun c_1 => ?_) (fun c_1 => ?_)
  · exact absurd c_1 (by decide)
  · skip
    refine lv_aload_n hx hb d_FB_append_7 rfl (lv_at hl 1 rfl) ?_
    refine va_get (D := (dC, dI)) (ci := 1) (v := .int (nI n)) (C := R_FB) (T := T_FB) (N := 2) hx hb hts i_FB hown hK hP 1 rfl rfl 1 (by decide) (hts _ wd_42) (fun _ h9 => h9) rfl d_FB_append_8 ?_
    refine lv_aload_n hx hb d_FB_append_11 rfl (lv_at hl 1 rfl) ?_
    refine va_get (D := (dC, dI)) (ci := 1) (v := .ref (ad 2)) (C := R_FB) (T := T_FB) (N := 2) hx hb hts i_FB hown hK hP 1 rfl rfl 0 (by decide) (hts _ wd_41) (fun _ h9 => h9) rfl d_FB_append_12 ?_
    refine va_alen (v := 65536) hx hb hK hP 2 0 rfl rfl rfl d_FB_append_15 ?_
    refine lv_icmp_ge (tgt := 42) hx hb d_FB_append_16 (by decide) (fun c_2 => ?_) (fun c_2 => ?_)
    · skip
      have c_2 : 65536 ≤ n := (nI_leI (a := 65536) (b := n) (by omega) (by omega)).mp c_2
      exact absurd c_2 (by omega)
    · skip
      have c_2 : ¬ (65536 ≤ n) := fun h9 => c_2 ((nI_leI (a := 65536) (b := n) (by omega) (by omega)).mpr h9)
      refine lv_aload_n hx hb d_FB_append_19 rfl (lv_at hl 1 rfl) ?_
      refine va_get (D := (dC, dI)) (ci := 1) (v := .ref (ad 2)) (C := R_FB) (T := T_FB) (N := 2) hx hb hts i_FB hown hK hP 1 rfl rfl 0 (by decide) (hts _ wd_41) (fun _ h9 => h9) rfl d_FB_append_20 ?_
      refine lv_aload_n hx hb d_FB_append_23 rfl (lv_at hl 1 rfl) ?_
      refine va_get (D := (dC, dI)) (ci := 1) (v := .int (nI n)) (C := R_FB) (T := T_FB) (N := 2) hx hb hts i_FB hown hK hP 1 rfl rfl 1 (by decide) (hts _ wd_42) (fun _ h9 => h9) rfl d_FB_append_24 ?_
      refine lv_iload_n hx hb d_FB_append_27 rfl (lv_at hl 2 rfl) ?_
      refine lv_iload_n hx hb d_FB_append_28 rfl (lv_at hl 0 rfl) ?_
      refine lv_ishr hx hb d_FB_append_29 ?_
      refine lv_i2b hx hb d_FB_append_30 rfl ?_
      refine xbast (k := n) (x' := (w >>> ((24 : Int32) &&& 31)).toInt8.toInt32) (ws1 := wsG ad ck rf n (upd fr n ((w >>> ((24 : Int32) &&& 31)).toInt8.toInt32)) a ar z pc pe pt pp pf ic ie ip iz ia st rt pb) hx hb hK hP hD hS 2 0 rfl rfl (rfl) (by omega) (by decide) (pk_vb _) rfl d_FB_append_31 (fun H locs hP hD hS => ?_)
      refine lv_aload_n hx hb d_FB_append_32 rfl (lv_at hl 1 rfl) ?_
      refine lv_dup hx hb d_FB_append_33 rfl ?_
      refine va_get (D := (dC, dI)) (ci := 1) (v := .int (nI n)) (C := R_FB) (T := T_FB) (N := 2) hx hb hts i_FB hown hK hP 1 rfl rfl 1 (by decide) (hts _ wd_42) (fun _ h9 => h9) rfl d_FB_append_34 ?_
      refine lv_iconst (v := 1) hx hb d_FB_append_37 (by decide) ?_
      refine lv_iadd hx hb d_FB_append_38 ?_
      refine xtopi (y := nI (n + 1)) (nI_add (n) (1)) ?_
      refine va_put (D := (dC, dI)) (ci := 1) (v := .int (nI (n + 1))) (ty := .int) (C := R_FB) (T := T_FB) (N := 2) hx hb hts i_FB t_FB k_FB n_FB hown hK hP hD hS 1 rfl rfl 1 (by decide) (hts _ wd_42) (fun _ h9 => h9) rfl (by decide +kernel) rfl rfl (Nat.le_of_ble_eq_true rfl) d_FB_append_39 (fun H locs hP hD hS => ?_)
      have hP : va_P (dC, dI) vwCl (wsG ad ck rf (n + 1) (upd fr n ((w >>> ((24 : Int32) &&& 31)).toInt8.toInt32)) a ar z pc pe pt pp pf ic ie ip iz ia st rt pb) H := hP
      have hD : va_D A (wsG ad ck rf (n + 1) (upd fr n ((w >>> ((24 : Int32) &&& 31)).toInt8.toInt32)) a ar z pc pe pt pp pf ic ie ip iz ia st rt pb) := hD
      refine lv_iinc (v := 16) (lv' := [(2, .int 16), (0, .ref (ad 1)), (1, .int w)]) hx hb d_FB_append_42 hl (k := 0) rfl rfl (by decide) rfl (fun ls hl => ?_)
      refine lv_goto (tgt := 3) hx hb d_FB_append_45 (by decide) ?_
      refine lv_iload_n hx hb d_FB_append_3 rfl (lv_at hl 0 rfl) ?_
      refine lv_if_lt (tgt := 48) hx hb d_FB_append_4 (by decide) (fun c_3 => ?_) (fun c_3 => ?_)
      · exact absurd c_3 (by decide)
      · skip
        refine lv_aload_n hx hb d_FB_append_7 rfl (lv_at hl 1 rfl) ?_
        refine va_get (D := (dC, dI)) (ci := 1) (v := .int (nI (n + 1))) (C := R_FB) (T := T_FB) (N := 2) hx hb hts i_FB hown hK hP 1 rfl rfl 1 (by decide) (hts _ wd_42) (fun _ h9 => h9) rfl d_FB_append_8 ?_
        refine lv_aload_n hx hb d_FB_append_11 rfl (lv_at hl 1 rfl) ?_
        refine va_get (D := (dC, dI)) (ci := 1) (v := .ref (ad 2)) (C := R_FB) (T := T_FB) (N := 2) hx hb hts i_FB hown hK hP 1 rfl rfl 0 (by decide) (hts _ wd_41) (fun _ h9 => h9) rfl d_FB_append_12 ?_
        refine va_alen (v := 65536) hx hb hK hP 2 0 rfl rfl rfl d_FB_append_15 ?_
        refine lv_icmp_ge (tgt := 42) hx hb d_FB_append_16 (by decide) (fun c_4 => ?_) (fun c_4 => ?_)
        · skip
          have c_4 : 65536 ≤ n + 1 := (nI_leI (a := 65536) (b := n + 1) (by omega) (by omega)).mp c_4
          exact absurd c_4 (by omega)
        · skip
          have c_4 : ¬ (65536 ≤ n + 1) := fun h9 => c_4 ((nI_leI (a := 65536) (b := n + 1) (by omega) (by omega)).mpr h9)
          refine lv_aload_n hx hb d_FB_append_19 rfl (lv_at hl 1 rfl) ?_
          refine va_get (D := (dC, dI)) (ci := 1) (v := .ref (ad 2)) (C := R_FB) (T := T_FB) (N := 2) hx hb hts i_FB hown hK hP 1 rfl rfl 0 (by decide) (hts _ wd_41) (fun _ h9 => h9) rfl d_FB_append_20 ?_
          refine lv_aload_n hx hb d_FB_append_23 rfl (lv_at hl 1 rfl) ?_
          refine va_get (D := (dC, dI)) (ci := 1) (v := .int (nI (n + 1))) (C := R_FB) (T := T_FB) (N := 2) hx hb hts i_FB hown hK hP 1 rfl rfl 1 (by decide) (hts _ wd_42) (fun _ h9 => h9) rfl d_FB_append_24 ?_
          refine lv_iload_n hx hb d_FB_append_27 rfl (lv_at hl 2 rfl) ?_
          refine lv_iload_n hx hb d_FB_append_28 rfl (lv_at hl 0 rfl) ?_
          refine lv_ishr hx hb d_FB_append_29 ?_
          refine lv_i2b hx hb d_FB_append_30 rfl ?_
          refine xbast (k := n + 1) (x' := (w >>> ((16 : Int32) &&& 31)).toInt8.toInt32) (ws1 := wsG ad ck rf (n + 1) (upd (upd fr n ((w >>> ((24 : Int32) &&& 31)).toInt8.toInt32)) (n + 1) ((w >>> ((16 : Int32) &&& 31)).toInt8.toInt32)) a ar z pc pe pt pp pf ic ie ip iz ia st rt pb) hx hb hK hP hD hS 2 0 rfl rfl (rfl) (by omega) (by decide) (pk_vb _) rfl d_FB_append_31 (fun H locs hP hD hS => ?_)
          refine lv_aload_n hx hb d_FB_append_32 rfl (lv_at hl 1 rfl) ?_
          refine lv_dup hx hb d_FB_append_33 rfl ?_
          refine va_get (D := (dC, dI)) (ci := 1) (v := .int (nI (n + 1))) (C := R_FB) (T := T_FB) (N := 2) hx hb hts i_FB hown hK hP 1 rfl rfl 1 (by decide) (hts _ wd_42) (fun _ h9 => h9) rfl d_FB_append_34 ?_
          refine lv_iconst (v := 1) hx hb d_FB_append_37 (by decide) ?_
          refine lv_iadd hx hb d_FB_append_38 ?_
          refine xtopi (y := nI ((n + 1) + 1)) (nI_add (n + 1) (1)) ?_
          refine va_put (D := (dC, dI)) (ci := 1) (v := .int (nI ((n + 1) + 1))) (ty := .int) (C := R_FB) (T := T_FB) (N := 2) hx hb hts i_FB t_FB k_FB n_FB hown hK hP hD hS 1 rfl rfl 1 (by decide) (hts _ wd_42) (fun _ h9 => h9) rfl (by decide +kernel) rfl rfl (Nat.le_of_ble_eq_true rfl) d_FB_append_39 (fun H locs hP hD hS => ?_)
          have hP : va_P (dC, dI) vwCl (wsG ad ck rf ((n + 1) + 1) (upd (upd fr n ((w >>> ((24 : Int32) &&& 31)).toInt8.toInt32)) (n + 1) ((w >>> ((16 : Int32) &&& 31)).toInt8.toInt32)) a ar z pc pe pt pp pf ic ie ip iz ia st rt pb) H := hP
          have hD : va_D A (wsG ad ck rf ((n + 1) + 1) (upd (upd fr n ((w >>> ((24 : Int32) &&& 31)).toInt8.toInt32)) (n + 1) ((w >>> ((16 : Int32) &&& 31)).toInt8.toInt32)) a ar z pc pe pt pp pf ic ie ip iz ia st rt pb) := hD
          refine lv_iinc (v := 8) (lv' := [(2, .int 8), (0, .ref (ad 1)), (1, .int w)]) hx hb d_FB_append_42 hl (k := 0) rfl rfl (by decide) rfl (fun ls hl => ?_)
          refine lv_goto (tgt := 3) hx hb d_FB_append_45 (by decide) ?_
          refine lv_iload_n hx hb d_FB_append_3 rfl (lv_at hl 0 rfl) ?_
          refine lv_if_lt (tgt := 48) hx hb d_FB_append_4 (by decide) (fun c_5 => ?_) (fun c_5 => ?_)
          · exact absurd c_5 (by decide)
          · skip
            refine lv_aload_n hx hb d_FB_append_7 rfl (lv_at hl 1 rfl) ?_
            refine va_get (D := (dC, dI)) (ci := 1) (v := .int (nI ((n + 1) + 1))) (C := R_FB) (T := T_FB) (N := 2) hx hb hts i_FB hown hK hP 1 rfl rfl 1 (by decide) (hts _ wd_42) (fun _ h9 => h9) rfl d_FB_append_8 ?_
            refine lv_aload_n hx hb d_FB_append_11 rfl (lv_at hl 1 rfl) ?_
            refine va_get (D := (dC, dI)) (ci := 1) (v := .ref (ad 2)) (C := R_FB) (T := T_FB) (N := 2) hx hb hts i_FB hown hK hP 1 rfl rfl 0 (by decide) (hts _ wd_41) (fun _ h9 => h9) rfl d_FB_append_12 ?_
            refine va_alen (v := 65536) hx hb hK hP 2 0 rfl rfl rfl d_FB_append_15 ?_
            refine lv_icmp_ge (tgt := 42) hx hb d_FB_append_16 (by decide) (fun c_6 => ?_) (fun c_6 => ?_)
            · skip
              have c_6 : 65536 ≤ (n + 1) + 1 := (nI_leI (a := 65536) (b := (n + 1) + 1) (by omega) (by omega)).mp c_6
              exact absurd c_6 (by omega)
            · skip
              have c_6 : ¬ (65536 ≤ (n + 1) + 1) := fun h9 => c_6 ((nI_leI (a := 65536) (b := (n + 1) + 1) (by omega) (by omega)).mpr h9)
              refine lv_aload_n hx hb d_FB_append_19 rfl (lv_at hl 1 rfl) ?_
              refine va_get (D := (dC, dI)) (ci := 1) (v := .ref (ad 2)) (C := R_FB) (T := T_FB) (N := 2) hx hb hts i_FB hown hK hP 1 rfl rfl 0 (by decide) (hts _ wd_41) (fun _ h9 => h9) rfl d_FB_append_20 ?_
              refine lv_aload_n hx hb d_FB_append_23 rfl (lv_at hl 1 rfl) ?_
              refine va_get (D := (dC, dI)) (ci := 1) (v := .int (nI ((n + 1) + 1))) (C := R_FB) (T := T_FB) (N := 2) hx hb hts i_FB hown hK hP 1 rfl rfl 1 (by decide) (hts _ wd_42) (fun _ h9 => h9) rfl d_FB_append_24 ?_
              refine lv_iload_n hx hb d_FB_append_27 rfl (lv_at hl 2 rfl) ?_
              refine lv_iload_n hx hb d_FB_append_28 rfl (lv_at hl 0 rfl) ?_
              refine lv_ishr hx hb d_FB_append_29 ?_
              refine lv_i2b hx hb d_FB_append_30 rfl ?_
              refine xbast (k := (n + 1) + 1) (x' := (w >>> ((8 : Int32) &&& 31)).toInt8.toInt32) (ws1 := wsG ad ck rf ((n + 1) + 1) (upd (upd (upd fr n ((w >>> ((24 : Int32) &&& 31)).toInt8.toInt32)) (n + 1) ((w >>> ((16 : Int32) &&& 31)).toInt8.toInt32)) ((n + 1) + 1) ((w >>> ((8 : Int32) &&& 31)).toInt8.toInt32)) a ar z pc pe pt pp pf ic ie ip iz ia st rt pb) hx hb hK hP hD hS 2 0 rfl rfl (rfl) (by omega) (by decide) (pk_vb _) rfl d_FB_append_31 (fun H locs hP hD hS => ?_)
              refine lv_aload_n hx hb d_FB_append_32 rfl (lv_at hl 1 rfl) ?_
              refine lv_dup hx hb d_FB_append_33 rfl ?_
              refine va_get (D := (dC, dI)) (ci := 1) (v := .int (nI ((n + 1) + 1))) (C := R_FB) (T := T_FB) (N := 2) hx hb hts i_FB hown hK hP 1 rfl rfl 1 (by decide) (hts _ wd_42) (fun _ h9 => h9) rfl d_FB_append_34 ?_
              refine lv_iconst (v := 1) hx hb d_FB_append_37 (by decide) ?_
              refine lv_iadd hx hb d_FB_append_38 ?_
              refine xtopi (y := nI (((n + 1) + 1) + 1)) (nI_add ((n + 1) + 1) (1)) ?_
              refine va_put (D := (dC, dI)) (ci := 1) (v := .int (nI (((n + 1) + 1) + 1))) (ty := .int) (C := R_FB) (T := T_FB) (N := 2) hx hb hts i_FB t_FB k_FB n_FB hown hK hP hD hS 1 rfl rfl 1 (by decide) (hts _ wd_42) (fun _ h9 => h9) rfl (by decide +kernel) rfl rfl (Nat.le_of_ble_eq_true rfl) d_FB_append_39 (fun H locs hP hD hS => ?_)
              have hP : va_P (dC, dI) vwCl (wsG ad ck rf (((n + 1) + 1) + 1) (upd (upd (upd fr n ((w >>> ((24 : Int32) &&& 31)).toInt8.toInt32)) (n + 1) ((w >>> ((16 : Int32) &&& 31)).toInt8.toInt32)) ((n + 1) + 1) ((w >>> ((8 : Int32) &&& 31)).toInt8.toInt32)) a ar z pc pe pt pp pf ic ie ip iz ia st rt pb) H := hP
              have hD : va_D A (wsG ad ck rf (((n + 1) + 1) + 1) (upd (upd (upd fr n ((w >>> ((24 : Int32) &&& 31)).toInt8.toInt32)) (n + 1) ((w >>> ((16 : Int32) &&& 31)).toInt8.toInt32)) ((n + 1) + 1) ((w >>> ((8 : Int32) &&& 31)).toInt8.toInt32)) a ar z pc pe pt pp pf ic ie ip iz ia st rt pb) := hD
              refine lv_iinc (v := 0) (lv' := [(2, .int 0), (0, .ref (ad 1)), (1, .int w)]) hx hb d_FB_append_42 hl (k := 0) rfl rfl (by decide) rfl (fun ls hl => ?_)
              refine lv_goto (tgt := 3) hx hb d_FB_append_45 (by decide) ?_
              refine lv_iload_n hx hb d_FB_append_3 rfl (lv_at hl 0 rfl) ?_
              refine lv_if_lt (tgt := 48) hx hb d_FB_append_4 (by decide) (fun c_7 => ?_) (fun c_7 => ?_)
              · exact absurd c_7 (by decide)
              · skip
                refine lv_aload_n hx hb d_FB_append_7 rfl (lv_at hl 1 rfl) ?_
                refine va_get (D := (dC, dI)) (ci := 1) (v := .int (nI (((n + 1) + 1) + 1))) (C := R_FB) (T := T_FB) (N := 2) hx hb hts i_FB hown hK hP 1 rfl rfl 1 (by decide) (hts _ wd_42) (fun _ h9 => h9) rfl d_FB_append_8 ?_
                refine lv_aload_n hx hb d_FB_append_11 rfl (lv_at hl 1 rfl) ?_
                refine va_get (D := (dC, dI)) (ci := 1) (v := .ref (ad 2)) (C := R_FB) (T := T_FB) (N := 2) hx hb hts i_FB hown hK hP 1 rfl rfl 0 (by decide) (hts _ wd_41) (fun _ h9 => h9) rfl d_FB_append_12 ?_
                refine va_alen (v := 65536) hx hb hK hP 2 0 rfl rfl rfl d_FB_append_15 ?_
                refine lv_icmp_ge (tgt := 42) hx hb d_FB_append_16 (by decide) (fun c_8 => ?_) (fun c_8 => ?_)
                · skip
                  have c_8 : 65536 ≤ ((n + 1) + 1) + 1 := (nI_leI (a := 65536) (b := ((n + 1) + 1) + 1) (by omega) (by omega)).mp c_8
                  exact absurd c_8 (by omega)
                · skip
                  have c_8 : ¬ (65536 ≤ ((n + 1) + 1) + 1) := fun h9 => c_8 ((nI_leI (a := 65536) (b := ((n + 1) + 1) + 1) (by omega) (by omega)).mpr h9)
                  refine lv_aload_n hx hb d_FB_append_19 rfl (lv_at hl 1 rfl) ?_
                  refine va_get (D := (dC, dI)) (ci := 1) (v := .ref (ad 2)) (C := R_FB) (T := T_FB) (N := 2) hx hb hts i_FB hown hK hP 1 rfl rfl 0 (by decide) (hts _ wd_41) (fun _ h9 => h9) rfl d_FB_append_20 ?_
                  refine lv_aload_n hx hb d_FB_append_23 rfl (lv_at hl 1 rfl) ?_
                  refine va_get (D := (dC, dI)) (ci := 1) (v := .int (nI (((n + 1) + 1) + 1))) (C := R_FB) (T := T_FB) (N := 2) hx hb hts i_FB hown hK hP 1 rfl rfl 1 (by decide) (hts _ wd_42) (fun _ h9 => h9) rfl d_FB_append_24 ?_
                  refine lv_iload_n hx hb d_FB_append_27 rfl (lv_at hl 2 rfl) ?_
                  refine lv_iload_n hx hb d_FB_append_28 rfl (lv_at hl 0 rfl) ?_
                  refine lv_ishr hx hb d_FB_append_29 ?_
                  refine lv_i2b hx hb d_FB_append_30 rfl ?_
                  refine xbast (k := ((n + 1) + 1) + 1) (x' := (w >>> ((0 : Int32) &&& 31)).toInt8.toInt32) (ws1 := wsG ad ck rf (((n + 1) + 1) + 1) (upd (upd (upd (upd fr n ((w >>> ((24 : Int32) &&& 31)).toInt8.toInt32)) (n + 1) ((w >>> ((16 : Int32) &&& 31)).toInt8.toInt32)) ((n + 1) + 1) ((w >>> ((8 : Int32) &&& 31)).toInt8.toInt32)) (((n + 1) + 1) + 1) ((w >>> ((0 : Int32) &&& 31)).toInt8.toInt32)) a ar z pc pe pt pp pf ic ie ip iz ia st rt pb) hx hb hK hP hD hS 2 0 rfl rfl (rfl) (by omega) (by decide) (pk_vb _) rfl d_FB_append_31 (fun H locs hP hD hS => ?_)
                  refine lv_aload_n hx hb d_FB_append_32 rfl (lv_at hl 1 rfl) ?_
                  refine lv_dup hx hb d_FB_append_33 rfl ?_
                  refine va_get (D := (dC, dI)) (ci := 1) (v := .int (nI (((n + 1) + 1) + 1))) (C := R_FB) (T := T_FB) (N := 2) hx hb hts i_FB hown hK hP 1 rfl rfl 1 (by decide) (hts _ wd_42) (fun _ h9 => h9) rfl d_FB_append_34 ?_
                  refine lv_iconst (v := 1) hx hb d_FB_append_37 (by decide) ?_
                  refine lv_iadd hx hb d_FB_append_38 ?_
                  refine xtopi (y := nI ((((n + 1) + 1) + 1) + 1)) (nI_add (((n + 1) + 1) + 1) (1)) ?_
                  refine va_put (D := (dC, dI)) (ci := 1) (v := .int (nI ((((n + 1) + 1) + 1) + 1))) (ty := .int) (C := R_FB) (T := T_FB) (N := 2) hx hb hts i_FB t_FB k_FB n_FB hown hK hP hD hS 1 rfl rfl 1 (by decide) (hts _ wd_42) (fun _ h9 => h9) rfl (by decide +kernel) rfl rfl (Nat.le_of_ble_eq_true rfl) d_FB_append_39 (fun H locs hP hD hS => ?_)
                  have hP : va_P (dC, dI) vwCl (wsG ad ck rf ((((n + 1) + 1) + 1) + 1) (upd (upd (upd (upd fr n ((w >>> ((24 : Int32) &&& 31)).toInt8.toInt32)) (n + 1) ((w >>> ((16 : Int32) &&& 31)).toInt8.toInt32)) ((n + 1) + 1) ((w >>> ((8 : Int32) &&& 31)).toInt8.toInt32)) (((n + 1) + 1) + 1) ((w >>> ((0 : Int32) &&& 31)).toInt8.toInt32)) a ar z pc pe pt pp pf ic ie ip iz ia st rt pb) H := hP
                  have hD : va_D A (wsG ad ck rf ((((n + 1) + 1) + 1) + 1) (upd (upd (upd (upd fr n ((w >>> ((24 : Int32) &&& 31)).toInt8.toInt32)) (n + 1) ((w >>> ((16 : Int32) &&& 31)).toInt8.toInt32)) ((n + 1) + 1) ((w >>> ((8 : Int32) &&& 31)).toInt8.toInt32)) (((n + 1) + 1) + 1) ((w >>> ((0 : Int32) &&& 31)).toInt8.toInt32)) a ar z pc pe pt pp pf ic ie ip iz ia st rt pb) := hD
                  refine lv_iinc (v := (-8)) (lv' := [(2, .int (-8)), (0, .ref (ad 1)), (1, .int w)]) hx hb d_FB_append_42 hl (k := 0) rfl rfl (by decide) rfl (fun ls hl => ?_)
                  refine lv_goto (tgt := 3) hx hb d_FB_append_45 (by decide) ?_
                  refine lv_iload_n hx hb d_FB_append_3 rfl (lv_at hl 0 rfl) ?_
                  refine lv_if_lt (tgt := 48) hx hb d_FB_append_4 (by decide) (fun c_9 => ?_) (fun c_9 => ?_)
                  · skip
                    have hw9 : wsG ad ck rf ((((n + 1) + 1) + 1) + 1) (upd (upd (upd (upd fr n ((w >>> ((24 : Int32) &&& 31)).toInt8.toInt32)) (n + 1) ((w >>> ((16 : Int32) &&& 31)).toInt8.toInt32)) ((n + 1) + 1) ((w >>> ((8 : Int32) &&& 31)).toInt8.toInt32)) (((n + 1) + 1) + 1) ((w >>> ((0 : Int32) &&& 31)).toInt8.toInt32)) a ar z pc pe pt pp pf ic ie ip iz ia st rt pb = wsG ad ck rf (n + 4) (apW fr n w) a ar z pc pe pt pp pf ic ie ip iz ia st rt pb := rfl
                    rw [hw9] at hP hD
                    exact xretv hx hb hr hlocks hK hP hD hS d_FB_append_48
                  · exact absurd c_9 (by decide)
set_option maxHeartbeats 4000000 in
set_option maxRecDepth 100000 in
theorem c_fb_cut (l : Launch) (dC : Nat → ClassId) (dI : Nat → Nat → Nat) (ad : Nat → Nat) (ck : Nat → ClassId) (rf : Int32) (n : Nat) (fr : Nat → Int32) (a : Nat) (ar : Nat → Int32) (z : Nat → Nat) (pc : Nat) (pe : Int32) (pt pp : Nat) (pf : Nat → Nat → Int32) (ic : Nat) (ie ip iz ia : Int32) (st rt : Nat → Int32) (pb : Nat → Nat → Int32) (k : Int32) (hn : n ≤ 65536) (sz : Nat) : Met l y_FB_cut w_FB_cut { frames := 0, cells := 0, slots := 0, locals := 0 } (va_Pc [.ref (ad 1), .int k] (xP (dC, dI) (tyG ck) (wsG ad ck rf n fr a ar z pc pe pt pp pf ic ie ip iz ia st rt pb) sz)) (xQi (dC, dI) (tyG ck) (va_A (wsG ad ck rf n fr a ar z pc pe pt pp pf ic ie ip iz ia st rt pb) sz) (wsG ad ck rf (fbCut n k) fr a ar z pc pe pt pp pf ic ie ip iz ia st rt pb) (fun r => r = bI (0 ≤ k.toInt ∧ k.toInt ≤ (n : Int)))) 0 0 (va_A (wsG ad ck rf n fr a ar z pc pe pt pp pf ic ie ip iz ia st rt pb) sz) := by
  refine xof (cc := b_FB_cut) (maxL := 2) (ret := (some .boolean)) (own := R_FB) (Qc := fun A => (xQi (dC, dI) (tyG ck) A (wsG ad ck rf (fbCut n k) fr a ar z pc pe pt pp pf ic ie ip iz ia st rt pb) (fun r => r = bI (0 ≤ k.toInt ∧ k.toInt ≤ (n : Int))))) (by decide) rfl rfl (Nat.le_of_ble_eq_true rfl) ?_ sz
  intro p e s m below meth c A C hnm hK hP hD hA hN hZ hS ls hl
  obtain ⟨hx, hb, hr, hml, hown, hts, hlocks⟩ := C
  have hl : lv_has ls 2 [(0, .ref (ad 1)), (1, .int k)] := hl
  refine lv_iload_n hx hb d_FB_cut_0 rfl (lv_at hl 1 rfl) ?_
  refine lv_if_lt (tgt := 12) hx hb d_FB_cut_1 (by decide) (fun c_1 => ?_) (fun c_1 => ?_)
  · skip
    refine lv_iconst (v := 0) hx hb d_FB_cut_12 (by decide) ?_
    have hw9 : wsG ad ck rf n fr a ar z pc pe pt pp pf ic ie ip iz ia st rt pb = wsG ad ck rf (fbCut n k) fr a ar z pc pe pt pp pf ic ie ip iz ia st rt pb := by simp only [fbCut]; rw [if_neg (fun h9 => absurd c_1 (p_nneg h9.1))]
    rw [hw9] at hP hD
    exact xreti (v := 0) hx hb hr hlocks hK hP hD hS (rfl) (bI_0 (fun h9 => absurd c_1 (p_nneg h9.1))) d_FB_cut_13
  · skip
    obtain ⟨j, hj, ej⟩ := nI_of c_1
    rw [ej] at hl
    refine lv_iload_n hx hb d_FB_cut_4 rfl (lv_at hl 1 rfl) ?_
    refine lv_aload_n hx hb d_FB_cut_5 rfl (lv_at hl 0 rfl) ?_
    refine va_get (D := (dC, dI)) (ci := 1) (v := .int (nI n)) (C := R_FB) (T := T_FB) (N := 2) hx hb hts i_FB hown hK hP 1 rfl rfl 1 (by decide) (hts _ wd_42) (fun _ h9 => h9) rfl d_FB_cut_6 ?_
    refine lv_icmp_le (tgt := 14) hx hb d_FB_cut_9 (by decide) (fun c_2 => ?_) (fun c_2 => ?_)
    · skip
      have c_2 : j ≤ n := (nI_leI (a := j) (b := n) (by omega) (by omega)).mp c_2
      refine lv_aload_n hx hb d_FB_cut_14 rfl (lv_at hl 0 rfl) ?_
      refine lv_iload_n hx hb d_FB_cut_15 rfl (lv_at hl 1 rfl) ?_
      refine va_put (D := (dC, dI)) (ci := 1) (v := .int (nI j)) (ty := .int) (C := R_FB) (T := T_FB) (N := 2) hx hb hts i_FB t_FB k_FB n_FB hown hK hP hD hS 1 rfl rfl 1 (by decide) (hts _ wd_42) (fun _ h9 => h9) rfl (by decide +kernel) rfl rfl (Nat.le_of_ble_eq_true rfl) d_FB_cut_16 (fun H locs hP hD hS => ?_)
      have hP : va_P (dC, dI) vwCl (wsG ad ck rf j fr a ar z pc pe pt pp pf ic ie ip iz ia st rt pb) H := hP
      have hD : va_D A (wsG ad ck rf j fr a ar z pc pe pt pp pf ic ie ip iz ia st rt pb) := hD
      refine lv_iconst (v := 1) hx hb d_FB_cut_19 (by decide) ?_
      have hw9 : wsG ad ck rf j fr a ar z pc pe pt pp pf ic ie ip iz ia st rt pb = wsG ad ck rf (fbCut n k) fr a ar z pc pe pt pp pf ic ie ip iz ia st rt pb := by simp only [fbCut]; rw [if_pos (by rw [ej, nI_toInt hj]; omega), ej, nI_toInt hj]; rfl
      rw [hw9] at hP hD
      exact xreti (v := 1) hx hb hr hlocks hK hP hD hS (rfl) (bI_1 (by rw [ej, nI_toInt hj]; omega)) d_FB_cut_20
    · skip
      have c_2 : ¬ (j ≤ n) := fun h9 => c_2 ((nI_leI (a := j) (b := n) (by omega) (by omega)).mpr h9)
      refine lv_iconst (v := 0) hx hb d_FB_cut_12 (by decide) ?_
      have hw9 : wsG ad ck rf n fr a ar z pc pe pt pp pf ic ie ip iz ia st rt pb = wsG ad ck rf (fbCut n k) fr a ar z pc pe pt pp pf ic ie ip iz ia st rt pb := by simp only [fbCut]; rw [if_neg (by rw [ej, nI_toInt hj]; omega)]
      rw [hw9] at hP hD
      exact xreti (v := 0) hx hb hr hlocks hK hP hD hS (rfl) (bI_0 (by rw [ej, nI_toInt hj]; omega)) d_FB_cut_13
set_option maxHeartbeats 4000000 in
set_option maxRecDepth 100000 in
theorem c_fb_write1 (l : Launch) (dC : Nat → ClassId) (dI : Nat → Nat → Nat) (ad : Nat → Nat) (ck : Nat → ClassId) (rf : Int32) (n : Nat) (fr : Nat → Int32) (a : Nat) (ar : Nat → Int32) (z : Nat → Nat) (pc : Nat) (pe : Int32) (pt pp : Nat) (pf : Nat → Nat → Int32) (ic : Nat) (ie ip iz ia : Int32) (st rt : Nat → Int32) (pb : Nat → Nat → Int32) (k w : Int32) (hn : n ≤ 65536) (sz : Nat) : Met l y_FB_write w_FB_write { frames := 1, cells := 0, slots := 0, locals := 24 } (va_Pc [.ref (ad 1), .int k, .int 1, .int w] (xP (dC, dI) (tyG ck) (wsG ad ck rf n fr a ar z pc pe pt pp pf ic ie ip iz ia st rt pb) sz)) (xQi (dC, dI) (tyG ck) (va_A (wsG ad ck rf n fr a ar z pc pe pt pp pf ic ie ip iz ia st rt pb) sz) (wsG ad ck rf n (fbWr 1 n fr k w) a ar z pc pe pt pp pf ic ie ip iz ia st rt pb) (fun r => r = bI (0 ≤ k.toInt ∧ k.toInt + ((1 : Nat) : Int) ≤ (n : Int)))) 0 0 (va_A (wsG ad ck rf n fr a ar z pc pe pt pp pf ic ie ip iz ia st rt pb) sz) := by
  refine xof (cc := b_FB_write) (maxL := 5) (ret := (some .boolean)) (own := R_FB) (Qc := fun A => (xQi (dC, dI) (tyG ck) A (wsG ad ck rf n (fbWr 1 n fr k w) a ar z pc pe pt pp pf ic ie ip iz ia st rt pb) (fun r => r = bI (0 ≤ k.toInt ∧ k.toInt + ((1 : Nat) : Int) ≤ (n : Int))))) (by decide) rfl rfl (Nat.le_of_ble_eq_true rfl) ?_ sz
  intro p e s m below meth c A C hnm hK hP hD hA hN hZ hS ls hl
  obtain ⟨hx, hb, hr, hml, hown, hts, hlocks⟩ := C
  have hl : lv_has ls 5 [(0, .ref (ad 1)), (1, .int k), (2, .int 1), (3, .int w)] := hl
  refine lv_aload_n hx hb d_FB_write_0 rfl (lv_at hl 0 rfl) ?_
  refine lv_iload_n hx hb d_FB_write_1 rfl (lv_at hl 1 rfl) ?_
  refine lv_i2l hx hb d_FB_write_2 rfl ?_
  refine lv_iload_n hx hb d_FB_write_3 rfl (lv_at hl 2 rfl) ?_
  refine lv_i2l hx hb d_FB_write_4 rfl ?_
  refine xtopl (y := 1) (by decide) ?_
  refine xcalli (va_runV (As := [.long k.toInt64, .long 1]) (rest := []) ⟨hx, hb, hml, hown, hts⟩ (c_fb_holds l dC dI ad ck rf n fr a ar z pc pe pt pp pf ic ie ip iz ia st rt pb k.toInt64 1 hn s.heap.size) (cwV 2 hts (xgV wd_220 wd_221 wd_222 wd_16 wd_223) rfl rfl rfl (by decide +kernel) ⟨Nat.le_of_ble_eq_true rfl, Nat.le_of_ble_eq_true rfl⟩) (xpreV (q0 := 1) hK hN hZ hA hS hP hD rfl rfl) rfl rfl hl.1 rfl (lv_room (Nat.le_of_ble_eq_true rfl)) d_FB_write_5 ⟨Nat.zero_le _, Nat.zero_le _⟩) hD hS hA (fun r_1 H locs hr_1 hP hD hS => ?_)
  subst hr_1
  refine lv_if_ne (tgt := 13) hx hb d_FB_write_8 (by decide) (fun c_2 => ?_) (fun c_2 => ?_)
  · skip
    have c_2 := bI_t c_2
    obtain ⟨j, ej, hj⟩ := p_at1 c_2
    have hj : j + 1 ≤ n := hj
    rw [ej] at hl
    refine lv_iconst (v := 0) hx hb d_FB_write_13 (by decide) ?_
    refine lv_istore (lv' := [(4, .int 0), (0, .ref (ad 1)), (1, .int (nI j)), (2, .int 1), (3, .int w)]) hx hb d_FB_write_14 hl (by decide) rfl (fun ls hl => ?_)
    refine lv_iload hx hb d_FB_write_16 (lv_at hl 0 rfl) ?_
    refine lv_iload_n hx hb d_FB_write_18 rfl (lv_at hl 3 rfl) ?_
    refine lv_icmp_ge (tgt := 45) hx hb d_FB_write_19 (by decide) (fun c_3 => ?_) (fun c_3 => ?_)
    · exact absurd c_3 (by decide)
    · skip
      refine lv_aload_n hx hb d_FB_write_22 rfl (lv_at hl 1 rfl) ?_
      refine va_get (D := (dC, dI)) (ci := 1) (v := .ref (ad 2)) (C := R_FB) (T := T_FB) (N := 2) hx hb hts i_FB hown hK hP 1 rfl rfl 0 (by decide) (hts _ wd_41) (fun _ h9 => h9) rfl d_FB_write_23 ?_
      refine lv_iload_n hx hb d_FB_write_26 rfl (lv_at hl 2 rfl) ?_
      refine lv_iload hx hb d_FB_write_27 (lv_at hl 0 rfl) ?_
      refine lv_iadd hx hb d_FB_write_29 ?_
      refine xtopi (y := nI (j + 0)) (nI_add (j) (0)) ?_
      refine lv_iload_n hx hb d_FB_write_30 rfl (lv_at hl 4 rfl) ?_
      refine lv_bipush (v := 8) hx hb d_FB_write_31 (by decide) ?_
      refine lv_iload hx hb d_FB_write_33 (lv_at hl 0 rfl) ?_
      refine lv_imul hx hb d_FB_write_35 ?_
      refine lv_ishr hx hb d_FB_write_36 ?_
      refine lv_i2b hx hb d_FB_write_37 rfl ?_
      refine xbast (k := j + 0) (x' := (w >>> ((8 * 0 : Int32) &&& 31)).toInt8.toInt32) (ws1 := wsG ad ck rf n (upd fr (j + 0) ((w >>> ((8 * 0 : Int32) &&& 31)).toInt8.toInt32)) a ar z pc pe pt pp pf ic ie ip iz ia st rt pb) hx hb hK hP hD hS 2 0 rfl rfl (rfl) (by omega) (by decide) (pk_vb _) rfl d_FB_write_38 (fun H locs hP hD hS => ?_)
      refine lv_iinc (v := 1) (lv' := [(4, .int 1), (0, .ref (ad 1)), (1, .int (nI j)), (2, .int 1), (3, .int w)]) hx hb d_FB_write_39 hl (k := 0) rfl rfl (by decide) rfl (fun ls hl => ?_)
      refine lv_goto (tgt := 16) hx hb d_FB_write_42 (by decide) ?_
      refine lv_iload hx hb d_FB_write_16 (lv_at hl 0 rfl) ?_
      refine lv_iload_n hx hb d_FB_write_18 rfl (lv_at hl 3 rfl) ?_
      refine lv_icmp_ge (tgt := 45) hx hb d_FB_write_19 (by decide) (fun c_4 => ?_) (fun c_4 => ?_)
      · skip
        refine lv_iconst (v := 1) hx hb d_FB_write_45 (by decide) ?_
        have hw9 : wsG ad ck rf n (upd fr (j + 0) ((w >>> ((8 * 0 : Int32) &&& 31)).toInt8.toInt32)) a ar z pc pe pt pp pf ic ie ip iz ia st rt pb = wsG ad ck rf n (fbWr 1 n fr k w) a ar z pc pe pt pp pf ic ie ip iz ia st rt pb := by simp only [fbWr]; rw [if_pos (p_in ej hj hn), ej, nI_toInt (by omega)]; rfl
        rw [hw9] at hP hD
        exact xreti (v := 1) hx hb hr hlocks hK hP hD hS (rfl) (bI_1 (p_in ej hj hn)) d_FB_write_46
      · exact absurd c_4 (by decide)
  · skip
    have c_2 := bI_f c_2
    refine lv_iconst (v := 0) hx hb d_FB_write_11 (by decide) ?_
    have hw9 : wsG ad ck rf n fr a ar z pc pe pt pp pf ic ie ip iz ia st rt pb = wsG ad ck rf n (fbWr 1 n fr k w) a ar z pc pe pt pp pf ic ie ip iz ia st rt pb := by simp only [fbWr]; rw [if_neg (p_nat1 c_2)]
    rw [hw9] at hP hD
    exact xreti (v := 0) hx hb hr hlocks hK hP hD hS (rfl) (bI_0 (p_nat1 c_2)) d_FB_write_12
set_option maxHeartbeats 4000000 in
set_option maxRecDepth 100000 in
theorem c_fb_number1 (l : Launch) (dC : Nat → ClassId) (dI : Nat → Nat → Nat) (ad : Nat → Nat) (ck : Nat → ClassId) (rf : Int32) (n : Nat) (fr : Nat → Int32) (a : Nat) (ar : Nat → Int32) (z : Nat → Nat) (pc : Nat) (pe : Int32) (pt pp : Nat) (pf : Nat → Nat → Int32) (ic : Nat) (ie ip iz ia : Int32) (st rt : Nat → Int32) (pb : Nat → Nat → Int32) (k : Int32) (hn : n ≤ 65536) (sz : Nat) : Met l y_FB_number w_FB_number { frames := 1, cells := 0, slots := 0, locals := 24 } (va_Pc [.ref (ad 1), .int k, .int 1] (xP (dC, dI) (tyG ck) (wsG ad ck rf n fr a ar z pc pe pt pp pf ic ie ip iz ia st rt pb) sz)) (xQi (dC, dI) (tyG ck) (va_A (wsG ad ck rf n fr a ar z pc pe pt pp pf ic ie ip iz ia st rt pb) sz) (wsG ad ck rf n fr a ar z pc pe pt pp pf ic ie ip iz ia st rt pb) (fun r => r = fbNum 1 n fr k)) 0 0 (va_A (wsG ad ck rf n fr a ar z pc pe pt pp pf ic ie ip iz ia st rt pb) sz) := by
  refine xof (cc := b_FB_number) (maxL := 5) (ret := (some .int)) (own := R_FB) (Qc := fun A => (xQi (dC, dI) (tyG ck) A (wsG ad ck rf n fr a ar z pc pe pt pp pf ic ie ip iz ia st rt pb) (fun r => r = fbNum 1 n fr k))) (by decide) rfl rfl (Nat.le_of_ble_eq_true rfl) ?_ sz
  intro p e s m below meth c A C hnm hK hP hD hA hN hZ hS ls hl
  obtain ⟨hx, hb, hr, hml, hown, hts, hlocks⟩ := C
  have hl : lv_has ls 5 [(0, .ref (ad 1)), (1, .int k), (2, .int 1)] := hl
  refine lv_aload_n hx hb d_FB_number_0 rfl (lv_at hl 0 rfl) ?_
  refine lv_iload_n hx hb d_FB_number_1 rfl (lv_at hl 1 rfl) ?_
  refine lv_i2l hx hb d_FB_number_2 rfl ?_
  refine lv_iload_n hx hb d_FB_number_3 rfl (lv_at hl 2 rfl) ?_
  refine lv_i2l hx hb d_FB_number_4 rfl ?_
  refine xtopl (y := 1) (by decide) ?_
  refine xcalli (va_runV (As := [.long k.toInt64, .long 1]) (rest := []) ⟨hx, hb, hml, hown, hts⟩ (c_fb_holds l dC dI ad ck rf n fr a ar z pc pe pt pp pf ic ie ip iz ia st rt pb k.toInt64 1 hn s.heap.size) (cwV 2 hts (xgV wd_220 wd_221 wd_222 wd_16 wd_223) rfl rfl rfl (by decide +kernel) ⟨Nat.le_of_ble_eq_true rfl, Nat.le_of_ble_eq_true rfl⟩) (xpreV (q0 := 1) hK hN hZ hA hS hP hD rfl rfl) rfl rfl hl.1 rfl (lv_room (Nat.le_of_ble_eq_true rfl)) d_FB_number_5 ⟨Nat.zero_le _, Nat.zero_le _⟩) hD hS hA (fun r_1 H locs hr_1 hP hD hS => ?_)
  subst hr_1
  refine lv_if_ne (tgt := 13) hx hb d_FB_number_8 (by decide) (fun c_2 => ?_) (fun c_2 => ?_)
  · skip
    have c_2 := bI_t c_2
    obtain ⟨j, ej, hj⟩ := p_at1 c_2
    have hj : j + 1 ≤ n := hj
    rw [ej] at hl
    refine lv_iconst (v := 0) hx hb d_FB_number_13 (by decide) ?_
    refine lv_istore_n (lv' := [(3, .int 0), (0, .ref (ad 1)), (1, .int (nI j)), (2, .int 1)]) hx hb d_FB_number_14 rfl hl (by decide) rfl (fun ls hl => ?_)
    refine lv_iload_n hx hb d_FB_number_15 rfl (lv_at hl 3 rfl) ?_
    refine lv_iconst (v := 1) hx hb d_FB_number_16 (by decide) ?_
    refine lv_isub hx hb d_FB_number_17 ?_
    refine xtopi (y := 0) (by decide) ?_
    refine lv_istore (lv' := [(4, .int 0), (3, .int 0), (0, .ref (ad 1)), (1, .int (nI j)), (2, .int 1)]) hx hb d_FB_number_18 hl (by decide) rfl (fun ls hl => ?_)
    refine lv_iload hx hb d_FB_number_20 (lv_at hl 0 rfl) ?_
    refine lv_if_lt (tgt := 50) hx hb d_FB_number_22 (by decide) (fun c_3 => ?_) (fun c_3 => ?_)
    · exact absurd c_3 (by decide)
    · skip
      refine lv_iload_n hx hb d_FB_number_25 rfl (lv_at hl 1 rfl) ?_
      refine lv_bipush (v := 8) hx hb d_FB_number_26 (by decide) ?_
      refine lv_ishl hx hb d_FB_number_28 ?_
      refine lv_aload_n hx hb d_FB_number_29 rfl (lv_at hl 2 rfl) ?_
      refine va_get (D := (dC, dI)) (ci := 1) (v := .ref (ad 2)) (C := R_FB) (T := T_FB) (N := 2) hx hb hts i_FB hown hK hP 1 rfl rfl 0 (by decide) (hts _ wd_41) (fun _ h9 => h9) rfl d_FB_number_30 ?_
      refine lv_iload_n hx hb d_FB_number_33 rfl (lv_at hl 3 rfl) ?_
      refine lv_iload hx hb d_FB_number_34 (lv_at hl 0 rfl) ?_
      refine lv_iadd hx hb d_FB_number_36 ?_
      refine xtopi (y := nI (j + 0)) (nI_add (j) (0)) ?_
      refine xbald (k := j + 0) hx hb hK hP 2 0 rfl rfl (rfl) (by omega) (by decide) d_FB_number_37 ?_
      refine lv_sipush (v := 255) hx hb d_FB_number_38 (by decide) ?_
      refine lv_iand hx hb d_FB_number_41 ?_
      refine lv_ior hx hb d_FB_number_42 ?_
      refine lv_istore_n (lv' := [(3, .int (((0 : Int32) <<< ((8 : Int32) &&& 31)) ||| ((fr (j + 0)) &&& 255))), (4, .int 0), (0, .ref (ad 1)), (1, .int (nI j)), (2, .int 1)]) hx hb d_FB_number_43 rfl hl (by decide) rfl (fun ls hl => ?_)
      refine lv_iinc (v := (-1)) (lv' := [(4, .int (-1)), (3, .int (((0 : Int32) <<< ((8 : Int32) &&& 31)) ||| ((fr (j + 0)) &&& 255))), (0, .ref (ad 1)), (1, .int (nI j)), (2, .int 1)]) hx hb d_FB_number_44 hl (k := 1) rfl rfl (by decide) rfl (fun ls hl => ?_)
      refine lv_goto (tgt := 20) hx hb d_FB_number_47 (by decide) ?_
      refine lv_iload hx hb d_FB_number_20 (lv_at hl 0 rfl) ?_
      refine lv_if_lt (tgt := 50) hx hb d_FB_number_22 (by decide) (fun c_4 => ?_) (fun c_4 => ?_)
      · skip
        refine lv_iload_n hx hb d_FB_number_50 rfl (lv_at hl 1 rfl) ?_
        exact xreti (v := ((0 : Int32) <<< ((8 : Int32) &&& 31)) ||| ((fr (j + 0)) &&& 255)) hx hb hr hlocks hK hP hD hS (rfl) (by simp only [fbNum]; rw [if_pos (p_in ej hj hn), ej, nI_toInt (by omega)]; rfl) d_FB_number_51
      · exact absurd c_4 (by decide)
  · skip
    have c_2 := bI_f c_2
    refine lv_iconst (v := 0) hx hb d_FB_number_11 (by decide) ?_
    exact xreti (v := 0) hx hb hr hlocks hK hP hD hS (rfl) (by simp only [fbNum]; rw [if_neg (p_nat1 c_2)]) d_FB_number_12
set_option maxHeartbeats 4000000 in
set_option maxRecDepth 100000 in
theorem c_fb_write2 (l : Launch) (dC : Nat → ClassId) (dI : Nat → Nat → Nat) (ad : Nat → Nat) (ck : Nat → ClassId) (rf : Int32) (n : Nat) (fr : Nat → Int32) (a : Nat) (ar : Nat → Int32) (z : Nat → Nat) (pc : Nat) (pe : Int32) (pt pp : Nat) (pf : Nat → Nat → Int32) (ic : Nat) (ie ip iz ia : Int32) (st rt : Nat → Int32) (pb : Nat → Nat → Int32) (k w : Int32) (hn : n ≤ 65536) (sz : Nat) : Met l y_FB_write w_FB_write { frames := 1, cells := 0, slots := 0, locals := 24 } (va_Pc [.ref (ad 1), .int k, .int 2, .int w] (xP (dC, dI) (tyG ck) (wsG ad ck rf n fr a ar z pc pe pt pp pf ic ie ip iz ia st rt pb) sz)) (xQi (dC, dI) (tyG ck) (va_A (wsG ad ck rf n fr a ar z pc pe pt pp pf ic ie ip iz ia st rt pb) sz) (wsG ad ck rf n (fbWr 2 n fr k w) a ar z pc pe pt pp pf ic ie ip iz ia st rt pb) (fun r => r = bI (0 ≤ k.toInt ∧ k.toInt + ((2 : Nat) : Int) ≤ (n : Int)))) 0 0 (va_A (wsG ad ck rf n fr a ar z pc pe pt pp pf ic ie ip iz ia st rt pb) sz) := by
  refine xof (cc := b_FB_write) (maxL := 5) (ret := (some .boolean)) (own := R_FB) (Qc := fun A => (xQi (dC, dI) (tyG ck) A (wsG ad ck rf n (fbWr 2 n fr k w) a ar z pc pe pt pp pf ic ie ip iz ia st rt pb) (fun r => r = bI (0 ≤ k.toInt ∧ k.toInt + ((2 : Nat) : Int) ≤ (n : Int))))) (by decide) rfl rfl (Nat.le_of_ble_eq_true rfl) ?_ sz
  intro p e s m below meth c A C hnm hK hP hD hA hN hZ hS ls hl
  obtain ⟨hx, hb, hr, hml, hown, hts, hlocks⟩ := C
  have hl : lv_has ls 5 [(0, .ref (ad 1)), (1, .int k), (2, .int 2), (3, .int w)] := hl
  refine lv_aload_n hx hb d_FB_write_0 rfl (lv_at hl 0 rfl) ?_
  refine lv_iload_n hx hb d_FB_write_1 rfl (lv_at hl 1 rfl) ?_
  refine lv_i2l hx hb d_FB_write_2 rfl ?_
  refine lv_iload_n hx hb d_FB_write_3 rfl (lv_at hl 2 rfl) ?_
  refine lv_i2l hx hb d_FB_write_4 rfl ?_
  refine xtopl (y := 2) (by decide) ?_
  refine xcalli (va_runV (As := [.long k.toInt64, .long 2]) (rest := []) ⟨hx, hb, hml, hown, hts⟩ (c_fb_holds l dC dI ad ck rf n fr a ar z pc pe pt pp pf ic ie ip iz ia st rt pb k.toInt64 2 hn s.heap.size) (cwV 2 hts (xgV wd_220 wd_221 wd_222 wd_16 wd_223) rfl rfl rfl (by decide +kernel) ⟨Nat.le_of_ble_eq_true rfl, Nat.le_of_ble_eq_true rfl⟩) (xpreV (q0 := 1) hK hN hZ hA hS hP hD rfl rfl) rfl rfl hl.1 rfl (lv_room (Nat.le_of_ble_eq_true rfl)) d_FB_write_5 ⟨Nat.zero_le _, Nat.zero_le _⟩) hD hS hA (fun r_1 H locs hr_1 hP hD hS => ?_)
  subst hr_1
  refine lv_if_ne (tgt := 13) hx hb d_FB_write_8 (by decide) (fun c_2 => ?_) (fun c_2 => ?_)
  · skip
    have c_2 := bI_t c_2
    obtain ⟨j, ej, hj⟩ := p_at2 c_2
    have hj : j + 2 ≤ n := hj
    rw [ej] at hl
    refine lv_iconst (v := 0) hx hb d_FB_write_13 (by decide) ?_
    refine lv_istore (lv' := [(4, .int 0), (0, .ref (ad 1)), (1, .int (nI j)), (2, .int 2), (3, .int w)]) hx hb d_FB_write_14 hl (by decide) rfl (fun ls hl => ?_)
    refine lv_iload hx hb d_FB_write_16 (lv_at hl 0 rfl) ?_
    refine lv_iload_n hx hb d_FB_write_18 rfl (lv_at hl 3 rfl) ?_
    refine lv_icmp_ge (tgt := 45) hx hb d_FB_write_19 (by decide) (fun c_3 => ?_) (fun c_3 => ?_)
    · exact absurd c_3 (by decide)
    · skip
      refine lv_aload_n hx hb d_FB_write_22 rfl (lv_at hl 1 rfl) ?_
      refine va_get (D := (dC, dI)) (ci := 1) (v := .ref (ad 2)) (C := R_FB) (T := T_FB) (N := 2) hx hb hts i_FB hown hK hP 1 rfl rfl 0 (by decide) (hts _ wd_41) (fun _ h9 => h9) rfl d_FB_write_23 ?_
      refine lv_iload_n hx hb d_FB_write_26 rfl (lv_at hl 2 rfl) ?_
      refine lv_iload hx hb d_FB_write_27 (lv_at hl 0 rfl) ?_
      refine lv_iadd hx hb d_FB_write_29 ?_
      refine xtopi (y := nI (j + 0)) (nI_add (j) (0)) ?_
      refine lv_iload_n hx hb d_FB_write_30 rfl (lv_at hl 4 rfl) ?_
      refine lv_bipush (v := 8) hx hb d_FB_write_31 (by decide) ?_
      refine lv_iload hx hb d_FB_write_33 (lv_at hl 0 rfl) ?_
      refine lv_imul hx hb d_FB_write_35 ?_
      refine lv_ishr hx hb d_FB_write_36 ?_
      refine lv_i2b hx hb d_FB_write_37 rfl ?_
      refine xbast (k := j + 0) (x' := (w >>> ((8 * 0 : Int32) &&& 31)).toInt8.toInt32) (ws1 := wsG ad ck rf n (upd fr (j + 0) ((w >>> ((8 * 0 : Int32) &&& 31)).toInt8.toInt32)) a ar z pc pe pt pp pf ic ie ip iz ia st rt pb) hx hb hK hP hD hS 2 0 rfl rfl (rfl) (by omega) (by decide) (pk_vb _) rfl d_FB_write_38 (fun H locs hP hD hS => ?_)
      refine lv_iinc (v := 1) (lv' := [(4, .int 1), (0, .ref (ad 1)), (1, .int (nI j)), (2, .int 2), (3, .int w)]) hx hb d_FB_write_39 hl (k := 0) rfl rfl (by decide) rfl (fun ls hl => ?_)
      refine lv_goto (tgt := 16) hx hb d_FB_write_42 (by decide) ?_
      refine lv_iload hx hb d_FB_write_16 (lv_at hl 0 rfl) ?_
      refine lv_iload_n hx hb d_FB_write_18 rfl (lv_at hl 3 rfl) ?_
      refine lv_icmp_ge (tgt := 45) hx hb d_FB_write_19 (by decide) (fun c_4 => ?_) (fun c_4 => ?_)
      · exact absurd c_4 (by decide)
      · skip
        refine lv_aload_n hx hb d_FB_write_22 rfl (lv_at hl 1 rfl) ?_
        refine va_get (D := (dC, dI)) (ci := 1) (v := .ref (ad 2)) (C := R_FB) (T := T_FB) (N := 2) hx hb hts i_FB hown hK hP 1 rfl rfl 0 (by decide) (hts _ wd_41) (fun _ h9 => h9) rfl d_FB_write_23 ?_
        refine lv_iload_n hx hb d_FB_write_26 rfl (lv_at hl 2 rfl) ?_
        refine lv_iload hx hb d_FB_write_27 (lv_at hl 0 rfl) ?_
        refine lv_iadd hx hb d_FB_write_29 ?_
        refine xtopi (y := nI (j + 1)) (nI_add (j) (1)) ?_
        refine lv_iload_n hx hb d_FB_write_30 rfl (lv_at hl 4 rfl) ?_
        refine lv_bipush (v := 8) hx hb d_FB_write_31 (by decide) ?_
        refine lv_iload hx hb d_FB_write_33 (lv_at hl 0 rfl) ?_
        refine lv_imul hx hb d_FB_write_35 ?_
        refine lv_ishr hx hb d_FB_write_36 ?_
        refine lv_i2b hx hb d_FB_write_37 rfl ?_
        refine xbast (k := j + 1) (x' := (w >>> ((8 * 1 : Int32) &&& 31)).toInt8.toInt32) (ws1 := wsG ad ck rf n (upd (upd fr (j + 0) ((w >>> ((8 * 0 : Int32) &&& 31)).toInt8.toInt32)) (j + 1) ((w >>> ((8 * 1 : Int32) &&& 31)).toInt8.toInt32)) a ar z pc pe pt pp pf ic ie ip iz ia st rt pb) hx hb hK hP hD hS 2 0 rfl rfl (rfl) (by omega) (by decide) (pk_vb _) rfl d_FB_write_38 (fun H locs hP hD hS => ?_)
        refine lv_iinc (v := 2) (lv' := [(4, .int 2), (0, .ref (ad 1)), (1, .int (nI j)), (2, .int 2), (3, .int w)]) hx hb d_FB_write_39 hl (k := 0) rfl rfl (by decide) rfl (fun ls hl => ?_)
        refine lv_goto (tgt := 16) hx hb d_FB_write_42 (by decide) ?_
        refine lv_iload hx hb d_FB_write_16 (lv_at hl 0 rfl) ?_
        refine lv_iload_n hx hb d_FB_write_18 rfl (lv_at hl 3 rfl) ?_
        refine lv_icmp_ge (tgt := 45) hx hb d_FB_write_19 (by decide) (fun c_5 => ?_) (fun c_5 => ?_)
        · skip
          refine lv_iconst (v := 1) hx hb d_FB_write_45 (by decide) ?_
          have hw9 : wsG ad ck rf n (upd (upd fr (j + 0) ((w >>> ((8 * 0 : Int32) &&& 31)).toInt8.toInt32)) (j + 1) ((w >>> ((8 * 1 : Int32) &&& 31)).toInt8.toInt32)) a ar z pc pe pt pp pf ic ie ip iz ia st rt pb = wsG ad ck rf n (fbWr 2 n fr k w) a ar z pc pe pt pp pf ic ie ip iz ia st rt pb := by simp only [fbWr]; rw [if_pos (p_in ej hj hn), ej, nI_toInt (by omega)]; rfl
          rw [hw9] at hP hD
          exact xreti (v := 1) hx hb hr hlocks hK hP hD hS (rfl) (bI_1 (p_in ej hj hn)) d_FB_write_46
        · exact absurd c_5 (by decide)
  · skip
    have c_2 := bI_f c_2
    refine lv_iconst (v := 0) hx hb d_FB_write_11 (by decide) ?_
    have hw9 : wsG ad ck rf n fr a ar z pc pe pt pp pf ic ie ip iz ia st rt pb = wsG ad ck rf n (fbWr 2 n fr k w) a ar z pc pe pt pp pf ic ie ip iz ia st rt pb := by simp only [fbWr]; rw [if_neg (p_nat2 c_2)]
    rw [hw9] at hP hD
    exact xreti (v := 0) hx hb hr hlocks hK hP hD hS (rfl) (bI_0 (p_nat2 c_2)) d_FB_write_12
set_option maxHeartbeats 4000000 in
set_option maxRecDepth 100000 in
theorem c_fb_number2 (l : Launch) (dC : Nat → ClassId) (dI : Nat → Nat → Nat) (ad : Nat → Nat) (ck : Nat → ClassId) (rf : Int32) (n : Nat) (fr : Nat → Int32) (a : Nat) (ar : Nat → Int32) (z : Nat → Nat) (pc : Nat) (pe : Int32) (pt pp : Nat) (pf : Nat → Nat → Int32) (ic : Nat) (ie ip iz ia : Int32) (st rt : Nat → Int32) (pb : Nat → Nat → Int32) (k : Int32) (hn : n ≤ 65536) (sz : Nat) : Met l y_FB_number w_FB_number { frames := 1, cells := 0, slots := 0, locals := 24 } (va_Pc [.ref (ad 1), .int k, .int 2] (xP (dC, dI) (tyG ck) (wsG ad ck rf n fr a ar z pc pe pt pp pf ic ie ip iz ia st rt pb) sz)) (xQi (dC, dI) (tyG ck) (va_A (wsG ad ck rf n fr a ar z pc pe pt pp pf ic ie ip iz ia st rt pb) sz) (wsG ad ck rf n fr a ar z pc pe pt pp pf ic ie ip iz ia st rt pb) (fun r => r = fbNum 2 n fr k)) 0 0 (va_A (wsG ad ck rf n fr a ar z pc pe pt pp pf ic ie ip iz ia st rt pb) sz) := by
  refine xof (cc := b_FB_number) (maxL := 5) (ret := (some .int)) (own := R_FB) (Qc := fun A => (xQi (dC, dI) (tyG ck) A (wsG ad ck rf n fr a ar z pc pe pt pp pf ic ie ip iz ia st rt pb) (fun r => r = fbNum 2 n fr k))) (by decide) rfl rfl (Nat.le_of_ble_eq_true rfl) ?_ sz
  intro p e s m below meth c A C hnm hK hP hD hA hN hZ hS ls hl
  obtain ⟨hx, hb, hr, hml, hown, hts, hlocks⟩ := C
  have hl : lv_has ls 5 [(0, .ref (ad 1)), (1, .int k), (2, .int 2)] := hl
  refine lv_aload_n hx hb d_FB_number_0 rfl (lv_at hl 0 rfl) ?_
  refine lv_iload_n hx hb d_FB_number_1 rfl (lv_at hl 1 rfl) ?_
  refine lv_i2l hx hb d_FB_number_2 rfl ?_
  refine lv_iload_n hx hb d_FB_number_3 rfl (lv_at hl 2 rfl) ?_
  refine lv_i2l hx hb d_FB_number_4 rfl ?_
  refine xtopl (y := 2) (by decide) ?_
  refine xcalli (va_runV (As := [.long k.toInt64, .long 2]) (rest := []) ⟨hx, hb, hml, hown, hts⟩ (c_fb_holds l dC dI ad ck rf n fr a ar z pc pe pt pp pf ic ie ip iz ia st rt pb k.toInt64 2 hn s.heap.size) (cwV 2 hts (xgV wd_220 wd_221 wd_222 wd_16 wd_223) rfl rfl rfl (by decide +kernel) ⟨Nat.le_of_ble_eq_true rfl, Nat.le_of_ble_eq_true rfl⟩) (xpreV (q0 := 1) hK hN hZ hA hS hP hD rfl rfl) rfl rfl hl.1 rfl (lv_room (Nat.le_of_ble_eq_true rfl)) d_FB_number_5 ⟨Nat.zero_le _, Nat.zero_le _⟩) hD hS hA (fun r_1 H locs hr_1 hP hD hS => ?_)
  subst hr_1
  refine lv_if_ne (tgt := 13) hx hb d_FB_number_8 (by decide) (fun c_2 => ?_) (fun c_2 => ?_)
  · skip
    have c_2 := bI_t c_2
    obtain ⟨j, ej, hj⟩ := p_at2 c_2
    have hj : j + 2 ≤ n := hj
    rw [ej] at hl
    refine lv_iconst (v := 0) hx hb d_FB_number_13 (by decide) ?_
    refine lv_istore_n (lv' := [(3, .int 0), (0, .ref (ad 1)), (1, .int (nI j)), (2, .int 2)]) hx hb d_FB_number_14 rfl hl (by decide) rfl (fun ls hl => ?_)
    refine lv_iload_n hx hb d_FB_number_15 rfl (lv_at hl 3 rfl) ?_
    refine lv_iconst (v := 1) hx hb d_FB_number_16 (by decide) ?_
    refine lv_isub hx hb d_FB_number_17 ?_
    refine xtopi (y := 1) (by decide) ?_
    refine lv_istore (lv' := [(4, .int 1), (3, .int 0), (0, .ref (ad 1)), (1, .int (nI j)), (2, .int 2)]) hx hb d_FB_number_18 hl (by decide) rfl (fun ls hl => ?_)
    refine lv_iload hx hb d_FB_number_20 (lv_at hl 0 rfl) ?_
    refine lv_if_lt (tgt := 50) hx hb d_FB_number_22 (by decide) (fun c_3 => ?_) (fun c_3 => ?_)
    · exact absurd c_3 (by decide)
    · skip
      refine lv_iload_n hx hb d_FB_number_25 rfl (lv_at hl 1 rfl) ?_
      refine lv_bipush (v := 8) hx hb d_FB_number_26 (by decide) ?_
      refine lv_ishl hx hb d_FB_number_28 ?_
      refine lv_aload_n hx hb d_FB_number_29 rfl (lv_at hl 2 rfl) ?_
      refine va_get (D := (dC, dI)) (ci := 1) (v := .ref (ad 2)) (C := R_FB) (T := T_FB) (N := 2) hx hb hts i_FB hown hK hP 1 rfl rfl 0 (by decide) (hts _ wd_41) (fun _ h9 => h9) rfl d_FB_number_30 ?_
      refine lv_iload_n hx hb d_FB_number_33 rfl (lv_at hl 3 rfl) ?_
      refine lv_iload hx hb d_FB_number_34 (lv_at hl 0 rfl) ?_
      refine lv_iadd hx hb d_FB_number_36 ?_
      refine xtopi (y := nI (j + 1)) (nI_add (j) (1)) ?_
      refine xbald (k := j + 1) hx hb hK hP 2 0 rfl rfl (rfl) (by omega) (by decide) d_FB_number_37 ?_
      refine lv_sipush (v := 255) hx hb d_FB_number_38 (by decide) ?_
      refine lv_iand hx hb d_FB_number_41 ?_
      refine lv_ior hx hb d_FB_number_42 ?_
      refine lv_istore_n (lv' := [(3, .int (((0 : Int32) <<< ((8 : Int32) &&& 31)) ||| ((fr (j + 1)) &&& 255))), (4, .int 1), (0, .ref (ad 1)), (1, .int (nI j)), (2, .int 2)]) hx hb d_FB_number_43 rfl hl (by decide) rfl (fun ls hl => ?_)
      refine lv_iinc (v := 0) (lv' := [(4, .int 0), (3, .int (((0 : Int32) <<< ((8 : Int32) &&& 31)) ||| ((fr (j + 1)) &&& 255))), (0, .ref (ad 1)), (1, .int (nI j)), (2, .int 2)]) hx hb d_FB_number_44 hl (k := 1) rfl rfl (by decide) rfl (fun ls hl => ?_)
      refine lv_goto (tgt := 20) hx hb d_FB_number_47 (by decide) ?_
      refine lv_iload hx hb d_FB_number_20 (lv_at hl 0 rfl) ?_
      refine lv_if_lt (tgt := 50) hx hb d_FB_number_22 (by decide) (fun c_4 => ?_) (fun c_4 => ?_)
      · exact absurd c_4 (by decide)
      · skip
        refine lv_iload_n hx hb d_FB_number_25 rfl (lv_at hl 1 rfl) ?_
        refine lv_bipush (v := 8) hx hb d_FB_number_26 (by decide) ?_
        refine lv_ishl hx hb d_FB_number_28 ?_
        refine lv_aload_n hx hb d_FB_number_29 rfl (lv_at hl 2 rfl) ?_
        refine va_get (D := (dC, dI)) (ci := 1) (v := .ref (ad 2)) (C := R_FB) (T := T_FB) (N := 2) hx hb hts i_FB hown hK hP 1 rfl rfl 0 (by decide) (hts _ wd_41) (fun _ h9 => h9) rfl d_FB_number_30 ?_
        refine lv_iload_n hx hb d_FB_number_33 rfl (lv_at hl 3 rfl) ?_
        refine lv_iload hx hb d_FB_number_34 (lv_at hl 0 rfl) ?_
        refine lv_iadd hx hb d_FB_number_36 ?_
        refine xtopi (y := nI (j + 0)) (nI_add (j) (0)) ?_
        refine xbald (k := j + 0) hx hb hK hP 2 0 rfl rfl (rfl) (by omega) (by decide) d_FB_number_37 ?_
        refine lv_sipush (v := 255) hx hb d_FB_number_38 (by decide) ?_
        refine lv_iand hx hb d_FB_number_41 ?_
        refine lv_ior hx hb d_FB_number_42 ?_
        refine lv_istore_n (lv' := [(3, .int (((((0 : Int32) <<< ((8 : Int32) &&& 31)) ||| ((fr (j + 1)) &&& 255)) <<< ((8 : Int32) &&& 31)) ||| ((fr (j + 0)) &&& 255))), (4, .int 0), (0, .ref (ad 1)), (1, .int (nI j)), (2, .int 2)]) hx hb d_FB_number_43 rfl hl (by decide) rfl (fun ls hl => ?_)
        refine lv_iinc (v := (-1)) (lv' := [(4, .int (-1)), (3, .int (((((0 : Int32) <<< ((8 : Int32) &&& 31)) ||| ((fr (j + 1)) &&& 255)) <<< ((8 : Int32) &&& 31)) ||| ((fr (j + 0)) &&& 255))), (0, .ref (ad 1)), (1, .int (nI j)), (2, .int 2)]) hx hb d_FB_number_44 hl (k := 1) rfl rfl (by decide) rfl (fun ls hl => ?_)
        refine lv_goto (tgt := 20) hx hb d_FB_number_47 (by decide) ?_
        refine lv_iload hx hb d_FB_number_20 (lv_at hl 0 rfl) ?_
        refine lv_if_lt (tgt := 50) hx hb d_FB_number_22 (by decide) (fun c_5 => ?_) (fun c_5 => ?_)
        · skip
          refine lv_iload_n hx hb d_FB_number_50 rfl (lv_at hl 1 rfl) ?_
          exact xreti (v := ((((0 : Int32) <<< ((8 : Int32) &&& 31)) ||| ((fr (j + 1)) &&& 255)) <<< ((8 : Int32) &&& 31)) ||| ((fr (j + 0)) &&& 255)) hx hb hr hlocks hK hP hD hS (rfl) (by simp only [fbNum]; rw [if_pos (p_in ej hj hn), ej, nI_toInt (by omega)]; rfl) d_FB_number_51
        · exact absurd c_5 (by decide)
  · skip
    have c_2 := bI_f c_2
    refine lv_iconst (v := 0) hx hb d_FB_number_11 (by decide) ?_
    exact xreti (v := 0) hx hb hr hlocks hK hP hD hS (rfl) (by simp only [fbNum]; rw [if_neg (p_nat2 c_2)]) d_FB_number_12
set_option maxHeartbeats 4000000 in
set_option maxRecDepth 100000 in
theorem c_fb_write4 (l : Launch) (dC : Nat → ClassId) (dI : Nat → Nat → Nat) (ad : Nat → Nat) (ck : Nat → ClassId) (rf : Int32) (n : Nat) (fr : Nat → Int32) (a : Nat) (ar : Nat → Int32) (z : Nat → Nat) (pc : Nat) (pe : Int32) (pt pp : Nat) (pf : Nat → Nat → Int32) (ic : Nat) (ie ip iz ia : Int32) (st rt : Nat → Int32) (pb : Nat → Nat → Int32) (k w : Int32) (hn : n ≤ 65536) (sz : Nat) : Met l y_FB_write w_FB_write { frames := 1, cells := 0, slots := 0, locals := 24 } (va_Pc [.ref (ad 1), .int k, .int 4, .int w] (xP (dC, dI) (tyG ck) (wsG ad ck rf n fr a ar z pc pe pt pp pf ic ie ip iz ia st rt pb) sz)) (xQi (dC, dI) (tyG ck) (va_A (wsG ad ck rf n fr a ar z pc pe pt pp pf ic ie ip iz ia st rt pb) sz) (wsG ad ck rf n (fbWr 4 n fr k w) a ar z pc pe pt pp pf ic ie ip iz ia st rt pb) (fun r => r = bI (0 ≤ k.toInt ∧ k.toInt + ((4 : Nat) : Int) ≤ (n : Int)))) 0 0 (va_A (wsG ad ck rf n fr a ar z pc pe pt pp pf ic ie ip iz ia st rt pb) sz) := by
  refine xof (cc := b_FB_write) (maxL := 5) (ret := (some .boolean)) (own := R_FB) (Qc := fun A => (xQi (dC, dI) (tyG ck) A (wsG ad ck rf n (fbWr 4 n fr k w) a ar z pc pe pt pp pf ic ie ip iz ia st rt pb) (fun r => r = bI (0 ≤ k.toInt ∧ k.toInt + ((4 : Nat) : Int) ≤ (n : Int))))) (by decide) rfl rfl (Nat.le_of_ble_eq_true rfl) ?_ sz
  intro p e s m below meth c A C hnm hK hP hD hA hN hZ hS ls hl
  obtain ⟨hx, hb, hr, hml, hown, hts, hlocks⟩ := C
  have hl : lv_has ls 5 [(0, .ref (ad 1)), (1, .int k), (2, .int 4), (3, .int w)] := hl
  refine lv_aload_n hx hb d_FB_write_0 rfl (lv_at hl 0 rfl) ?_
  refine lv_iload_n hx hb d_FB_write_1 rfl (lv_at hl 1 rfl) ?_
  refine lv_i2l hx hb d_FB_write_2 rfl ?_
  refine lv_iload_n hx hb d_FB_write_3 rfl (lv_at hl 2 rfl) ?_
  refine lv_i2l hx hb d_FB_write_4 rfl ?_
  refine xtopl (y := 4) (by decide) ?_
  refine xcalli (va_runV (As := [.long k.toInt64, .long 4]) (rest := []) ⟨hx, hb, hml, hown, hts⟩ (c_fb_holds l dC dI ad ck rf n fr a ar z pc pe pt pp pf ic ie ip iz ia st rt pb k.toInt64 4 hn s.heap.size) (cwV 2 hts (xgV wd_220 wd_221 wd_222 wd_16 wd_223) rfl rfl rfl (by decide +kernel) ⟨Nat.le_of_ble_eq_true rfl, Nat.le_of_ble_eq_true rfl⟩) (xpreV (q0 := 1) hK hN hZ hA hS hP hD rfl rfl) rfl rfl hl.1 rfl (lv_room (Nat.le_of_ble_eq_true rfl)) d_FB_write_5 ⟨Nat.zero_le _, Nat.zero_le _⟩) hD hS hA (fun r_1 H locs hr_1 hP hD hS => ?_)
  subst hr_1
  refine lv_if_ne (tgt := 13) hx hb d_FB_write_8 (by decide) (fun c_2 => ?_) (fun c_2 => ?_)
  · skip
    have c_2 := bI_t c_2
    obtain ⟨j, ej, hj⟩ := p_at4 c_2
    have hj : j + 4 ≤ n := hj
    rw [ej] at hl
    refine lv_iconst (v := 0) hx hb d_FB_write_13 (by decide) ?_
    refine lv_istore (lv' := [(4, .int 0), (0, .ref (ad 1)), (1, .int (nI j)), (2, .int 4), (3, .int w)]) hx hb d_FB_write_14 hl (by decide) rfl (fun ls hl => ?_)
    refine lv_iload hx hb d_FB_write_16 (lv_at hl 0 rfl) ?_
    refine lv_iload_n hx hb d_FB_write_18 rfl (lv_at hl 3 rfl) ?_
    refine lv_icmp_ge (tgt := 45) hx hb d_FB_write_19 (by decide) (fun c_3 => ?_) (fun c_3 => ?_)
    · exact absurd c_3 (by decide)
    · skip
      refine lv_aload_n hx hb d_FB_write_22 rfl (lv_at hl 1 rfl) ?_
      refine va_get (D := (dC, dI)) (ci := 1) (v := .ref (ad 2)) (C := R_FB) (T := T_FB) (N := 2) hx hb hts i_FB hown hK hP 1 rfl rfl 0 (by decide) (hts _ wd_41) (fun _ h9 => h9) rfl d_FB_write_23 ?_
      refine lv_iload_n hx hb d_FB_write_26 rfl (lv_at hl 2 rfl) ?_
      refine lv_iload hx hb d_FB_write_27 (lv_at hl 0 rfl) ?_
      refine lv_iadd hx hb d_FB_write_29 ?_
      refine xtopi (y := nI (j + 0)) (nI_add (j) (0)) ?_
      refine lv_iload_n hx hb d_FB_write_30 rfl (lv_at hl 4 rfl) ?_
      refine lv_bipush (v := 8) hx hb d_FB_write_31 (by decide) ?_
      refine lv_iload hx hb d_FB_write_33 (lv_at hl 0 rfl) ?_
      refine lv_imul hx hb d_FB_write_35 ?_
      refine lv_ishr hx hb d_FB_write_36 ?_
      refine lv_i2b hx hb d_FB_write_37 rfl ?_
      refine xbast (k := j + 0) (x' := (w >>> ((8 * 0 : Int32) &&& 31)).toInt8.toInt32) (ws1 := wsG ad ck rf n (upd fr (j + 0) ((w >>> ((8 * 0 : Int32) &&& 31)).toInt8.toInt32)) a ar z pc pe pt pp pf ic ie ip iz ia st rt pb) hx hb hK hP hD hS 2 0 rfl rfl (rfl) (by omega) (by decide) (pk_vb _) rfl d_FB_write_38 (fun H locs hP hD hS => ?_)
      refine lv_iinc (v := 1) (lv' := [(4, .int 1), (0, .ref (ad 1)), (1, .int (nI j)), (2, .int 4), (3, .int w)]) hx hb d_FB_write_39 hl (k := 0) rfl rfl (by decide) rfl (fun ls hl => ?_)
      refine lv_goto (tgt := 16) hx hb d_FB_write_42 (by decide) ?_
      refine lv_iload hx hb d_FB_write_16 (lv_at hl 0 rfl) ?_
      refine lv_iload_n hx hb d_FB_write_18 rfl (lv_at hl 3 rfl) ?_
      refine lv_icmp_ge (tgt := 45) hx hb d_FB_write_19 (by decide) (fun c_4 => ?_) (fun c_4 => ?_)
      · exact absurd c_4 (by decide)
      · skip
        refine lv_aload_n hx hb d_FB_write_22 rfl (lv_at hl 1 rfl) ?_
        refine va_get (D := (dC, dI)) (ci := 1) (v := .ref (ad 2)) (C := R_FB) (T := T_FB) (N := 2) hx hb hts i_FB hown hK hP 1 rfl rfl 0 (by decide) (hts _ wd_41) (fun _ h9 => h9) rfl d_FB_write_23 ?_
        refine lv_iload_n hx hb d_FB_write_26 rfl (lv_at hl 2 rfl) ?_
        refine lv_iload hx hb d_FB_write_27 (lv_at hl 0 rfl) ?_
        refine lv_iadd hx hb d_FB_write_29 ?_
        refine xtopi (y := nI (j + 1)) (nI_add (j) (1)) ?_
        refine lv_iload_n hx hb d_FB_write_30 rfl (lv_at hl 4 rfl) ?_
        refine lv_bipush (v := 8) hx hb d_FB_write_31 (by decide) ?_
        refine lv_iload hx hb d_FB_write_33 (lv_at hl 0 rfl) ?_
        refine lv_imul hx hb d_FB_write_35 ?_
        refine lv_ishr hx hb d_FB_write_36 ?_
        refine lv_i2b hx hb d_FB_write_37 rfl ?_
        refine xbast (k := j + 1) (x' := (w >>> ((8 * 1 : Int32) &&& 31)).toInt8.toInt32) (ws1 := wsG ad ck rf n (upd (upd fr (j + 0) ((w >>> ((8 * 0 : Int32) &&& 31)).toInt8.toInt32)) (j + 1) ((w >>> ((8 * 1 : Int32) &&& 31)).toInt8.toInt32)) a ar z pc pe pt pp pf ic ie ip iz ia st rt pb) hx hb hK hP hD hS 2 0 rfl rfl (rfl) (by omega) (by decide) (pk_vb _) rfl d_FB_write_38 (fun H locs hP hD hS => ?_)
        refine lv_iinc (v := 2) (lv' := [(4, .int 2), (0, .ref (ad 1)), (1, .int (nI j)), (2, .int 4), (3, .int w)]) hx hb d_FB_write_39 hl (k := 0) rfl rfl (by decide) rfl (fun ls hl => ?_)
        refine lv_goto (tgt := 16) hx hb d_FB_write_42 (by decide) ?_
        refine lv_iload hx hb d_FB_write_16 (lv_at hl 0 rfl) ?_
        refine lv_iload_n hx hb d_FB_write_18 rfl (lv_at hl 3 rfl) ?_
        refine lv_icmp_ge (tgt := 45) hx hb d_FB_write_19 (by decide) (fun c_5 => ?_) (fun c_5 => ?_)
        · exact absurd c_5 (by decide)
        · skip
          refine lv_aload_n hx hb d_FB_write_22 rfl (lv_at hl 1 rfl) ?_
          refine va_get (D := (dC, dI)) (ci := 1) (v := .ref (ad 2)) (C := R_FB) (T := T_FB) (N := 2) hx hb hts i_FB hown hK hP 1 rfl rfl 0 (by decide) (hts _ wd_41) (fun _ h9 => h9) rfl d_FB_write_23 ?_
          refine lv_iload_n hx hb d_FB_write_26 rfl (lv_at hl 2 rfl) ?_
          refine lv_iload hx hb d_FB_write_27 (lv_at hl 0 rfl) ?_
          refine lv_iadd hx hb d_FB_write_29 ?_
          refine xtopi (y := nI (j + 2)) (nI_add (j) (2)) ?_
          refine lv_iload_n hx hb d_FB_write_30 rfl (lv_at hl 4 rfl) ?_
          refine lv_bipush (v := 8) hx hb d_FB_write_31 (by decide) ?_
          refine lv_iload hx hb d_FB_write_33 (lv_at hl 0 rfl) ?_
          refine lv_imul hx hb d_FB_write_35 ?_
          refine lv_ishr hx hb d_FB_write_36 ?_
          refine lv_i2b hx hb d_FB_write_37 rfl ?_
          refine xbast (k := j + 2) (x' := (w >>> ((8 * 2 : Int32) &&& 31)).toInt8.toInt32) (ws1 := wsG ad ck rf n (upd (upd (upd fr (j + 0) ((w >>> ((8 * 0 : Int32) &&& 31)).toInt8.toInt32)) (j + 1) ((w >>> ((8 * 1 : Int32) &&& 31)).toInt8.toInt32)) (j + 2) ((w >>> ((8 * 2 : Int32) &&& 31)).toInt8.toInt32)) a ar z pc pe pt pp pf ic ie ip iz ia st rt pb) hx hb hK hP hD hS 2 0 rfl rfl (rfl) (by omega) (by decide) (pk_vb _) rfl d_FB_write_38 (fun H locs hP hD hS => ?_)
          refine lv_iinc (v := 3) (lv' := [(4, .int 3), (0, .ref (ad 1)), (1, .int (nI j)), (2, .int 4), (3, .int w)]) hx hb d_FB_write_39 hl (k := 0) rfl rfl (by decide) rfl (fun ls hl => ?_)
          refine lv_goto (tgt := 16) hx hb d_FB_write_42 (by decide) ?_
          refine lv_iload hx hb d_FB_write_16 (lv_at hl 0 rfl) ?_
          refine lv_iload_n hx hb d_FB_write_18 rfl (lv_at hl 3 rfl) ?_
          refine lv_icmp_ge (tgt := 45) hx hb d_FB_write_19 (by decide) (fun c_6 => ?_) (fun c_6 => ?_)
          · exact absurd c_6 (by decide)
          · skip
            refine lv_aload_n hx hb d_FB_write_22 rfl (lv_at hl 1 rfl) ?_
            refine va_get (D := (dC, dI)) (ci := 1) (v := .ref (ad 2)) (C := R_FB) (T := T_FB) (N := 2) hx hb hts i_FB hown hK hP 1 rfl rfl 0 (by decide) (hts _ wd_41) (fun _ h9 => h9) rfl d_FB_write_23 ?_
            refine lv_iload_n hx hb d_FB_write_26 rfl (lv_at hl 2 rfl) ?_
            refine lv_iload hx hb d_FB_write_27 (lv_at hl 0 rfl) ?_
            refine lv_iadd hx hb d_FB_write_29 ?_
            refine xtopi (y := nI (j + 3)) (nI_add (j) (3)) ?_
            refine lv_iload_n hx hb d_FB_write_30 rfl (lv_at hl 4 rfl) ?_
            refine lv_bipush (v := 8) hx hb d_FB_write_31 (by decide) ?_
            refine lv_iload hx hb d_FB_write_33 (lv_at hl 0 rfl) ?_
            refine lv_imul hx hb d_FB_write_35 ?_
            refine lv_ishr hx hb d_FB_write_36 ?_
            refine lv_i2b hx hb d_FB_write_37 rfl ?_
            refine xbast (k := j + 3) (x' := (w >>> ((8 * 3 : Int32) &&& 31)).toInt8.toInt32) (ws1 := wsG ad ck rf n (upd (upd (upd (upd fr (j + 0) ((w >>> ((8 * 0 : Int32) &&& 31)).toInt8.toInt32)) (j + 1) ((w >>> ((8 * 1 : Int32) &&& 31)).toInt8.toInt32)) (j + 2) ((w >>> ((8 * 2 : Int32) &&& 31)).toInt8.toInt32)) (j + 3) ((w >>> ((8 * 3 : Int32) &&& 31)).toInt8.toInt32)) a ar z pc pe pt pp pf ic ie ip iz ia st rt pb) hx hb hK hP hD hS 2 0 rfl rfl (rfl) (by omega) (by decide) (pk_vb _) rfl d_FB_write_38 (fun H locs hP hD hS => ?_)
            refine lv_iinc (v := 4) (lv' := [(4, .int 4), (0, .ref (ad 1)), (1, .int (nI j)), (2, .int 4), (3, .int w)]) hx hb d_FB_write_39 hl (k := 0) rfl rfl (by decide) rfl (fun ls hl => ?_)
            refine lv_goto (tgt := 16) hx hb d_FB_write_42 (by decide) ?_
            refine lv_iload hx hb d_FB_write_16 (lv_at hl 0 rfl) ?_
            refine lv_iload_n hx hb d_FB_write_18 rfl (lv_at hl 3 rfl) ?_
            refine lv_icmp_ge (tgt := 45) hx hb d_FB_write_19 (by decide) (fun c_7 => ?_) (fun c_7 => ?_)
            · skip
              refine lv_iconst (v := 1) hx hb d_FB_write_45 (by decide) ?_
              have hw9 : wsG ad ck rf n (upd (upd (upd (upd fr (j + 0) ((w >>> ((8 * 0 : Int32) &&& 31)).toInt8.toInt32)) (j + 1) ((w >>> ((8 * 1 : Int32) &&& 31)).toInt8.toInt32)) (j + 2) ((w >>> ((8 * 2 : Int32) &&& 31)).toInt8.toInt32)) (j + 3) ((w >>> ((8 * 3 : Int32) &&& 31)).toInt8.toInt32)) a ar z pc pe pt pp pf ic ie ip iz ia st rt pb = wsG ad ck rf n (fbWr 4 n fr k w) a ar z pc pe pt pp pf ic ie ip iz ia st rt pb := by simp only [fbWr]; rw [if_pos (p_in ej hj hn), ej, nI_toInt (by omega)]; rfl
              rw [hw9] at hP hD
              exact xreti (v := 1) hx hb hr hlocks hK hP hD hS (rfl) (bI_1 (p_in ej hj hn)) d_FB_write_46
            · exact absurd c_7 (by decide)
  · skip
    have c_2 := bI_f c_2
    refine lv_iconst (v := 0) hx hb d_FB_write_11 (by decide) ?_
    have hw9 : wsG ad ck rf n fr a ar z pc pe pt pp pf ic ie ip iz ia st rt pb = wsG ad ck rf n (fbWr 4 n fr k w) a ar z pc pe pt pp pf ic ie ip iz ia st rt pb := by simp only [fbWr]; rw [if_neg (p_nat4 c_2)]
    rw [hw9] at hP hD
    exact xreti (v := 0) hx hb hr hlocks hK hP hD hS (rfl) (bI_0 (p_nat4 c_2)) d_FB_write_12
set_option maxHeartbeats 4000000 in
set_option maxRecDepth 100000 in
theorem c_fb_number4 (l : Launch) (dC : Nat → ClassId) (dI : Nat → Nat → Nat) (ad : Nat → Nat) (ck : Nat → ClassId) (rf : Int32) (n : Nat) (fr : Nat → Int32) (a : Nat) (ar : Nat → Int32) (z : Nat → Nat) (pc : Nat) (pe : Int32) (pt pp : Nat) (pf : Nat → Nat → Int32) (ic : Nat) (ie ip iz ia : Int32) (st rt : Nat → Int32) (pb : Nat → Nat → Int32) (k : Int32) (hn : n ≤ 65536) (sz : Nat) : Met l y_FB_number w_FB_number { frames := 1, cells := 0, slots := 0, locals := 24 } (va_Pc [.ref (ad 1), .int k, .int 4] (xP (dC, dI) (tyG ck) (wsG ad ck rf n fr a ar z pc pe pt pp pf ic ie ip iz ia st rt pb) sz)) (xQi (dC, dI) (tyG ck) (va_A (wsG ad ck rf n fr a ar z pc pe pt pp pf ic ie ip iz ia st rt pb) sz) (wsG ad ck rf n fr a ar z pc pe pt pp pf ic ie ip iz ia st rt pb) (fun r => r = fbNum 4 n fr k)) 0 0 (va_A (wsG ad ck rf n fr a ar z pc pe pt pp pf ic ie ip iz ia st rt pb) sz) := by
  refine xof (cc := b_FB_number) (maxL := 5) (ret := (some .int)) (own := R_FB) (Qc := fun A => (xQi (dC, dI) (tyG ck) A (wsG ad ck rf n fr a ar z pc pe pt pp pf ic ie ip iz ia st rt pb) (fun r => r = fbNum 4 n fr k))) (by decide) rfl rfl (Nat.le_of_ble_eq_true rfl) ?_ sz
  intro p e s m below meth c A C hnm hK hP hD hA hN hZ hS ls hl
  obtain ⟨hx, hb, hr, hml, hown, hts, hlocks⟩ := C
  have hl : lv_has ls 5 [(0, .ref (ad 1)), (1, .int k), (2, .int 4)] := hl
  refine lv_aload_n hx hb d_FB_number_0 rfl (lv_at hl 0 rfl) ?_
  refine lv_iload_n hx hb d_FB_number_1 rfl (lv_at hl 1 rfl) ?_
  refine lv_i2l hx hb d_FB_number_2 rfl ?_
  refine lv_iload_n hx hb d_FB_number_3 rfl (lv_at hl 2 rfl) ?_
  refine lv_i2l hx hb d_FB_number_4 rfl ?_
  refine xtopl (y := 4) (by decide) ?_
  refine xcalli (va_runV (As := [.long k.toInt64, .long 4]) (rest := []) ⟨hx, hb, hml, hown, hts⟩ (c_fb_holds l dC dI ad ck rf n fr a ar z pc pe pt pp pf ic ie ip iz ia st rt pb k.toInt64 4 hn s.heap.size) (cwV 2 hts (xgV wd_220 wd_221 wd_222 wd_16 wd_223) rfl rfl rfl (by decide +kernel) ⟨Nat.le_of_ble_eq_true rfl, Nat.le_of_ble_eq_true rfl⟩) (xpreV (q0 := 1) hK hN hZ hA hS hP hD rfl rfl) rfl rfl hl.1 rfl (lv_room (Nat.le_of_ble_eq_true rfl)) d_FB_number_5 ⟨Nat.zero_le _, Nat.zero_le _⟩) hD hS hA (fun r_1 H locs hr_1 hP hD hS => ?_)
  subst hr_1
  refine lv_if_ne (tgt := 13) hx hb d_FB_number_8 (by decide) (fun c_2 => ?_) (fun c_2 => ?_)
  · skip
    have c_2 := bI_t c_2
    obtain ⟨j, ej, hj⟩ := p_at4 c_2
    have hj : j + 4 ≤ n := hj
    rw [ej] at hl
    refine lv_iconst (v := 0) hx hb d_FB_number_13 (by decide) ?_
    refine lv_istore_n (lv' := [(3, .int 0), (0, .ref (ad 1)), (1, .int (nI j)), (2, .int 4)]) hx hb d_FB_number_14 rfl hl (by decide) rfl (fun ls hl => ?_)
    refine lv_iload_n hx hb d_FB_number_15 rfl (lv_at hl 3 rfl) ?_
    refine lv_iconst (v := 1) hx hb d_FB_number_16 (by decide) ?_
    refine lv_isub hx hb d_FB_number_17 ?_
    refine xtopi (y := 3) (by decide) ?_
    refine lv_istore (lv' := [(4, .int 3), (3, .int 0), (0, .ref (ad 1)), (1, .int (nI j)), (2, .int 4)]) hx hb d_FB_number_18 hl (by decide) rfl (fun ls hl => ?_)
    refine lv_iload hx hb d_FB_number_20 (lv_at hl 0 rfl) ?_
    refine lv_if_lt (tgt := 50) hx hb d_FB_number_22 (by decide) (fun c_3 => ?_) (fun c_3 => ?_)
    · exact absurd c_3 (by decide)
    · skip
      refine lv_iload_n hx hb d_FB_number_25 rfl (lv_at hl 1 rfl) ?_
      refine lv_bipush (v := 8) hx hb d_FB_number_26 (by decide) ?_
      refine lv_ishl hx hb d_FB_number_28 ?_
      refine lv_aload_n hx hb d_FB_number_29 rfl (lv_at hl 2 rfl) ?_
      refine va_get (D := (dC, dI)) (ci := 1) (v := .ref (ad 2)) (C := R_FB) (T := T_FB) (N := 2) hx hb hts i_FB hown hK hP 1 rfl rfl 0 (by decide) (hts _ wd_41) (fun _ h9 => h9) rfl d_FB_number_30 ?_
      refine lv_iload_n hx hb d_FB_number_33 rfl (lv_at hl 3 rfl) ?_
      refine lv_iload hx hb d_FB_number_34 (lv_at hl 0 rfl) ?_
      refine lv_iadd hx hb d_FB_number_36 ?_
      refine xtopi (y := nI (j + 3)) (nI_add (j) (3)) ?_
      refine xbald (k := j + 3) hx hb hK hP 2 0 rfl rfl (rfl) (by omega) (by decide) d_FB_number_37 ?_
      refine lv_sipush (v := 255) hx hb d_FB_number_38 (by decide) ?_
      refine lv_iand hx hb d_FB_number_41 ?_
      refine lv_ior hx hb d_FB_number_42 ?_
      refine lv_istore_n (lv' := [(3, .int (((0 : Int32) <<< ((8 : Int32) &&& 31)) ||| ((fr (j + 3)) &&& 255))), (4, .int 3), (0, .ref (ad 1)), (1, .int (nI j)), (2, .int 4)]) hx hb d_FB_number_43 rfl hl (by decide) rfl (fun ls hl => ?_)
      refine lv_iinc (v := 2) (lv' := [(4, .int 2), (3, .int (((0 : Int32) <<< ((8 : Int32) &&& 31)) ||| ((fr (j + 3)) &&& 255))), (0, .ref (ad 1)), (1, .int (nI j)), (2, .int 4)]) hx hb d_FB_number_44 hl (k := 1) rfl rfl (by decide) rfl (fun ls hl => ?_)
      refine lv_goto (tgt := 20) hx hb d_FB_number_47 (by decide) ?_
      refine lv_iload hx hb d_FB_number_20 (lv_at hl 0 rfl) ?_
      refine lv_if_lt (tgt := 50) hx hb d_FB_number_22 (by decide) (fun c_4 => ?_) (fun c_4 => ?_)
      · exact absurd c_4 (by decide)
      · skip
        refine lv_iload_n hx hb d_FB_number_25 rfl (lv_at hl 1 rfl) ?_
        refine lv_bipush (v := 8) hx hb d_FB_number_26 (by decide) ?_
        refine lv_ishl hx hb d_FB_number_28 ?_
        refine lv_aload_n hx hb d_FB_number_29 rfl (lv_at hl 2 rfl) ?_
        refine va_get (D := (dC, dI)) (ci := 1) (v := .ref (ad 2)) (C := R_FB) (T := T_FB) (N := 2) hx hb hts i_FB hown hK hP 1 rfl rfl 0 (by decide) (hts _ wd_41) (fun _ h9 => h9) rfl d_FB_number_30 ?_
        refine lv_iload_n hx hb d_FB_number_33 rfl (lv_at hl 3 rfl) ?_
        refine lv_iload hx hb d_FB_number_34 (lv_at hl 0 rfl) ?_
        refine lv_iadd hx hb d_FB_number_36 ?_
        refine xtopi (y := nI (j + 2)) (nI_add (j) (2)) ?_
        refine xbald (k := j + 2) hx hb hK hP 2 0 rfl rfl (rfl) (by omega) (by decide) d_FB_number_37 ?_
        refine lv_sipush (v := 255) hx hb d_FB_number_38 (by decide) ?_
        refine lv_iand hx hb d_FB_number_41 ?_
        refine lv_ior hx hb d_FB_number_42 ?_
        refine lv_istore_n (lv' := [(3, .int (((((0 : Int32) <<< ((8 : Int32) &&& 31)) ||| ((fr (j + 3)) &&& 255)) <<< ((8 : Int32) &&& 31)) ||| ((fr (j + 2)) &&& 255))), (4, .int 2), (0, .ref (ad 1)), (1, .int (nI j)), (2, .int 4)]) hx hb d_FB_number_43 rfl hl (by decide) rfl (fun ls hl => ?_)
        refine lv_iinc (v := 1) (lv' := [(4, .int 1), (3, .int (((((0 : Int32) <<< ((8 : Int32) &&& 31)) ||| ((fr (j + 3)) &&& 255)) <<< ((8 : Int32) &&& 31)) ||| ((fr (j + 2)) &&& 255))), (0, .ref (ad 1)), (1, .int (nI j)), (2, .int 4)]) hx hb d_FB_number_44 hl (k := 1) rfl rfl (by decide) rfl (fun ls hl => ?_)
        refine lv_goto (tgt := 20) hx hb d_FB_number_47 (by decide) ?_
        refine lv_iload hx hb d_FB_number_20 (lv_at hl 0 rfl) ?_
        refine lv_if_lt (tgt := 50) hx hb d_FB_number_22 (by decide) (fun c_5 => ?_) (fun c_5 => ?_)
        · exact absurd c_5 (by decide)
        · skip
          refine lv_iload_n hx hb d_FB_number_25 rfl (lv_at hl 1 rfl) ?_
          refine lv_bipush (v := 8) hx hb d_FB_number_26 (by decide) ?_
          refine lv_ishl hx hb d_FB_number_28 ?_
          refine lv_aload_n hx hb d_FB_number_29 rfl (lv_at hl 2 rfl) ?_
          refine va_get (D := (dC, dI)) (ci := 1) (v := .ref (ad 2)) (C := R_FB) (T := T_FB) (N := 2) hx hb hts i_FB hown hK hP 1 rfl rfl 0 (by decide) (hts _ wd_41) (fun _ h9 => h9) rfl d_FB_number_30 ?_
          refine lv_iload_n hx hb d_FB_number_33 rfl (lv_at hl 3 rfl) ?_
          refine lv_iload hx hb d_FB_number_34 (lv_at hl 0 rfl) ?_
          refine lv_iadd hx hb d_FB_number_36 ?_
          refine xtopi (y := nI (j + 1)) (nI_add (j) (1)) ?_
          refine xbald (k := j + 1) hx hb hK hP 2 0 rfl rfl (rfl) (by omega) (by decide) d_FB_number_37 ?_
          refine lv_sipush (v := 255) hx hb d_FB_number_38 (by decide) ?_
          refine lv_iand hx hb d_FB_number_41 ?_
          refine lv_ior hx hb d_FB_number_42 ?_
          refine lv_istore_n (lv' := [(3, .int (((((((0 : Int32) <<< ((8 : Int32) &&& 31)) ||| ((fr (j + 3)) &&& 255)) <<< ((8 : Int32) &&& 31)) ||| ((fr (j + 2)) &&& 255)) <<< ((8 : Int32) &&& 31)) ||| ((fr (j + 1)) &&& 255))), (4, .int 1), (0, .ref (ad 1)), (1, .int (nI j)), (2, .int 4)]) hx hb d_FB_number_43 rfl hl (by decide) rfl (fun ls hl => ?_)
          refine lv_iinc (v := 0) (lv' := [(4, .int 0), (3, .int (((((((0 : Int32) <<< ((8 : Int32) &&& 31)) ||| ((fr (j + 3)) &&& 255)) <<< ((8 : Int32) &&& 31)) ||| ((fr (j + 2)) &&& 255)) <<< ((8 : Int32) &&& 31)) ||| ((fr (j + 1)) &&& 255))), (0, .ref (ad 1)), (1, .int (nI j)), (2, .int 4)]) hx hb d_FB_number_44 hl (k := 1) rfl rfl (by decide) rfl (fun ls hl => ?_)
          refine lv_goto (tgt := 20) hx hb d_FB_number_47 (by decide) ?_
          refine lv_iload hx hb d_FB_number_20 (lv_at hl 0 rfl) ?_
          refine lv_if_lt (tgt := 50) hx hb d_FB_number_22 (by decide) (fun c_6 => ?_) (fun c_6 => ?_)
          · exact absurd c_6 (by decide)
          · skip
            refine lv_iload_n hx hb d_FB_number_25 rfl (lv_at hl 1 rfl) ?_
            refine lv_bipush (v := 8) hx hb d_FB_number_26 (by decide) ?_
            refine lv_ishl hx hb d_FB_number_28 ?_
            refine lv_aload_n hx hb d_FB_number_29 rfl (lv_at hl 2 rfl) ?_
            refine va_get (D := (dC, dI)) (ci := 1) (v := .ref (ad 2)) (C := R_FB) (T := T_FB) (N := 2) hx hb hts i_FB hown hK hP 1 rfl rfl 0 (by decide) (hts _ wd_41) (fun _ h9 => h9) rfl d_FB_number_30 ?_
            refine lv_iload_n hx hb d_FB_number_33 rfl (lv_at hl 3 rfl) ?_
            refine lv_iload hx hb d_FB_number_34 (lv_at hl 0 rfl) ?_
            refine lv_iadd hx hb d_FB_number_36 ?_
            refine xtopi (y := nI (j + 0)) (nI_add (j) (0)) ?_
            refine xbald (k := j + 0) hx hb hK hP 2 0 rfl rfl (rfl) (by omega) (by decide) d_FB_number_37 ?_
            refine lv_sipush (v := 255) hx hb d_FB_number_38 (by decide) ?_
            refine lv_iand hx hb d_FB_number_41 ?_
            refine lv_ior hx hb d_FB_number_42 ?_
            refine lv_istore_n (lv' := [(3, .int (((((((((0 : Int32) <<< ((8 : Int32) &&& 31)) ||| ((fr (j + 3)) &&& 255)) <<< ((8 : Int32) &&& 31)) ||| ((fr (j + 2)) &&& 255)) <<< ((8 : Int32) &&& 31)) ||| ((fr (j + 1)) &&& 255)) <<< ((8 : Int32) &&& 31)) ||| ((fr (j + 0)) &&& 255))), (4, .int 0), (0, .ref (ad 1)), (1, .int (nI j)), (2, .int 4)]) hx hb d_FB_number_43 rfl hl (by decide) rfl (fun ls hl => ?_)
            refine lv_iinc (v := (-1)) (lv' := [(4, .int (-1)), (3, .int (((((((((0 : Int32) <<< ((8 : Int32) &&& 31)) ||| ((fr (j + 3)) &&& 255)) <<< ((8 : Int32) &&& 31)) ||| ((fr (j + 2)) &&& 255)) <<< ((8 : Int32) &&& 31)) ||| ((fr (j + 1)) &&& 255)) <<< ((8 : Int32) &&& 31)) ||| ((fr (j + 0)) &&& 255))), (0, .ref (ad 1)), (1, .int (nI j)), (2, .int 4)]) hx hb d_FB_number_44 hl (k := 1) rfl rfl (by decide) rfl (fun ls hl => ?_)
            refine lv_goto (tgt := 20) hx hb d_FB_number_47 (by decide) ?_
            refine lv_iload hx hb d_FB_number_20 (lv_at hl 0 rfl) ?_
            refine lv_if_lt (tgt := 50) hx hb d_FB_number_22 (by decide) (fun c_7 => ?_) (fun c_7 => ?_)
            · skip
              refine lv_iload_n hx hb d_FB_number_50 rfl (lv_at hl 1 rfl) ?_
              exact xreti (v := ((((((((0 : Int32) <<< ((8 : Int32) &&& 31)) ||| ((fr (j + 3)) &&& 255)) <<< ((8 : Int32) &&& 31)) ||| ((fr (j + 2)) &&& 255)) <<< ((8 : Int32) &&& 31)) ||| ((fr (j + 1)) &&& 255)) <<< ((8 : Int32) &&& 31)) ||| ((fr (j + 0)) &&& 255)) hx hb hr hlocks hK hP hD hS (rfl) (by simp only [fbNum]; rw [if_pos (p_in ej hj hn), ej, nI_toInt (by omega)]; rfl) d_FB_number_51
            · exact absurd c_7 (by decide)
  · skip
    have c_2 := bI_f c_2
    refine lv_iconst (v := 0) hx hb d_FB_number_11 (by decide) ?_
    exact xreti (v := 0) hx hb hr hlocks hK hP hD hS (rfl) (by simp only [fbNum]; rw [if_neg (p_nat4 c_2)]) d_FB_number_12
set_option maxHeartbeats 4000000 in
set_option maxRecDepth 100000 in
theorem c_fb_unsigned (l : Launch) (dC : Nat → ClassId) (dI : Nat → Nat → Nat) (ad : Nat → Nat) (ck : Nat → ClassId) (rf : Int32) (n : Nat) (fr : Nat → Int32) (a : Nat) (ar : Nat → Int32) (z : Nat → Nat) (pc : Nat) (pe : Int32) (pt pp : Nat) (pf : Nat → Nat → Int32) (ic : Nat) (ie ip iz ia : Int32) (st rt : Nat → Int32) (pb : Nat → Nat → Int32) (k : Int32) (hn : n ≤ 65536) (sz : Nat) : Met l y_FB_unsigned w_FB_unsigned { frames := 2, cells := 0, slots := 0, locals := 48 } (va_Pc [.ref (ad 1), .int k] (xP (dC, dI) (tyG ck) (wsG ad ck rf n fr a ar z pc pe pt pp pf ic ie ip iz ia st rt pb) sz)) (xQl (dC, dI) (tyG ck) (va_A (wsG ad ck rf n fr a ar z pc pe pt pp pf ic ie ip iz ia st rt pb) sz) (wsG ad ck rf n fr a ar z pc pe pt pp pf ic ie ip iz ia st rt pb) (fun r => r = fbUns n fr k)) 0 0 (va_A (wsG ad ck rf n fr a ar z pc pe pt pp pf ic ie ip iz ia st rt pb) sz) := by
  refine xof (cc := b_FB_unsigned) (maxL := 2) (ret := (some .long)) (own := R_FB) (Qc := fun A => (xQl (dC, dI) (tyG ck) A (wsG ad ck rf n fr a ar z pc pe pt pp pf ic ie ip iz ia st rt pb) (fun r => r = fbUns n fr k))) (by decide) rfl rfl (Nat.le_of_ble_eq_true rfl) ?_ sz
  intro p e s m below meth c A C hnm hK hP hD hA hN hZ hS ls hl
  obtain ⟨hx, hb, hr, hml, hown, hts, hlocks⟩ := C
  have hl : lv_has ls 2 [(0, .ref (ad 1)), (1, .int k)] := hl
  refine lv_aload_n hx hb d_FB_unsigned_0 rfl (lv_at hl 0 rfl) ?_
  refine lv_iload_n hx hb d_FB_unsigned_1 rfl (lv_at hl 1 rfl) ?_
  refine lv_iconst (v := 4) hx hb d_FB_unsigned_2 (by decide) ?_
  refine xcalli (va_runV (As := [.int k, .int 4]) (rest := []) ⟨hx, hb, hml, hown, hts⟩ (c_fb_number4 l dC dI ad ck rf n fr a ar z pc pe pt pp pf ic ie ip iz ia st rt pb k hn s.heap.size) (cwV 2 hts (xgV wd_296 wd_278 wd_279 wd_16 wd_280) rfl rfl rfl (by decide +kernel) ⟨Nat.le_of_ble_eq_true rfl, Nat.le_of_ble_eq_true rfl⟩) (xpreV (q0 := 1) hK hN hZ hA hS hP hD rfl rfl) rfl rfl hl.1 rfl (lv_room (Nat.le_of_ble_eq_true rfl)) d_FB_unsigned_3 ⟨Nat.zero_le _, Nat.zero_le _⟩) hD hS hA (fun r_1 H locs hr_1 hP hD hS => ?_)
  subst hr_1
  refine lv_i2l hx hb d_FB_unsigned_6 rfl ?_
  refine lv_ldc2 (v := 4294967295) hx hb hown (hts _ wd_297) d_FB_unsigned_7 ?_
  refine lv_land hx hb d_FB_unsigned_10 ?_
  exact xretl hx hb hr hlocks hK hP hD hS (rfl) d_FB_unsigned_11
