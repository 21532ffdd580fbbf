set_option maxHeartbeats 4000000 in
set_option maxRecDepth 100000 in
theorem c_im_lay (l : Launch) (dC : Nat → ClassId) (dI : Nat → Nat → Nat) (ad : Nat → Nat) (ck : Nat → ClassId) (rf : Int32) (n : Nat) (fr : Nat → Int32) (a : Nat) (ar : Nat → Int32) (z : Nat → Nat) (pc : Nat) (pe : Int32) (pt pp : Nat) (pf : Nat → Nat → Int32) (ic : Nat) (ie ip iz ia : Int32) (st rt : Nat → Int32) (pb : Nat → Nat → Int32) (P : Nat) (hpc : pc ≤ 8) (hsum : gsum (ptG pf) pc + 2 ≤ 32) (hfb : ∀ p, p < pc → tN (pf p 0) + tN (pf p 1) ≤ n) (hsp : spOf z a = nI P) (hP4 : P + 4 * (a + 1) ≤ tpN z a) (hFr : sb_Fit fr) (hAr : sb_Fit ar) (ha : a ≤ 32) (hz : ∀ j, z j ≤ 127) (hn : n ≤ 65536) (sz : Nat) : Met l y_IM_lay w_IM_lay { frames := 4, cells := 0, slots := 0, locals := 108 } (va_Pc [.ref (ad 8), .ref (ad 6), .ref (ad 1), .ref (ad 3)] (xP (dC, dI) (tyG ck) (wsG ad ck rf n fr a ar z pc pe pt pp pf ic ie ip iz ia st rt pb) sz)) (xQv (dC, dI) (tyG ck) (va_A (wsG ad ck rf n fr a ar z pc pe pt pp pf ic ie ip iz ia st rt pb) sz) (wsG ad ck rf n fr a ar z pc pe pt pp pf (gsum (ptG pf) pc + 1 + 1) pe ((upd (upd (lyS st pf pc) (gsum (ptG pf) pc) (nI pt)) (gsum (ptG pf) pc + 1) (nI (pt + 4096))) (gsum (ptG pf) pc + 1) + nI P) (nI (pt + 8192)) (nI a) (upd (upd (lyS st pf pc) (gsum (ptG pf) pc) (nI pt)) (gsum (ptG pf) pc + 1) (nI (pt + 4096))) (upd (upd (lyR rt pf pc) (gsum (ptG pf) pc) 3) (gsum (ptG pf) pc + 1) 11) (upr (lpZ (lpZ (lyB pb fr pf pc) (gsum (ptG pf) pc)) (gsum (ptG pf) pc + 1)) (gsum (ptG pf) pc + 1) (skT ((lpZ (lpZ (lyB pb fr pf pc) (gsum (ptG pf) pc)) (gsum (ptG pf) pc + 1)) (gsum (ptG pf) pc + 1)) ar z P ((upd (upd (lyS st pf pc) (gsum (ptG pf) pc) (nI pt)) (gsum (ptG pf) pc + 1) (nI (pt + 4096))) (gsum (ptG pf) pc + 1)) a)))) 0 0 (va_A (wsG ad ck rf n fr a ar z pc pe pt pp pf ic ie ip iz ia st rt pb) sz) := by
  refine xof (cc := b_IM_lay) (maxL := 5) (ret := none) (own := R_IM) (Qc := fun A => (xQv (dC, dI) (tyG ck) A (wsG ad ck rf n fr a ar z pc pe pt pp pf (gsum (ptG pf) pc + 1 + 1) pe ((upd (upd (lyS st pf pc) (gsum (ptG pf) pc) (nI pt)) (gsum (ptG pf) pc + 1) (nI (pt + 4096))) (gsum (ptG pf) pc + 1) + nI P) (nI (pt + 8192)) (nI a) (upd (upd (lyS st pf pc) (gsum (ptG pf) pc) (nI pt)) (gsum (ptG pf) pc + 1) (nI (pt + 4096))) (upd (upd (lyR rt pf pc) (gsum (ptG pf) pc) 3) (gsum (ptG pf) pc + 1) 11) (upr (lpZ (lpZ (lyB pb fr pf pc) (gsum (ptG pf) pc)) (gsum (ptG pf) pc + 1)) (gsum (ptG pf) pc + 1) (skT ((lpZ (lpZ (lyB pb fr pf pc) (gsum (ptG pf) pc)) (gsum (ptG pf) pc + 1)) (gsum (ptG pf) pc + 1)) ar z P ((upd (upd (lyS st pf pc) (gsum (ptG pf) pc) (nI pt)) (gsum (ptG pf) pc + 1) (nI (pt + 4096))) (gsum (ptG pf) pc + 1)) a))))) (by decide) rfl rfl (Nat.le_of_ble_eq_true rfl) ?_ sz
  intro p e s m below meth c A C hnm hK hP hD hA hN hZ hS ls hl
  obtain ⟨hx, hb, hr, hml, hown, hts, hlocks⟩ := C
  have hl : lv_has ls 5 [(0, .ref (ad 8)), (1, .ref (ad 6)), (2, .ref (ad 1)), (3, .ref (ad 3))] := hl
  refine lv_aload_n hx hb d_IM_lay_0 rfl (lv_at hl 0 rfl) ?_
  refine lv_iconst (v := 0) hx hb d_IM_lay_1 (by decide) ?_
  refine va_put (D := (dC, dI)) (ci := 2) (v := .int 0) (ty := .int) (C := R_IM) (T := T_IM) (N := 6) hx hb hts i_IM t_IM k_IM n_IM hown hK hP hD hS 8 rfl rfl 1 (by decide) (hts _ wd_153) (fun _ h9 => h9) rfl (by decide +kernel) rfl rfl (Nat.le_of_ble_eq_true rfl) d_IM_lay_2 (fun H locs hP hD hS => ?_)
  have hP : va_P (dC, dI) vwCl (wsG ad ck rf n fr a ar z pc pe pt pp pf 0 ie ip iz ia st rt pb) H := hP
  have hD : va_D A (wsG ad ck rf n fr a ar z pc pe pt pp pf 0 ie ip iz ia st rt pb) := hD
  refine lv_aload_n hx hb d_IM_lay_5 rfl (lv_at hl 0 rfl) ?_
  refine lv_aload_n hx hb d_IM_lay_6 rfl (lv_at hl 1 rfl) ?_
  refine va_getN (D := (dC, dI)) (ci := 5) (v := .int pe) (C := R_PL) (T := T_PL) (N := 5) hx hb hts i_PL hown hK hP 6 rfl rfl 2 (by decide) (hN.use wd_107) (fun _ h9 => h9) rfl d_IM_lay_7 ?_
  refine va_put (D := (dC, dI)) (ci := 2) (v := .int pe) (ty := .int) (C := R_IM) (T := T_IM) (N := 6) hx hb hts i_IM t_IM k_IM n_IM hown hK hP hD hS 8 rfl rfl 2 (by decide) (hts _ wd_155) (fun _ h9 => h9) rfl (by decide +kernel) rfl rfl (Nat.le_of_ble_eq_true rfl) d_IM_lay_10 (fun H locs hP hD hS => ?_)
  have hP : va_P (dC, dI) vwCl (wsG ad ck rf n fr a ar z pc pe pt pp pf 0 pe ip iz ia st rt pb) H := hP
  have hD : va_D A (wsG ad ck rf n fr a ar z pc pe pt pp pf 0 pe ip iz ia st rt pb) := hD
  refine lv_aload_n hx hb d_IM_lay_13 rfl (lv_at hl 0 rfl) ?_
  refine lv_aload_n hx hb d_IM_lay_14 rfl (lv_at hl 1 rfl) ?_
  refine va_getN (D := (dC, dI)) (ci := 5) (v := .int (nI pt)) (C := R_PL) (T := T_PL) (N := 5) hx hb hts i_PL hown hK hP 6 rfl rfl 3 (by decide) (hN.use wd_109) (fun _ h9 => h9) rfl d_IM_lay_15 ?_
  refine lv_sipush (v := 8192) hx hb d_IM_lay_18 (by decide) ?_
  refine lv_iadd hx hb d_IM_lay_21 ?_
  refine xtopi (y := nI (pt + 8192)) (nI_add (pt) (8192)) ?_
  refine va_put (D := (dC, dI)) (ci := 2) (v := .int (nI (pt + 8192))) (ty := .int) (C := R_IM) (T := T_IM) (N := 6) hx hb hts i_IM t_IM k_IM n_IM hown hK hP hD hS 8 rfl rfl 4 (by decide) (hts _ wd_159) (fun _ h9 => h9) rfl (by decide +kernel) rfl rfl (Nat.le_of_ble_eq_true rfl) d_IM_lay_22 (fun H locs hP hD hS => ?_)
  have hP : va_P (dC, dI) vwCl (wsG ad ck rf n fr a ar z pc pe pt pp pf 0 pe ip (nI (pt + 8192)) ia st rt pb) H := hP
  have hD : va_D A (wsG ad ck rf n fr a ar z pc pe pt pp pf 0 pe ip (nI (pt + 8192)) ia st rt pb) := hD
  refine lv_aload_n hx hb d_IM_lay_25 rfl (lv_at hl 0 rfl) ?_
  refine lv_aload_n hx hb d_IM_lay_26 rfl (lv_at hl 3 rfl) ?_
  refine va_getN (D := (dC, dI)) (ci := 0) (v := .int (nI a)) (C := R_AG) (T := T_AG) (N := 3) hx hb hts i_AG hown hK hP 3 rfl rfl 2 (by decide) (hN.use wd_59) (fun _ h9 => h9) rfl d_IM_lay_27 ?_
  refine va_put (D := (dC, dI)) (ci := 2) (v := .int (nI a)) (ty := .int) (C := R_IM) (T := T_IM) (N := 6) hx hb hts i_IM t_IM k_IM n_IM hown hK hP hD hS 8 rfl rfl 5 (by decide) (hts _ wd_161) (fun _ h9 => h9) rfl (by decide +kernel) rfl rfl (Nat.le_of_ble_eq_true rfl) d_IM_lay_30 (fun H locs hP hD hS => ?_)
  have hP : va_P (dC, dI) vwCl (wsG ad ck rf n fr a ar z pc pe pt pp pf 0 pe ip (nI (pt + 8192)) (nI a) st rt pb) H := hP
  have hD : va_D A (wsG ad ck rf n fr a ar z pc pe pt pp pf 0 pe ip (nI (pt + 8192)) (nI a) st rt pb) := hD
  refine lv_iconst (v := 0) hx hb d_IM_lay_33 (by decide) ?_
  refine lv_istore (lv' := [(4, .int 0), (0, .ref (ad 8)), (1, .ref (ad 6)), (2, .ref (ad 1)), (3, .ref (ad 3))]) hx hb d_IM_lay_34 hl (by decide) rfl (fun ls hl => ?_)
  have lp36 : ∀ (fu36 : Nat) (j : Nat), (pc - j < fu36) → (j ≤ pc) → ∀ (H : Heap) (locs : List Loc), va_P (dC, dI) vwCl (wsG ad ck rf n fr a ar z pc pe pt pp pf (gsum (ptG pf) j) pe ip (nI (pt + 8192)) (nI a) (lyS st pf j) (lyR rt pf j) (lyB pb fr pf j)) H → va_D A (wsG ad ck rf n fr a ar z pc pe pt pp pf (gsum (ptG pf) j) pe ip (nI (pt + 8192)) (nI a) (lyS st pf j) (lyR rt pf j) (lyB pb fr pf j)) → va_S A s.heap H locs → ∀ ls : Array Slot, lv_has ls 5 [(0, .ref (ad 8)), (1, .ref (ad 6)), (2, .ref (ad 1)), (3, .ref (ad 3)), (4, .int (nI j))] → W p l e { frames := 4, cells := 0, slots := 0, locals := 108 } s m [.ref (ad 8), .ref (ad 6), .ref (ad 1), .ref (ad 3)].toArray below meth c H locs 0 0 (MQ below (xQv (dC, dI) (tyG ck) A (wsG ad ck rf n fr a ar z pc pe pt pp pf (gsum (ptG pf) pc + 1 + 1) pe ((upd (upd (lyS st pf pc) (gsum (ptG pf) pc) (nI pt)) (gsum (ptG pf) pc + 1) (nI (pt + 4096))) (gsum (ptG pf) pc + 1) + nI P) (nI (pt + 8192)) (nI a) (upd (upd (lyS st pf pc) (gsum (ptG pf) pc) (nI pt)) (gsum (ptG pf) pc + 1) (nI (pt + 4096))) (upd (upd (lyR rt pf pc) (gsum (ptG pf) pc) 3) (gsum (ptG pf) pc + 1) 11) (upr (lpZ (lpZ (lyB pb fr pf pc) (gsum (ptG pf) pc)) (gsum (ptG pf) pc + 1)) (gsum (ptG pf) pc + 1) (skT ((lpZ (lpZ (lyB pb fr pf pc) (gsum (ptG pf) pc)) (gsum (ptG pf) pc + 1)) (gsum (ptG pf) pc + 1)) ar z P ((upd (upd (lyS st pf pc) (gsum (ptG pf) pc) (nI pt)) (gsum (ptG pf) pc + 1) (nI (pt + 4096))) (gsum (ptG pf) pc + 1)) a)))) [.ref (ad 8), .ref (ad 6), .ref (ad 1), .ref (ad 3)].toArray s 0 0 A) (F0 m 36 ls []) := by
    intro fu36
    induction fu36 with
    | zero => intro j hfu36; exact absurd hfu36 (Nat.not_lt_zero _)
    | succ fu36 ih36 =>
      intro j hfu36 hj H locs hP hD hS ls hl
      refine lv_iload hx hb d_IM_lay_36 (lv_at hl 4 rfl) ?_
      refine lv_aload_n hx hb d_IM_lay_38 rfl (lv_at hl 1 rfl) ?_
      refine va_getN (D := (dC, dI)) (ci := 5) (v := .int (nI pc)) (C := R_PL) (T := T_PL) (N := 5) hx hb hts i_PL hown hK hP 6 rfl rfl 1 (by decide) (hN.use wd_105) (fun _ h9 => h9) rfl d_IM_lay_39 ?_
      refine lv_icmp_ge (tgt := 73) hx hb d_IM_lay_42 (by decide) (fun c_1 => ?_) (fun c_1 => ?_)
      · skip
        have c_1 : pc ≤ j := (nI_leI (a := pc) (b := j) (by omega) (by omega)).mp c_1
        have e9 : j = pc := by omega
        rw [e9] at hP hD
        refine lv_aload_n hx hb d_IM_lay_73 rfl (lv_at hl 0 rfl) ?_
        refine lv_aload_n hx hb d_IM_lay_74 rfl (lv_at hl 1 rfl) ?_
        refine va_getN (D := (dC, dI)) (ci := 5) (v := .int (nI pt)) (C := R_PL) (T := T_PL) (N := 5) hx hb hts i_PL hown hK hP 6 rfl rfl 3 (by decide) (hN.use wd_109) (fun _ h9 => h9) rfl d_IM_lay_75 ?_
        refine lv_iconst (v := 3) hx hb d_IM_lay_78 (by decide) ?_
        refine xcallq (va_runV (As := [.int (nI pt), .int 3]) (rest := []) ⟨hx, hb, hml, hown, hts⟩ (c_im_takePage l dC dI ad ck rf n fr a ar z pc pe pt pp pf (gsum (ptG pf) pc) pe ip (nI (pt + 8192)) (nI a) (lyS st pf pc) (lyR rt pf pc) (lyB pb fr pf pc) (nI pt) 3 (by omega) H.size) (cwV 2 hts (xgV wd_327 wd_329 wd_3 wd_20 wd_330) rfl rfl rfl (by decide +kernel) ⟨Nat.le_of_ble_eq_true rfl, Nat.le_of_ble_eq_true rfl⟩) (xpreV (q0 := 8) hK hN hZ hA hS hP hD rfl rfl) rfl rfl hl.1 rfl (lv_room (Nat.le_of_ble_eq_true rfl)) d_IM_lay_79 ⟨Nat.zero_le _, Nat.zero_le _⟩) hD hS hA (fun r_2 H locs hr_2 hP hD hS => ?_)
        subst hr_2
        refine lv_pop hx hb d_IM_lay_82 rfl ?_
        refine lv_aload_n hx hb d_IM_lay_83 rfl (lv_at hl 0 rfl) ?_
        refine lv_aload_n hx hb d_IM_lay_84 rfl (lv_at hl 0 rfl) ?_
        refine lv_aload_n hx hb d_IM_lay_85 rfl (lv_at hl 1 rfl) ?_
        refine va_getN (D := (dC, dI)) (ci := 5) (v := .int (nI pt)) (C := R_PL) (T := T_PL) (N := 5) hx hb hts i_PL hown hK hP 6 rfl rfl 3 (by decide) (hN.use wd_109) (fun _ h9 => h9) rfl d_IM_lay_86 ?_
        refine lv_sipush (v := 4096) hx hb d_IM_lay_89 (by decide) ?_
        refine lv_iadd hx hb d_IM_lay_92 ?_
        refine xtopi (y := nI (pt + 4096)) (nI_add (pt) (4096)) ?_
        refine lv_bipush (v := 11) hx hb d_IM_lay_93 (by decide) ?_
        refine xcallq (va_runV (As := [.int (nI (pt + 4096)), .int 11]) (rest := [.ref (ad 8)]) ⟨hx, hb, hml, hown, hts⟩ (c_im_takePage l dC dI ad ck rf n fr a ar z pc pe pt pp pf (gsum (ptG pf) pc + 1) pe ip (nI (pt + 8192)) (nI a) (upd (lyS st pf pc) (gsum (ptG pf) pc) (nI pt)) (upd (lyR rt pf pc) (gsum (ptG pf) pc) 3) (lpZ (lyB pb fr pf pc) (gsum (ptG pf) pc)) (nI (pt + 4096)) 11 (by omega) H.size) (cwV 2 hts (xgV wd_327 wd_329 wd_3 wd_20 wd_330) rfl rfl rfl (by decide +kernel) ⟨Nat.le_of_ble_eq_true rfl, Nat.le_of_ble_eq_true rfl⟩) (xpreV (q0 := 8) hK hN hZ hA hS hP hD rfl rfl) rfl rfl hl.1 rfl (lv_room (Nat.le_of_ble_eq_true rfl)) d_IM_lay_95 ⟨Nat.zero_le _, Nat.zero_le _⟩) hD hS hA (fun r_3 H locs hr_3 hP hD hS => ?_)
        subst hr_3
        refine lv_aload_n hx hb d_IM_lay_98 rfl (lv_at hl 3 rfl) ?_
        refine xcallv (va_runV (As := [.ref (ad (gsum (ptG pf) pc + 1 + 20)), .ref (ad 3)]) (rest := []) ⟨hx, hb, hml, hown, hts⟩ (c_im_layStack l dC dI ad ck rf n fr a ar z pc pe pt pp pf (gsum (ptG pf) pc + 1 + 1) pe ip (nI (pt + 8192)) (nI a) (upd (upd (lyS st pf pc) (gsum (ptG pf) pc) (nI pt)) (gsum (ptG pf) pc + 1) (nI (pt + 4096))) (upd (upd (lyR rt pf pc) (gsum (ptG pf) pc) 3) (gsum (ptG pf) pc + 1) 11) (lpZ (lpZ (lyB pb fr pf pc) (gsum (ptG pf) pc)) (gsum (ptG pf) pc + 1)) (gsum (ptG pf) pc + 1) P (by omega) hsp hP4 hAr ha hz H.size) (cwV 2 hts (xgV wd_346 wd_348 wd_4 wd_20 wd_349) rfl rfl rfl (by decide +kernel) ⟨Nat.le_of_ble_eq_true rfl, Nat.le_of_ble_eq_true rfl⟩) (xpreV (q0 := 8) hK hN hZ hA hS hP hD rfl rfl) rfl rfl hl.1 rfl (lv_room (Nat.le_of_ble_eq_true rfl)) d_IM_lay_99 ⟨Nat.zero_le _, Nat.zero_le _⟩) hD hS hA (fun H locs hP hD hS => ?_)
        exact xretv hx hb hr hlocks hK hP hD hS d_IM_lay_102
      · skip
        have c_1 : ¬ (pc ≤ j) := fun h9 => c_1 ((nI_leI (a := pc) (b := j) (by omega) (by omega)).mpr h9)
        have hgs := gsum_le (g := ptG pf) (p := j) (q := pc) (by omega); have hgs : gsum (ptG pf) j + tN (pf j 3) ≤ gsum (ptG pf) pc := hgs
        refine lv_iload hx hb d_IM_lay_45 (lv_at hl 4 rfl) ?_
        refine lv_aload_n hx hb d_IM_lay_47 rfl (lv_at hl 1 rfl) ?_
        refine va_getN (D := (dC, dI)) (ci := 5) (v := .ref (ad 7)) (C := R_PL) (T := T_PL) (N := 5) hx hb hts i_PL hown hK hP 6 rfl rfl 0 (by decide) (hN.use wd_104) (fun _ h9 => h9) rfl d_IM_lay_48 ?_
        refine va_alen (v := 8) hx hb hK hP 7 2 rfl rfl rfl d_IM_lay_51 ?_
        refine lv_icmp_ge (tgt := 73) hx hb d_IM_lay_52 (by decide) (fun c_5 => ?_) (fun c_5 => ?_)
        · skip
          have c_5 : 8 ≤ j := (nI_leI (a := 8) (b := j) (by omega) (by omega)).mp c_5
          exact absurd c_5 (by omega)
        · skip
          have c_5 : ¬ (8 ≤ j) := fun h9 => c_5 ((nI_leI (a := 8) (b := j) (by omega) (by omega)).mpr h9)
          refine lv_aload_n hx hb d_IM_lay_55 rfl (lv_at hl 0 rfl) ?_
          refine lv_aload_n hx hb d_IM_lay_56 rfl (lv_at hl 1 rfl) ?_
          refine va_getN (D := (dC, dI)) (ci := 5) (v := .ref (ad 7)) (C := R_PL) (T := T_PL) (N := 5) hx hb hts i_PL hown hK hP 6 rfl rfl 0 (by decide) (hN.use wd_104) (fun _ h9 => h9) rfl d_IM_lay_57 ?_
          refine lv_iload hx hb d_IM_lay_60 (lv_at hl 4 rfl) ?_
          refine xaald (b := ad (j + 10)) (k := j) hx hb hK hP 7 2 rfl rfl (rfl) (by omega) (by decide) rfl d_IM_lay_62 ?_
          refine lv_aload_n hx hb d_IM_lay_63 rfl (lv_at hl 2 rfl) ?_
          refine xcallv (va_runV (As := [.ref (ad (j + 10)), .ref (ad 1)]) (rest := []) ⟨hx, hb, hml, hown, hts⟩ (c_im_layPart l dC dI ad ck rf n fr a ar z pc pe pt pp pf (gsum (ptG pf) j) pe ip (nI (pt + 8192)) (nI a) (lyS st pf j) (lyR rt pf j) (lyB pb fr pf j) j (tN (pf j 0)) (tN (pf j 1)) (tN (pf j 2)) (tN (pf j 3)) (pf j 4) (by omega) (nI_tN _).symm (nI_tN _).symm (nI_tN _).symm (nI_tN _).symm rfl (by omega) (hfb j (by omega)) hFr hn H.size) (cwV 2 hts (xgV wd_323 wd_325 wd_2 wd_20 wd_326) rfl rfl rfl (by decide +kernel) ⟨Nat.le_of_ble_eq_true rfl, Nat.le_of_ble_eq_true rfl⟩) (xpreV (q0 := 8) hK hN hZ hA hS hP hD rfl rfl) rfl rfl hl.1 rfl (lv_room (Nat.le_of_ble_eq_true rfl)) d_IM_lay_64 ⟨Nat.zero_le _, Nat.zero_le _⟩) hD hS hA (fun H locs hP hD hS => ?_)
          refine lv_iinc (v := nI (j + 1)) (lv' := [(4, .int (nI (j + 1))), (0, .ref (ad 8)), (1, .ref (ad 6)), (2, .ref (ad 1)), (3, .ref (ad 3))]) hx hb d_IM_lay_67 hl (k := 4) rfl (nI_1 _) (by decide) rfl (fun ls hl => ?_)
          refine lv_goto (tgt := 36) hx hb d_IM_lay_70 (by decide) ?_
          exact ih36 (j + 1) (by omega) (by omega) _ _ hP hD hS _ (lv_sub hl [1, 2, 3, 4, 0] rfl)
  exact lp36 ((pc - 0) + 1) 0 (Nat.lt_succ_self _) (by omega) _ _ hP hD hS _ (lv_sub hl [1, 2, 3, 4, 0] rfl)
