set_option maxHeartbeats 4000000 in
set_option maxRecDepth 100000 in
theorem c_gt_loadX (l : Launch) (dC : Nat → ClassId) (dI : Nat → Nat → Nat) (ad : Nat → Nat) (ck : Nat → ClassId) (rf : Int32) (n : Nat) (fr : Nat → Int32) (a : Nat) (ar : Nat → Int32) (z : Nat → Nat) (pc : Nat) (pe : Int32) (pt pp : Nat) (pf : Nat → Nat → Int32) (ic : Nat) (ie ip iz ia : Int32) (st rt : Nat → Int32) (pb : Nat → Nat → Int32) (k : Int32) (hX : ¬ jdC n fr a z pf (rmN k) = 0) (ha : a ≤ 32) (hz : ∀ j, z j ≤ 127) (hn : n ≤ 65536) (sz : Nat) : Met l y_GT_load w_GT_load { frames := 6, cells := 0, slots := 0, locals := 170 } (va_Pc [.ref (ad 0), .int k] (xP (dC, dI) (tyG ck) (wsG ad ck rf n fr a ar z pc pe pt pp pf ic ie ip iz ia st rt pb) sz)) (xQi (dC, dI) (tyG ck) (va_A (wsG ad ck rf n fr a ar z pc pe pt pp pf ic ie ip iz ia st rt pb) sz) (wsG ad ck (nI (jdC n fr a z pf (rmN k))) n fr a ar z ((jdP n fr pe (pc, pt, pp, pf)).2.1) ((jdP n fr pe (pc, pt, pp, pf)).1) ((jdP n fr pe (pc, pt, pp, pf)).2.2.1) ((jdP n fr pe (pc, pt, pp, pf)).2.2.2.1) ((jdP n fr pe (pc, pt, pp, pf)).2.2.2.2) ic ie ip iz ia st rt pb) (fun r => r = -1)) 0 0 (va_A (wsG ad ck rf n fr a ar z pc pe pt pp pf ic ie ip iz ia st rt pb) sz) := by
  refine xof (cc := b_GT_load) (maxL := 2) (ret := (some .int)) (own := R_GT) (Qc := fun A => (xQi (dC, dI) (tyG ck) A (wsG ad ck (nI (jdC n fr a z pf (rmN k))) n fr a ar z ((jdP n fr pe (pc, pt, pp, pf)).2.1) ((jdP n fr pe (pc, pt, pp, pf)).1) ((jdP n fr pe (pc, pt, pp, pf)).2.2.1) ((jdP n fr pe (pc, pt, pp, pf)).2.2.2.1) ((jdP n fr pe (pc, pt, pp, pf)).2.2.2.2) ic ie ip iz ia st rt pb) (fun r => r = -1))) (by decide) rfl rfl (Nat.le_of_ble_eq_true rfl) ?_ sz
  intro p e s m below meth c A C hnm hK hP hD hA hN hZ hS ls hl
  obtain ⟨hx, hb, hr, hml, hown, hts, hlocks⟩ := C
  have hl : lv_has ls 2 [(0, .ref (ad 0)), (1, .int k)] := hl
  have hj6 := jdC_le n fr a z pf (rmN k)
  refine lv_aload_n hx hb d_GT_load_0 rfl (lv_at hl 0 rfl) ?_
  refine lv_aload_n hx hb d_GT_load_1 rfl (lv_at hl 0 rfl) ?_
  refine lv_iconst (v := 0) hx hb d_GT_load_2 (by decide) ?_
  refine lv_iload_n hx hb d_GT_load_3 rfl (lv_at hl 1 rfl) ?_
  refine lv_bipush (v := 32) hx hb d_GT_load_4 (by decide) ?_
  refine va_mmin (rest := [.int 0, .ref (ad 0), .ref (ad 0)]) hx hb (hml.trans hl.1.symm) hown (hts _ wd_259) (hts _ wd_260) (hts _ wd_23) (hts _ wd_261) (Nat.le_of_ble_eq_true rfl) (Nat.le_of_ble_eq_true rfl) (Nat.zero_le _) (Nat.zero_le _) d_GT_load_6 ?_
  refine va_mmax (rest := [.ref (ad 0), .ref (ad 0)]) hx hb (hml.trans hl.1.symm) hown (hts _ wd_262) (hts _ wd_263) (hts _ wd_23) (hts _ wd_264) (Nat.le_of_ble_eq_true rfl) (Nat.le_of_ble_eq_true rfl) (Nat.zero_le _) (Nat.zero_le _) d_GT_load_9 ?_
  refine xtopi (y := nI (rmN k)) (p_room k) ?_
  refine xcalli (va_runV (As := [.int (nI (rmN k))]) (rest := [.ref (ad 0)]) ⟨hx, hb, hml, hown, hts⟩ (c_gt_judge l dC dI ad ck rf n fr a ar z pc pe pt pp pf ic ie ip iz ia st rt pb (rmN k) (rmN_le k) ha hz hn s.heap.size) (cwV 1 hts (xgV wd_265 wd_267 wd_0 wd_15 wd_268) rfl rfl rfl (by decide +kernel) ⟨Nat.le_of_ble_eq_true rfl, Nat.le_of_ble_eq_true rfl⟩) (xpreV (q0 := 0) hK hN hZ hA hS hP hD rfl rfl) rfl rfl hl.1 rfl (lv_room (Nat.le_of_ble_eq_true rfl)) d_GT_load_12 ⟨Nat.zero_le _, Nat.zero_le _⟩) hD hS hA (fun r_1 H locs hr_1 hP hD hS => ?_)
  subst hr_1
  refine va_put (D := (dC, dI)) (ci := 6) (v := .int (nI (jdC n fr a z pf (rmN k)))) (ty := .int) (C := R_GT) (T := T_GT) (N := 5) hx hb hts i_GT t_GT k_GT n_GT hown hK hP hD hS 0 rfl rfl 4 (by decide) (hts _ wd_180) (fun _ h9 => h9) rfl (by decide +kernel) rfl rfl (Nat.le_of_ble_eq_true rfl) d_GT_load_15 (fun H locs hP hD hS => ?_)
  have hP : va_P (dC, dI) vwCl (wsG ad ck (nI (jdC n fr a z pf (rmN k))) n fr a ar z ((jdP n fr pe (pc, pt, pp, pf)).2.1) ((jdP n fr pe (pc, pt, pp, pf)).1) ((jdP n fr pe (pc, pt, pp, pf)).2.2.1) ((jdP n fr pe (pc, pt, pp, pf)).2.2.2.1) ((jdP n fr pe (pc, pt, pp, pf)).2.2.2.2) ic ie ip iz ia st rt pb) H := hP
  have hD : va_D A (wsG ad ck (nI (jdC n fr a z pf (rmN k))) n fr a ar z ((jdP n fr pe (pc, pt, pp, pf)).2.1) ((jdP n fr pe (pc, pt, pp, pf)).1) ((jdP n fr pe (pc, pt, pp, pf)).2.2.1) ((jdP n fr pe (pc, pt, pp, pf)).2.2.2.1) ((jdP n fr pe (pc, pt, pp, pf)).2.2.2.2) ic ie ip iz ia st rt pb) := hD
  refine lv_aload_n hx hb d_GT_load_18 rfl (lv_at hl 0 rfl) ?_
  refine va_get (D := (dC, dI)) (ci := 6) (v := .int (nI (jdC n fr a z pf (rmN k)))) (C := R_GT) (T := T_GT) (N := 5) hx hb hts i_GT hown hK hP 0 rfl rfl 4 (by decide) (hts _ wd_180) (fun _ h9 => h9) rfl d_GT_load_19 ?_
  refine lv_if_eq (tgt := 27) hx hb d_GT_load_22 (by decide) (fun c_2 => ?_) (fun c_2 => ?_)
  · skip
    exact absurd ((nI_eq (a := jdC n fr a z pf (rmN k)) (b := 0) (by omega) (by omega)).mp c_2) hX
  · skip
    refine lv_iconst (v := (-1)) hx hb d_GT_load_25 (by decide) ?_
    exact xreti (v := (-1)) hx hb hr hlocks hK hP hD hS (rfl) (rfl) d_GT_load_26
set_option maxHeartbeats 4000000 in
set_option maxRecDepth 100000 in
theorem c_gt_load0 (l : Launch) (dC : Nat → ClassId) (dI : Nat → Nat → Nat) (ad : Nat → Nat) (ck : Nat → ClassId) (rf : Int32) (n : Nat) (fr : Nat → Int32) (a : Nat) (ar : Nat → Int32) (z : Nat → Nat) (pc : Nat) (pe : Int32) (pt pp : Nat) (pf : Nat → Nat → Int32) (ic : Nat) (ie ip iz ia : Int32) (st rt : Nat → Int32) (pb : Nat → Nat → Int32) (k : Int32) (pc2 pt2 pp2 : Nat) (pf2 : Nat → Nat → Int32) (h0 : jdC n fr a z pf (rmN k) = 0) (hrch : rch n fr) (hq : (plAll fr n pf).2 = (pc2, pt2, pp2, pf2)) (P : Nat) (hpc : pc2 ≤ 8) (hsum : gsum (ptG pf2) pc2 + 2 ≤ 32) (hfb : ∀ p, p < pc2 → tN (pf2 p 0) + tN (pf2 p 1) ≤ n) (hsp : spOf z a = nI P) (hP4 : P + 4 * (a + 1) ≤ tpN z a) (hFr : sb_Fit fr) (hAr : sb_Fit ar) (ha : a ≤ 32) (hz : ∀ j, z j ≤ 127) (hn : n ≤ 65536) (sz : Nat) : Met l y_GT_load w_GT_load { frames := 6, cells := 0, slots := 0, locals := 170 } (va_Pc [.ref (ad 0), .int k] (xP (dC, dI) (tyG ck) (wsG ad ck rf n fr a ar z pc pe pt pp pf ic ie ip iz ia st rt pb) sz)) (xQi (dC, dI) (tyG ck) (va_A (wsG ad ck rf n fr a ar z pc pe pt pp pf ic ie ip iz ia st rt pb) sz) (wsG ad ck (nI (jdC n fr a z pf (rmN k))) n fr a ar z pc2 (nI (nbN fr 24 4)) pt2 pp2 pf2 (gsum (ptG pf2) pc2 + 1 + 1) (nI (nbN fr 24 4)) ((upd (upd (lyS st pf2 pc2) (gsum (ptG pf2) pc2) (nI pt2)) (gsum (ptG pf2) pc2 + 1) (nI (pt2 + 4096))) (gsum (ptG pf2) pc2 + 1) + nI P) (nI (pt2 + 8192)) (nI a) (upd (upd (lyS st pf2 pc2) (gsum (ptG pf2) pc2) (nI pt2)) (gsum (ptG pf2) pc2 + 1) (nI (pt2 + 4096))) (upd (upd (lyR rt pf2 pc2) (gsum (ptG pf2) pc2) 3) (gsum (ptG pf2) pc2 + 1) 11) (upr (lpZ (lpZ (lyB pb fr pf2 pc2) (gsum (ptG pf2) pc2)) (gsum (ptG pf2) pc2 + 1)) (gsum (ptG pf2) pc2 + 1) (skT ((lpZ (lpZ (lyB pb fr pf2 pc2) (gsum (ptG pf2) pc2)) (gsum (ptG pf2) pc2 + 1)) (gsum (ptG pf2) pc2 + 1)) ar z P ((upd (upd (lyS st pf2 pc2) (gsum (ptG pf2) pc2) (nI pt2)) (gsum (ptG pf2) pc2 + 1) (nI (pt2 + 4096))) (gsum (ptG pf2) pc2 + 1)) a))) (fun r => r = nI (gsum (ptG pf2) pc2 + 1 + 1))) 0 0 (va_A (wsG ad ck rf n fr a ar z pc pe pt pp pf ic ie ip iz ia st rt pb) sz) := by
  refine xof (cc := b_GT_load) (maxL := 2) (ret := (some .int)) (own := R_GT) (Qc := fun A => (xQi (dC, dI) (tyG ck) A (wsG ad ck (nI (jdC n fr a z pf (rmN k))) n fr a ar z pc2 (nI (nbN fr 24 4)) pt2 pp2 pf2 (gsum (ptG pf2) pc2 + 1 + 1) (nI (nbN fr 24 4)) ((upd (upd (lyS st pf2 pc2) (gsum (ptG pf2) pc2) (nI pt2)) (gsum (ptG pf2) pc2 + 1) (nI (pt2 + 4096))) (gsum (ptG pf2) pc2 + 1) + nI P) (nI (pt2 + 8192)) (nI a) (upd (upd (lyS st pf2 pc2) (gsum (ptG pf2) pc2) (nI pt2)) (gsum (ptG pf2) pc2 + 1) (nI (pt2 + 4096))) (upd (upd (lyR rt pf2 pc2) (gsum (ptG pf2) pc2) 3) (gsum (ptG pf2) pc2 + 1) 11) (upr (lpZ (lpZ (lyB pb fr pf2 pc2) (gsum (ptG pf2) pc2)) (gsum (ptG pf2) pc2 + 1)) (gsum (ptG pf2) pc2 + 1) (skT ((lpZ (lpZ (lyB pb fr pf2 pc2) (gsum (ptG pf2) pc2)) (gsum (ptG pf2) pc2 + 1)) (gsum (ptG pf2) pc2 + 1)) ar z P ((upd (upd (lyS st pf2 pc2) (gsum (ptG pf2) pc2) (nI pt2)) (gsum (ptG pf2) pc2 + 1) (nI (pt2 + 4096))) (gsum (ptG pf2) pc2 + 1)) a))) (fun r => r = nI (gsum (ptG pf2) pc2 + 1 + 1)))) (by decide) rfl rfl (Nat.le_of_ble_eq_true rfl) ?_ sz
  intro p e s m below meth c A C hnm hK hP hD hA hN hZ hS ls hl
  obtain ⟨hx, hb, hr, hml, hown, hts, hlocks⟩ := C
  have hl : lv_has ls 2 [(0, .ref (ad 0)), (1, .int k)] := hl
  have hj6 := jdC_le n fr a z pf (rmN k)
  refine lv_aload_n hx hb d_GT_load_0 rfl (lv_at hl 0 rfl) ?_
  refine lv_aload_n hx hb d_GT_load_1 rfl (lv_at hl 0 rfl) ?_
  refine lv_iconst (v := 0) hx hb d_GT_load_2 (by decide) ?_
  refine lv_iload_n hx hb d_GT_load_3 rfl (lv_at hl 1 rfl) ?_
  refine lv_bipush (v := 32) hx hb d_GT_load_4 (by decide) ?_
  refine va_mmin (rest := [.int 0, .ref (ad 0), .ref (ad 0)]) hx hb (hml.trans hl.1.symm) hown (hts _ wd_259) (hts _ wd_260) (hts _ wd_23) (hts _ wd_261) (Nat.le_of_ble_eq_true rfl) (Nat.le_of_ble_eq_true rfl) (Nat.zero_le _) (Nat.zero_le _) d_GT_load_6 ?_
  refine va_mmax (rest := [.ref (ad 0), .ref (ad 0)]) hx hb (hml.trans hl.1.symm) hown (hts _ wd_262) (hts _ wd_263) (hts _ wd_23) (hts _ wd_264) (Nat.le_of_ble_eq_true rfl) (Nat.le_of_ble_eq_true rfl) (Nat.zero_le _) (Nat.zero_le _) d_GT_load_9 ?_
  refine xtopi (y := nI (rmN k)) (p_room k) ?_
  refine xcalli (va_runV (As := [.int (nI (rmN k))]) (rest := [.ref (ad 0)]) ⟨hx, hb, hml, hown, hts⟩ (c_gt_judge l dC dI ad ck rf n fr a ar z pc pe pt pp pf ic ie ip iz ia st rt pb (rmN k) (rmN_le k) ha hz hn s.heap.size) (cwV 1 hts (xgV wd_265 wd_267 wd_0 wd_15 wd_268) rfl rfl rfl (by decide +kernel) ⟨Nat.le_of_ble_eq_true rfl, Nat.le_of_ble_eq_true rfl⟩) (xpreV (q0 := 0) hK hN hZ hA hS hP hD rfl rfl) rfl rfl hl.1 rfl (lv_room (Nat.le_of_ble_eq_true rfl)) d_GT_load_12 ⟨Nat.zero_le _, Nat.zero_le _⟩) hD hS hA (fun r_1 H locs hr_1 hP hD hS => ?_)
  subst hr_1
  refine va_put (D := (dC, dI)) (ci := 6) (v := .int (nI (jdC n fr a z pf (rmN k)))) (ty := .int) (C := R_GT) (T := T_GT) (N := 5) hx hb hts i_GT t_GT k_GT n_GT hown hK hP hD hS 0 rfl rfl 4 (by decide) (hts _ wd_180) (fun _ h9 => h9) rfl (by decide +kernel) rfl rfl (Nat.le_of_ble_eq_true rfl) d_GT_load_15 (fun H locs hP hD hS => ?_)
  have hP : va_P (dC, dI) vwCl (wsG ad ck (nI (jdC n fr a z pf (rmN k))) n fr a ar z ((jdP n fr pe (pc, pt, pp, pf)).2.1) ((jdP n fr pe (pc, pt, pp, pf)).1) ((jdP n fr pe (pc, pt, pp, pf)).2.2.1) ((jdP n fr pe (pc, pt, pp, pf)).2.2.2.1) ((jdP n fr pe (pc, pt, pp, pf)).2.2.2.2) ic ie ip iz ia st rt pb) H := hP
  have hD : va_D A (wsG ad ck (nI (jdC n fr a z pf (rmN k))) n fr a ar z ((jdP n fr pe (pc, pt, pp, pf)).2.1) ((jdP n fr pe (pc, pt, pp, pf)).1) ((jdP n fr pe (pc, pt, pp, pf)).2.2.1) ((jdP n fr pe (pc, pt, pp, pf)).2.2.2.1) ((jdP n fr pe (pc, pt, pp, pf)).2.2.2.2) ic ie ip iz ia st rt pb) := hD
  refine lv_aload_n hx hb d_GT_load_18 rfl (lv_at hl 0 rfl) ?_
  refine va_get (D := (dC, dI)) (ci := 6) (v := .int (nI (jdC n fr a z pf (rmN k)))) (C := R_GT) (T := T_GT) (N := 5) hx hb hts i_GT hown hK hP 0 rfl rfl 4 (by decide) (hts _ wd_180) (fun _ h9 => h9) rfl d_GT_load_19 ?_
  refine lv_if_eq (tgt := 27) hx hb d_GT_load_22 (by decide) (fun c_2 => ?_) (fun c_2 => ?_)
  · skip
    have e9 : (jdP n fr pe (pc, pt, pp, pf)) = (nI (nbN fr 24 4), pc2, pt2, pp2, pf2) := by rw [jdP, if_pos hrch]; exact congrArg _ hq
    have hP : va_P (dC, dI) vwCl (wsG ad ck (nI (jdC n fr a z pf (rmN k))) n fr a ar z pc2 (nI (nbN fr 24 4)) pt2 pp2 pf2 ic ie ip iz ia st rt pb) H := by rw [e9] at hP; exact hP
    have hD : va_D A (wsG ad ck (nI (jdC n fr a z pf (rmN k))) n fr a ar z pc2 (nI (nbN fr 24 4)) pt2 pp2 pf2 ic ie ip iz ia st rt pb) := by rw [e9] at hD; exact hD
    refine lv_aload_n hx hb d_GT_load_27 rfl (lv_at hl 0 rfl) ?_
    refine va_get (D := (dC, dI)) (ci := 6) (v := .ref (ad 8)) (C := R_GT) (T := T_GT) (N := 5) hx hb hts i_GT hown hK hP 0 rfl rfl 3 (by decide) (hts _ wd_179) (fun _ h9 => h9) rfl d_GT_load_28 ?_
    refine lv_aload_n hx hb d_GT_load_31 rfl (lv_at hl 0 rfl) ?_
    refine va_get (D := (dC, dI)) (ci := 6) (v := .ref (ad 6)) (C := R_GT) (T := T_GT) (N := 5) hx hb hts i_GT hown hK hP 0 rfl rfl 2 (by decide) (hts _ wd_178) (fun _ h9 => h9) rfl d_GT_load_32 ?_
    refine lv_aload_n hx hb d_GT_load_35 rfl (lv_at hl 0 rfl) ?_
    refine va_get (D := (dC, dI)) (ci := 6) (v := .ref (ad 1)) (C := R_GT) (T := T_GT) (N := 5) hx hb hts i_GT hown hK hP 0 rfl rfl 0 (by decide) (hts _ wd_176) (fun _ h9 => h9) rfl d_GT_load_36 ?_
    refine lv_aload_n hx hb d_GT_load_39 rfl (lv_at hl 0 rfl) ?_
    refine va_get (D := (dC, dI)) (ci := 6) (v := .ref (ad 3)) (C := R_GT) (T := T_GT) (N := 5) hx hb hts i_GT hown hK hP 0 rfl rfl 1 (by decide) (hts _ wd_177) (fun _ h9 => h9) rfl d_GT_load_40 ?_
    refine xcallv (va_runV (As := [.ref (ad 6), .ref (ad 1), .ref (ad 3)]) (rest := []) ⟨hx, hb, hml, hown, hts⟩ (c_im_lay l dC dI ad ck (nI (jdC n fr a z pf (rmN k))) n fr a ar z pc2 (nI (nbN fr 24 4)) pt2 pp2 pf2 ic ie ip iz ia st rt pb P hpc hsum hfb hsp hP4 hFr hAr ha hz hn H.size) (cwV 3 hts (xgV wd_319 wd_320 wd_321 wd_20 wd_322) rfl rfl rfl (by decide +kernel) ⟨Nat.le_of_ble_eq_true rfl, Nat.le_of_ble_eq_true rfl⟩) (xpreV (q0 := 8) hK hN hZ hA hS hP hD rfl rfl) rfl rfl hl.1 rfl (lv_room (Nat.le_of_ble_eq_true rfl)) d_GT_load_43 ⟨Nat.zero_le _, Nat.zero_le _⟩) hD hS hA (fun H locs hP hD hS => ?_)
    refine lv_aload_n hx hb d_GT_load_46 rfl (lv_at hl 0 rfl) ?_
    refine va_get (D := (dC, dI)) (ci := 6) (v := .ref (ad 8)) (C := R_GT) (T := T_GT) (N := 5) hx hb hts i_GT hown hK hP 0 rfl rfl 3 (by decide) (hts _ wd_179) (fun _ h9 => h9) rfl d_GT_load_47 ?_
    refine va_getN (D := (dC, dI)) (ci := 2) (v := .int (nI (gsum (ptG pf2) pc2 + 1 + 1))) (C := R_IM) (T := T_IM) (N := 6) hx hb hts i_IM hown hK hP 8 rfl rfl 1 (by decide) (hN.use wd_154) (fun _ h9 => h9) rfl d_GT_load_50 ?_
    exact xreti (v := nI (gsum (ptG pf2) pc2 + 1 + 1)) hx hb hr hlocks hK hP hD hS (rfl) (rfl) d_GT_load_53
  · skip
    exact absurd (by rw [h0]; rfl) c_2
