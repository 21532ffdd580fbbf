set_option maxHeartbeats 4000000 in
set_option maxRecDepth 100000 in
theorem law_8 {p : Program} {l : Launch} {e : Env} {s : State} {m : MethodId} {below : List Frame} {meth : Method} {c : Code} {b L : Nat} {xs : Nat → Int32} {dC : Nat → ClassId} {dI : Nat → Nat → Nat} {ad bd : Nat → Nat} {ck cm : Nat → ClassId} {i : Nat} (C : LC p s m meth c b L xs dC dI ck cm) (hi : i + 6 ≤ L) (hGo : LI p l e s m below meth c b dC dI ad bd ck cm 457 i) : LI p l e s m below meth c b dC dI ad bd ck cm 352 i := by
  intro rf n fr a ar z pc pe pt pp pf ic ie ip iz ia st rt pb th le fo en fF fA fB fS fW sk pg ye ys yt yg yp tk gF gA gB gS gW yk hLR hRM H locs hP hD hS ls hl
  obtain ⟨⟨hx, hb, hr, hml, hown, hts0, hX, hbl, hlocks, hgv⟩, hL, hKG, hKM, hN, hZ⟩ := C
  have hts : ∀ w ∈ T0, w.before #[Value.ref b] s = true := fun w h => hts0 w (List.mem_filter.mp h).1
  have hA : ∀ q : Nat, s.heap.size ≤ q → (fun q : Nat => s.heap.size ≤ q) q := fun _ h => h
  have hbA : ¬ (fun q : Nat => s.heap.size ≤ q) b := Nat.not_le.mpr hbl
  obtain ⟨hn, ha, hz, hFr, hAr, hLe, hSk, hAL⟩ := id hLR
  obtain ⟨rAt, rFl, rAb, hic, hyp, hgs, hgf, hpg, hyt, hyt2⟩ := id hRM
  have hin1 : vp_in (nI i + 1) L := law_in 1 (by decide) hi hL
  have hin2 : vp_in (nI i + 2) L := law_in 2 (by decide) hi hL
  have hin3 : vp_in (nI i + 3) L := law_in 3 (by decide) hi hL
  have hin4 : vp_in (nI i + 4) L := law_in 4 (by decide) hi hL
  have hin5 : vp_in (nI i + 5) L := law_in 5 (by decide) hi hL
  have jd := jd_mw n fr a z pf (fF, fA, fB, fS, fW) (xs (nI i + 1).toNatClampNeg)
  refine lv_aload_n hx hb d_LW_352 rfl (lv_at hl 2 rfl) ?_
  refine lv_aload_n hx hb d_LW_353 rfl (lv_at hl 3 rfl) ?_
  refine lv_iload_n hx hb d_LW_354 rfl (lv_at hl 0 rfl) ?_
  refine lv_iconst (v := 1) hx hb d_LW_355 (by decide) ?_
  refine lv_iadd hx hb d_LW_356 ?_
  refine va_sld hx hb hX hbl hbA hS hin1 d_LW_357 ?_
  by_cases c1 : mwC n fr (fF, fA, fB, fS, fW) (rm2 (xs (nI i + 1).toNatClampNeg)) = 0
  · by_cases c2 : 0 ≤ spOf z a
    · obtain ⟨c0, en0, pp0, P, pf0, F9, A9, B9, S9, W9, h1, h2, h3, h4, h5, h6, h7, h8, h9, h10, h11, h12, h13⟩ := load_ok pf (fF, fA, fB, fS, fW) hn ha c1 c2
      refine zcalli (wr := wsM bd cm th n fr a z le rf fo en fF fA fB fS fW sk pg ye ys yt yg yp tk gF gA gB gS gW yk) (va_runV (As := [.int (xs (nI i + 1).toNatClampNeg)]) (rest := []) ⟨hx, hb, hml, hown, hts⟩ (c_gt_load0 l dC dI ad ck rf n fr a ar z pc pe pt pp pf ic ie ip iz ia st rt pb (xs (nI i + 1).toNatClampNeg) c0 en0 pp0 pf0 h3 h4 h1 P h5 h6 h7 h8 h9 hFr hAr ha hz hn H.size) (cwV 1 hts (xgV wd_255 wd_256 wd_257 wd_15 wd_258) rfl rfl rfl (by decide +kernel) ⟨Nat.le_of_ble_eq_true rfl, Nat.le_of_ble_eq_true rfl⟩) (xpreV (q0 := 0) hKG hN hZ hA hS (xPr (wr := wsM bd cm th n fr a z le rf fo en fF fA fB fS fW sk pg ye ys yt yg yp tk gF gA gB gS gW yk) hP) (xDr (wr := wsM bd cm th n fr a z le rf fo en fF fA fB fS fW sk pg ye ys yt yg yp tk gF gA gB gS gW yk) hD) rfl rfl) rfl rfl hl.1 rfl (lv_room (Nat.le_of_ble_eq_true rfl)) d_LW_358 ⟨Nat.le_of_ble_eq_true rfl, Nat.le_of_ble_eq_true rfl⟩) hP hD hS hA (fun rG H locs hG hP hD hS => ?_)
      have hG9 := hG
      have hP := xPperm List.perm_append_comm hP
      have hD := xDperm List.perm_append_comm hD
      refine lv_aload_n hx hb d_LW_361 rfl (lv_at hl 1 rfl) ?_
      refine lv_aload_n hx hb d_LW_362 rfl (lv_at hl 3 rfl) ?_
      refine lv_iload_n hx hb d_LW_363 rfl (lv_at hl 0 rfl) ?_
      refine lv_iconst (v := 1) hx hb d_LW_364 (by decide) ?_
      refine lv_iadd hx hb d_LW_365 ?_
      refine va_sld hx hb hX hbl hbA hS hin1 d_LW_366 ?_
      refine zcalli (wr := wsG ad ck (nI (jdC n fr a z pf (rmN (xs (nI i + 1).toNatClampNeg)))) n fr a ar z c0 (nI (nbN fr 24 4)) en0 pp0 pf0 (gsum (ptG pf0) c0 + 1 + 1) (nI (nbN fr 24 4)) ((upd (upd (lyS st pf0 c0) (gsum (ptG pf0) c0) (nI en0)) (gsum (ptG pf0) c0 + 1) (nI (en0 + 4096))) (gsum (ptG pf0) c0 + 1) + nI P) (nI (en0 + 8192)) (nI a) (upd (upd (lyS st pf0 c0) (gsum (ptG pf0) c0) (nI en0)) (gsum (ptG pf0) c0 + 1) (nI (en0 + 4096))) (upd (upd (lyR rt pf0 c0) (gsum (ptG pf0) c0) 3) (gsum (ptG pf0) c0 + 1) 11) (upr (lpZ (lpZ (lyB pb fr pf0 c0) (gsum (ptG pf0) c0)) (gsum (ptG pf0) c0 + 1)) (gsum (ptG pf0) c0 + 1) (skT ((lpZ (lpZ (lyB pb fr pf0 c0) (gsum (ptG pf0) c0)) (gsum (ptG pf0) c0 + 1)) (gsum (ptG pf0) c0 + 1)) ar z P ((upd (upd (lyS st pf0 c0) (gsum (ptG pf0) c0) (nI en0)) (gsum (ptG pf0) c0 + 1) (nI (en0 + 4096))) (gsum (ptG pf0) c0 + 1)) a))) (va_runV (As := [.int (xs (nI i + 1).toNatClampNeg)]) (rest := [.int rG]) ⟨hx, hb, hml, hown, hts⟩ (m_load0 l dC dI bd cm th n fr a z le rf fo en fF fA fB fS fW sk pg ye ys yt yg yp tk gF gA gB gS gW yk (xs (nI i + 1).toNatClampNeg) P c0 en0 F9 A9 B9 S9 W9 c1 h2 h10 h5 h11 h8 h9 hLe hFr hSk ha hz hn H.size) (cwV 1 hts (xgV wd_511 wd_512 wd_513 wd_22 wd_514) rfl rfl rfl (by decide +kernel) ⟨Nat.le_of_ble_eq_true rfl, Nat.le_of_ble_eq_true rfl⟩) (xpreV (q0 := 0) hKM hN hZ hA hS (xPr (wr := wsG ad ck (nI (jdC n fr a z pf (rmN (xs (nI i + 1).toNatClampNeg)))) n fr a ar z c0 (nI (nbN fr 24 4)) en0 pp0 pf0 (gsum (ptG pf0) c0 + 1 + 1) (nI (nbN fr 24 4)) ((upd (upd (lyS st pf0 c0) (gsum (ptG pf0) c0) (nI en0)) (gsum (ptG pf0) c0 + 1) (nI (en0 + 4096))) (gsum (ptG pf0) c0 + 1) + nI P) (nI (en0 + 8192)) (nI a) (upd (upd (lyS st pf0 c0) (gsum (ptG pf0) c0) (nI en0)) (gsum (ptG pf0) c0 + 1) (nI (en0 + 4096))) (upd (upd (lyR rt pf0 c0) (gsum (ptG pf0) c0) 3) (gsum (ptG pf0) c0 + 1) 11) (upr (lpZ (lpZ (lyB pb fr pf0 c0) (gsum (ptG pf0) c0)) (gsum (ptG pf0) c0 + 1)) (gsum (ptG pf0) c0 + 1) (skT ((lpZ (lpZ (lyB pb fr pf0 c0) (gsum (ptG pf0) c0)) (gsum (ptG pf0) c0 + 1)) (gsum (ptG pf0) c0 + 1)) ar z P ((upd (upd (lyS st pf0 c0) (gsum (ptG pf0) c0) (nI en0)) (gsum (ptG pf0) c0 + 1) (nI (en0 + 4096))) (gsum (ptG pf0) c0 + 1)) a))) hP) (xDr (wr := wsG ad ck (nI (jdC n fr a z pf (rmN (xs (nI i + 1).toNatClampNeg)))) n fr a ar z c0 (nI (nbN fr 24 4)) en0 pp0 pf0 (gsum (ptG pf0) c0 + 1 + 1) (nI (nbN fr 24 4)) ((upd (upd (lyS st pf0 c0) (gsum (ptG pf0) c0) (nI en0)) (gsum (ptG pf0) c0 + 1) (nI (en0 + 4096))) (gsum (ptG pf0) c0 + 1) + nI P) (nI (en0 + 8192)) (nI a) (upd (upd (lyS st pf0 c0) (gsum (ptG pf0) c0) (nI en0)) (gsum (ptG pf0) c0 + 1) (nI (en0 + 4096))) (upd (upd (lyR rt pf0 c0) (gsum (ptG pf0) c0) 3) (gsum (ptG pf0) c0 + 1) 11) (upr (lpZ (lpZ (lyB pb fr pf0 c0) (gsum (ptG pf0) c0)) (gsum (ptG pf0) c0 + 1)) (gsum (ptG pf0) c0 + 1) (skT ((lpZ (lpZ (lyB pb fr pf0 c0) (gsum (ptG pf0) c0)) (gsum (ptG pf0) c0 + 1)) (gsum (ptG pf0) c0 + 1)) ar z P ((upd (upd (lyS st pf0 c0) (gsum (ptG pf0) c0) (nI en0)) (gsum (ptG pf0) c0 + 1) (nI (en0 + 4096))) (gsum (ptG pf0) c0 + 1)) a))) hD) rfl rfl) rfl rfl hl.1 rfl (lv_room (Nat.le_of_ble_eq_true rfl)) d_LW_367 ⟨Nat.le_of_ble_eq_true rfl, Nat.le_of_ble_eq_true rfl⟩) hP hD hS hA (fun rM H locs hM hP hD hS => ?_)
      have hP := xPperm List.perm_append_comm hP
      have hD := xDperm List.perm_append_comm hD
      have ew : nI (mwC n fr (fF, fA, fB, fS, fW) (rm2 (xs (nI i + 1).toNatClampNeg))) = nI (jdC n fr a z pf (rmN (xs (nI i + 1).toNatClampNeg))) := by rw [c1, h3]
      rw [ew] at hP hD
      refine lv_icmp_eq (tgt := 457) hx hb d_LW_370 (by decide) (fun c9 => ?_) (fun c9 => absurd (by rw [hG9, hM, h13, show wsum S9 c0 + 1 + 1 = 2 + wsum S9 c0 from by omega]) c9)
      exact hGo (nI (jdC n fr a z pf (rmN (xs (nI i + 1).toNatClampNeg)))) n fr a ar z c0 (nI (nbN fr 24 4)) en0 pp0 pf0 (gsum (ptG pf0) c0 + 1 + 1) (nI (nbN fr 24 4)) ((upd (upd (lyS st pf0 c0) (gsum (ptG pf0) c0) (nI en0)) (gsum (ptG pf0) c0 + 1) (nI (en0 + 4096))) (gsum (ptG pf0) c0 + 1) + nI P) (nI (en0 + 8192)) (nI a) (upd (upd (lyS st pf0 c0) (gsum (ptG pf0) c0) (nI en0)) (gsum (ptG pf0) c0 + 1) (nI (en0 + 4096))) (upd (upd (lyR rt pf0 c0) (gsum (ptG pf0) c0) 3) (gsum (ptG pf0) c0 + 1) 11) (upr (lpZ (lpZ (lyB pb fr pf0 c0) (gsum (ptG pf0) c0)) (gsum (ptG pf0) c0 + 1)) (gsum (ptG pf0) c0 + 1) (skT ((lpZ (lpZ (lyB pb fr pf0 c0) (gsum (ptG pf0) c0)) (gsum (ptG pf0) c0 + 1)) (gsum (ptG pf0) c0 + 1)) ar z P ((upd (upd (lyS st pf0 c0) (gsum (ptG pf0) c0) (nI en0)) (gsum (ptG pf0) c0 + 1) (nI (en0 + 4096))) (gsum (ptG pf0) c0 + 1)) a)) 0 le c0 en0 F9 A9 B9 S9 W9 (mkT (zf 4096 sk) le z P (en0 + 8192) a) (2 + wsum S9 c0) (nI (nbN fr 24 4)) (nI (en0 + 8192 - 4096 + P)) (en0 + 8192) a c0 (cpk fr tk n) (cpn F9 gF c0) (cpn A9 gA c0) (cpn B9 gB c0) (cpn S9 gS c0) (cpk W9 gW c0) (cpk (mkT (zf 4096 sk) le z P (en0 + 8192) a) yk 4096) ⟨hn, ha, hz, hFr, hAr, hLe, mkT_fit (zf_fit hSk) hLe a, hAL⟩ (load_rim st rt pb tk gF gA gB gS gW yk (nI (nbN fr 24 4)) h12 h5 h6 h13 ha hAL) H locs hP hD hS ls hl
    · have j6 : jdC n fr a z pf (rmN (xs (nI i + 1).toNatClampNeg)) = 6 := (jd.2 c1).2.1 c2
      have jX : ¬ jdC n fr a z pf (rmN (xs (nI i + 1).toNatClampNeg)) = 0 := by rw [j6]; decide
      rcases hq : (mwP n fr (fF, fA, fB, fS, fW)) with ⟨c0, en0, F9, A9, B9, S9, W9⟩
      have hen : en0 ≤ 1073733632 := by
        have h9 := (MI_all fr n (fF, fA, fB, fS, fW)).1.1
        have h8 : (mwP n fr (fF, fA, fB, fS, fW)) = (mdAll fr n (fF, fA, fB, fS, fW)).2 := by rw [mwP, if_pos (jd.2 c1).2.2.1]
        rw [← h8, hq] at h9
        exact h9
      refine zcalli (wr := wsM bd cm th n fr a z le rf fo en fF fA fB fS fW sk pg ye ys yt yg yp tk gF gA gB gS gW yk) (va_runV (As := [.int (xs (nI i + 1).toNatClampNeg)]) (rest := []) ⟨hx, hb, hml, hown, hts⟩ (c_gt_loadX l dC dI ad ck rf n fr a ar z pc pe pt pp pf ic ie ip iz ia st rt pb (xs (nI i + 1).toNatClampNeg) jX ha hz hn H.size) (cwV 1 hts (xgV wd_255 wd_256 wd_257 wd_15 wd_258) rfl rfl rfl (by decide +kernel) ⟨Nat.le_of_ble_eq_true rfl, Nat.le_of_ble_eq_true rfl⟩) (xpreV (q0 := 0) hKG hN hZ hA hS (xPr (wr := wsM bd cm th n fr a z le rf fo en fF fA fB fS fW sk pg ye ys yt yg yp tk gF gA gB gS gW yk) hP) (xDr (wr := wsM bd cm th n fr a z le rf fo en fF fA fB fS fW sk pg ye ys yt yg yp tk gF gA gB gS gW yk) hD) rfl rfl) rfl rfl hl.1 rfl (lv_room (Nat.le_of_ble_eq_true rfl)) d_LW_358 ⟨Nat.le_of_ble_eq_true rfl, Nat.le_of_ble_eq_true rfl⟩) hP hD hS hA (fun rG H locs hG hP hD hS => ?_)
      have hG9 := hG
      have hP := xPperm List.perm_append_comm hP
      have hD := xDperm List.perm_append_comm hD
      refine lv_aload_n hx hb d_LW_361 rfl (lv_at hl 1 rfl) ?_
      refine lv_aload_n hx hb d_LW_362 rfl (lv_at hl 3 rfl) ?_
      refine lv_iload_n hx hb d_LW_363 rfl (lv_at hl 0 rfl) ?_
      refine lv_iconst (v := 1) hx hb d_LW_364 (by decide) ?_
      refine lv_iadd hx hb d_LW_365 ?_
      refine va_sld hx hb hX hbl hbA hS hin1 d_LW_366 ?_
      refine zcalli (wr := wsG ad ck (nI (jdC n fr a z pf (rmN (xs (nI i + 1).toNatClampNeg)))) n fr a ar z ((jdP n fr pe (pc, pt, pp, pf)).2.1) ((jdP n fr pe (pc, pt, pp, pf)).1) ((jdP n fr pe (pc, pt, pp, pf)).2.2.1) ((jdP n fr pe (pc, pt, pp, pf)).2.2.2.1) ((jdP n fr pe (pc, pt, pp, pf)).2.2.2.2) ic ie ip iz ia st rt pb) (va_runV (As := [.int (xs (nI i + 1).toNatClampNeg)]) (rest := [.int rG]) ⟨hx, hb, hml, hown, hts⟩ (m_load6 l dC dI bd cm th n fr a z le rf fo en fF fA fB fS fW sk pg ye ys yt yg yp tk gF gA gB gS gW yk (xs (nI i + 1).toNatClampNeg) c0 en0 F9 A9 B9 S9 W9 c1 hq hen c2 hLe ha hz hn H.size) (cwV 1 hts (xgV wd_511 wd_512 wd_513 wd_22 wd_514) rfl rfl rfl (by decide +kernel) ⟨Nat.le_of_ble_eq_true rfl, Nat.le_of_ble_eq_true rfl⟩) (xpreV (q0 := 0) hKM hN hZ hA hS (xPr (wr := wsG ad ck (nI (jdC n fr a z pf (rmN (xs (nI i + 1).toNatClampNeg)))) n fr a ar z ((jdP n fr pe (pc, pt, pp, pf)).2.1) ((jdP n fr pe (pc, pt, pp, pf)).1) ((jdP n fr pe (pc, pt, pp, pf)).2.2.1) ((jdP n fr pe (pc, pt, pp, pf)).2.2.2.1) ((jdP n fr pe (pc, pt, pp, pf)).2.2.2.2) ic ie ip iz ia st rt pb) hP) (xDr (wr := wsG ad ck (nI (jdC n fr a z pf (rmN (xs (nI i + 1).toNatClampNeg)))) n fr a ar z ((jdP n fr pe (pc, pt, pp, pf)).2.1) ((jdP n fr pe (pc, pt, pp, pf)).1) ((jdP n fr pe (pc, pt, pp, pf)).2.2.1) ((jdP n fr pe (pc, pt, pp, pf)).2.2.2.1) ((jdP n fr pe (pc, pt, pp, pf)).2.2.2.2) ic ie ip iz ia st rt pb) hD) rfl rfl) rfl rfl hl.1 rfl (lv_room (Nat.le_of_ble_eq_true rfl)) d_LW_367 ⟨Nat.le_of_ble_eq_true rfl, Nat.le_of_ble_eq_true rfl⟩) hP hD hS hA (fun rM H locs hM hP hD hS => ?_)
      have hP := xPperm List.perm_append_comm hP
      have hD := xDperm List.perm_append_comm hD
      have ew : (6 : Int32) = nI (jdC n fr a z pf (rmN (xs (nI i + 1).toNatClampNeg))) := by rw [j6]; rfl
      rw [ew] at hP hD
      refine lv_icmp_eq (tgt := 457) hx hb d_LW_370 (by decide) (fun c9 => ?_) (fun c9 => absurd (by rw [hG9, hM]) c9)
      exact hGo (nI (jdC n fr a z pf (rmN (xs (nI i + 1).toNatClampNeg)))) n fr a ar z ((jdP n fr pe (pc, pt, pp, pf)).2.1) ((jdP n fr pe (pc, pt, pp, pf)).1) ((jdP n fr pe (pc, pt, pp, pf)).2.2.1) ((jdP n fr pe (pc, pt, pp, pf)).2.2.2.1) ((jdP n fr pe (pc, pt, pp, pf)).2.2.2.2) ic ie ip iz ia st rt pb 0 le c0 en0 F9 A9 B9 S9 W9 (zf 4096 sk) pg ye ys yt yg yp tk gF gA gB gS gW yk ⟨hn, ha, hz, hFr, hAr, hLe, zf_fit hSk, hAL⟩ hRM H locs hP hD hS ls hl
  · have jq : jdC n fr a z pf (rmN (xs (nI i + 1).toNatClampNeg)) = mwC n fr (fF, fA, fB, fS, fW) (rm2 (xs (nI i + 1).toNatClampNeg)) := jd.1 c1
    have jX : ¬ jdC n fr a z pf (rmN (xs (nI i + 1).toNatClampNeg)) = 0 := by rw [jq]; exact c1
    refine zcalli (wr := wsM bd cm th n fr a z le rf fo en fF fA fB fS fW sk pg ye ys yt yg yp tk gF gA gB gS gW yk) (va_runV (As := [.int (xs (nI i + 1).toNatClampNeg)]) (rest := []) ⟨hx, hb, hml, hown, hts⟩ (c_gt_loadX l dC dI ad ck rf n fr a ar z pc pe pt pp pf ic ie ip iz ia st rt pb (xs (nI i + 1).toNatClampNeg) jX ha hz hn H.size) (cwV 1 hts (xgV wd_255 wd_256 wd_257 wd_15 wd_258) rfl rfl rfl (by decide +kernel) ⟨Nat.le_of_ble_eq_true rfl, Nat.le_of_ble_eq_true rfl⟩) (xpreV (q0 := 0) hKG hN hZ hA hS (xPr (wr := wsM bd cm th n fr a z le rf fo en fF fA fB fS fW sk pg ye ys yt yg yp tk gF gA gB gS gW yk) hP) (xDr (wr := wsM bd cm th n fr a z le rf fo en fF fA fB fS fW sk pg ye ys yt yg yp tk gF gA gB gS gW yk) hD) rfl rfl) rfl rfl hl.1 rfl (lv_room (Nat.le_of_ble_eq_true rfl)) d_LW_358 ⟨Nat.le_of_ble_eq_true rfl, Nat.le_of_ble_eq_true rfl⟩) hP hD hS hA (fun rG H locs hG hP hD hS => ?_)
    have hG9 := hG
    have hP := xPperm List.perm_append_comm hP
    have hD := xDperm List.perm_append_comm hD
    refine lv_aload_n hx hb d_LW_361 rfl (lv_at hl 1 rfl) ?_
    refine lv_aload_n hx hb d_LW_362 rfl (lv_at hl 3 rfl) ?_
    refine lv_iload_n hx hb d_LW_363 rfl (lv_at hl 0 rfl) ?_
    refine lv_iconst (v := 1) hx hb d_LW_364 (by decide) ?_
    refine lv_iadd hx hb d_LW_365 ?_
    refine va_sld hx hb hX hbl hbA hS hin1 d_LW_366 ?_
    refine zcalli (wr := wsG ad ck (nI (jdC n fr a z pf (rmN (xs (nI i + 1).toNatClampNeg)))) n fr a ar z ((jdP n fr pe (pc, pt, pp, pf)).2.1) ((jdP n fr pe (pc, pt, pp, pf)).1) ((jdP n fr pe (pc, pt, pp, pf)).2.2.1) ((jdP n fr pe (pc, pt, pp, pf)).2.2.2.1) ((jdP n fr pe (pc, pt, pp, pf)).2.2.2.2) ic ie ip iz ia st rt pb) (va_runV (As := [.int (xs (nI i + 1).toNatClampNeg)]) (rest := [.int rG]) ⟨hx, hb, hml, hown, hts⟩ (m_loadX l dC dI bd cm th n fr a z le rf fo en fF fA fB fS fW sk pg ye ys yt yg yp tk gF gA gB gS gW yk (xs (nI i + 1).toNatClampNeg) c1 hn H.size) (cwV 1 hts (xgV wd_511 wd_512 wd_513 wd_22 wd_514) rfl rfl rfl (by decide +kernel) ⟨Nat.le_of_ble_eq_true rfl, Nat.le_of_ble_eq_true rfl⟩) (xpreV (q0 := 0) hKM hN hZ hA hS (xPr (wr := wsG ad ck (nI (jdC n fr a z pf (rmN (xs (nI i + 1).toNatClampNeg)))) n fr a ar z ((jdP n fr pe (pc, pt, pp, pf)).2.1) ((jdP n fr pe (pc, pt, pp, pf)).1) ((jdP n fr pe (pc, pt, pp, pf)).2.2.1) ((jdP n fr pe (pc, pt, pp, pf)).2.2.2.1) ((jdP n fr pe (pc, pt, pp, pf)).2.2.2.2) ic ie ip iz ia st rt pb) hP) (xDr (wr := wsG ad ck (nI (jdC n fr a z pf (rmN (xs (nI i + 1).toNatClampNeg)))) n fr a ar z ((jdP n fr pe (pc, pt, pp, pf)).2.1) ((jdP n fr pe (pc, pt, pp, pf)).1) ((jdP n fr pe (pc, pt, pp, pf)).2.2.1) ((jdP n fr pe (pc, pt, pp, pf)).2.2.2.1) ((jdP n fr pe (pc, pt, pp, pf)).2.2.2.2) ic ie ip iz ia st rt pb) hD) rfl rfl) rfl rfl hl.1 rfl (lv_room (Nat.le_of_ble_eq_true rfl)) d_LW_367 ⟨Nat.le_of_ble_eq_true rfl, Nat.le_of_ble_eq_true rfl⟩) hP hD hS hA (fun rM H locs hM hP hD hS => ?_)
    have hP := xPperm List.perm_append_comm hP
    have hD := xDperm List.perm_append_comm hD
    have ew : nI (mwC n fr (fF, fA, fB, fS, fW) (rm2 (xs (nI i + 1).toNatClampNeg))) = nI (jdC n fr a z pf (rmN (xs (nI i + 1).toNatClampNeg))) := by rw [jq]
    rw [ew] at hP hD
    refine lv_icmp_eq (tgt := 457) hx hb d_LW_370 (by decide) (fun c9 => ?_) (fun c9 => absurd (by rw [hG9, hM]) c9)
    exact hGo (nI (jdC n fr a z pf (rmN (xs (nI i + 1).toNatClampNeg)))) n fr a ar z ((jdP n fr pe (pc, pt, pp, pf)).2.1) ((jdP n fr pe (pc, pt, pp, pf)).1) ((jdP n fr pe (pc, pt, pp, pf)).2.2.1) ((jdP n fr pe (pc, pt, pp, pf)).2.2.2.1) ((jdP n fr pe (pc, pt, pp, pf)).2.2.2.2) ic ie ip iz ia st rt pb 0 le ((mwP n fr (fF, fA, fB, fS, fW)).1) ((mwP n fr (fF, fA, fB, fS, fW)).2.1) ((mwP n fr (fF, fA, fB, fS, fW)).2.2.1) ((mwP n fr (fF, fA, fB, fS, fW)).2.2.2.1) ((mwP n fr (fF, fA, fB, fS, fW)).2.2.2.2.1) ((mwP n fr (fF, fA, fB, fS, fW)).2.2.2.2.2.1) ((mwP n fr (fF, fA, fB, fS, fW)).2.2.2.2.2.2) sk pg ye ys yt yg yp tk gF gA gB gS gW yk hLR hRM H locs hP hD hS ls hl
