set_option maxHeartbeats 4000000 in
set_option maxRecDepth 100000 in
theorem c_im_takePage (l : Launch) (dC : Nat → ClassId) (dI : Nat → Nat → Nat) (ad : Nat → Nat) (ck : Nat → ClassId) (rf : Int32) (n : Nat) (fr : Nat → Int32) (a : Nat) (ar : Nat → Int32) (z : Nat → Nat) (pc : Nat) (pe : Int32) (pt pp : Nat) (pf : Nat → Nat → Int32) (ic : Nat) (ie ip iz ia : Int32) (st rt : Nat → Int32) (pb : Nat → Nat → Int32) (s0 r0 : Int32) (hic : ic < 32) (sz : Nat) : Met l y_IM_takePage w_IM_takePage { frames := 2, cells := 0, slots := 0, locals := 45 } (va_Pc [.ref (ad 8), .int s0, .int r0] (xP (dC, dI) (tyG ck) (wsG ad ck rf n fr a ar z pc pe pt pp pf ic ie ip iz ia st rt pb) sz)) (xQq (dC, dI) (tyG ck) (va_A (wsG ad ck rf n fr a ar z pc pe pt pp pf ic ie ip iz ia st rt pb) sz) (wsG ad ck rf n fr a ar z pc pe pt pp pf (ic + 1) ie ip iz ia (upd st ic s0) (upd rt ic r0) (lpZ pb ic)) (fun r => r = some (ad (ic + 20)))) 0 0 (va_A (wsG ad ck rf n fr a ar z pc pe pt pp pf ic ie ip iz ia st rt pb) sz) := by
  refine xof (cc := b_IM_takePage) (maxL := 4) (ret := (some (.object "ImageGate$Page"))) (own := R_IM) (Qc := fun A => (xQq (dC, dI) (tyG ck) A (wsG ad ck rf n fr a ar z pc pe pt pp pf (ic + 1) ie ip iz ia (upd st ic s0) (upd rt ic r0) (lpZ pb ic)) (fun r => r = some (ad (ic + 20))))) (by decide) rfl rfl (Nat.le_of_ble_eq_true rfl) ?_ sz
  intro p e s m below meth c A C hnm hK hP hD hA hN hZ hS ls hl
  obtain ⟨hx, hb, hr, hml, hown, hts, hlocks⟩ := C
  have hl : lv_has ls 4 [(0, .ref (ad 8)), (1, .int s0), (2, .int r0)] := hl
  refine lv_aload_n hx hb d_IM_takePage_0 rfl (lv_at hl 0 rfl) ?_
  refine va_get (D := (dC, dI)) (ci := 2) (v := .int (nI ic)) (C := R_IM) (T := T_IM) (N := 6) hx hb hts i_IM hown hK hP 8 rfl rfl 1 (by decide) (hts _ wd_153) (fun _ h9 => h9) rfl d_IM_takePage_1 ?_
  refine lv_aload_n hx hb d_IM_takePage_4 rfl (lv_at hl 0 rfl) ?_
  refine va_get (D := (dC, dI)) (ci := 2) (v := .ref (ad 9)) (C := R_IM) (T := T_IM) (N := 6) hx hb hts i_IM hown hK hP 8 rfl rfl 0 (by decide) (hts _ wd_152) (fun _ h9 => h9) rfl d_IM_takePage_5 ?_
  refine va_alen (v := 32) hx hb hK hP 9 3 rfl rfl rfl d_IM_takePage_8 ?_
  refine lv_icmp_lt (tgt := 14) hx hb d_IM_takePage_9 (by decide) (fun c_1 => ?_) (fun c_1 => ?_)
  · skip
    have c_1 : ic < 32 := (nI_ltI (a := ic) (b := 32) (by omega) (by omega)).mp c_1
    refine lv_aload_n hx hb d_IM_takePage_14 rfl (lv_at hl 0 rfl) ?_
    refine va_get (D := (dC, dI)) (ci := 2) (v := .ref (ad 9)) (C := R_IM) (T := T_IM) (N := 6) hx hb hts i_IM hown hK hP 8 rfl rfl 0 (by decide) (hts _ wd_152) (fun _ h9 => h9) rfl d_IM_takePage_15 ?_
    refine lv_aload_n hx hb d_IM_takePage_18 rfl (lv_at hl 0 rfl) ?_
    refine va_get (D := (dC, dI)) (ci := 2) (v := .int (nI ic)) (C := R_IM) (T := T_IM) (N := 6) hx hb hts i_IM hown hK hP 8 rfl rfl 1 (by decide) (hts _ wd_153) (fun _ h9 => h9) rfl d_IM_takePage_19 ?_
    refine xaald (b := ad (ic + 20)) (k := ic) hx hb hK hP 9 3 rfl rfl (rfl) (by omega) (by decide) rfl d_IM_takePage_22 ?_
    refine lv_astore_n (lv' := [(3, .ref (ad (ic + 20))), (0, .ref (ad 8)), (1, .int s0), (2, .int r0)]) hx hb d_IM_takePage_23 rfl hl (by decide) rfl (fun ls hl => ?_)
    refine lv_aload_n hx hb d_IM_takePage_24 rfl (lv_at hl 0 rfl) ?_
    refine lv_iload_n hx hb d_IM_takePage_25 rfl (lv_at hl 2 rfl) ?_
    refine lv_iload_n hx hb d_IM_takePage_26 rfl (lv_at hl 3 rfl) ?_
    refine xcallv (va_runV (As := [.int s0, .int r0]) (rest := []) ⟨hx, hb, hml, hown, hts⟩ (c_pg_clear l dC dI ad ck rf n fr a ar z pc pe pt pp pf ic ie ip iz ia st rt pb ic s0 r0 hic s.heap.size) (cwV 2 hts (xgV wd_331 wd_332 wd_333 wd_21 wd_334) rfl rfl rfl (by decide +kernel) ⟨Nat.le_of_ble_eq_true rfl, Nat.le_of_ble_eq_true rfl⟩) (xpreV (q0 := (ic + 18)) hK hN hZ hA hS hP hD rfl (wsG_page hic)) rfl rfl hl.1 rfl (lv_room (Nat.le_of_ble_eq_true rfl)) d_IM_takePage_27 ⟨Nat.zero_le _, Nat.zero_le _⟩) hD hS hA (fun H locs hP hD hS => ?_)
    refine lv_aload_n hx hb d_IM_takePage_30 rfl (lv_at hl 1 rfl) ?_
    refine lv_dup hx hb d_IM_takePage_31 rfl ?_
    refine va_get (D := (dC, dI)) (ci := 2) (v := .int (nI ic)) (C := R_IM) (T := T_IM) (N := 6) hx hb hts i_IM hown hK hP 8 rfl rfl 1 (by decide) (hts _ wd_153) (fun _ h9 => h9) rfl d_IM_takePage_32 ?_
    refine lv_iconst (v := 1) hx hb d_IM_takePage_35 (by decide) ?_
    refine lv_iadd hx hb d_IM_takePage_36 ?_
    refine xtopi (y := nI (ic + 1)) (nI_add (ic) (1)) ?_
    refine va_put (D := (dC, dI)) (ci := 2) (v := .int (nI (ic + 1))) (ty := .int) (C := R_IM) (T := T_IM) (N := 6) hx hb hts i_IM t_IM k_IM n_IM hown hK hP hD hS 8 rfl rfl 1 (by decide) (hts _ wd_153) (fun _ h9 => h9) rfl (by decide +kernel) rfl rfl (Nat.le_of_ble_eq_true rfl) d_IM_takePage_37 (fun H locs hP hD hS => ?_)
    have hP : va_P (dC, dI) vwCl (wsG ad ck rf n fr a ar z pc pe pt pp pf (ic + 1) ie ip iz ia (upd st ic s0) (upd rt ic r0) (upr pb ic (zf 4096 (pb ic)))) H := hP
    have hD : va_D A (wsG ad ck rf n fr a ar z pc pe pt pp pf (ic + 1) ie ip iz ia (upd st ic s0) (upd rt ic r0) (upr pb ic (zf 4096 (pb ic)))) := hD
    refine lv_aload_n hx hb d_IM_takePage_40 rfl (lv_at hl 0 rfl) ?_
    have hw9 : wsG ad ck rf n fr a ar z pc pe pt pp pf (ic + 1) ie ip iz ia (upd st ic s0) (upd rt ic r0) (upr pb ic (zf 4096 (pb ic))) = wsG ad ck rf n fr a ar z pc pe pt pp pf (ic + 1) ie ip iz ia (upd st ic s0) (upd rt ic r0) (lpZ pb ic) := rfl
    rw [hw9] at hP hD
    exact xretq (v := some (ad (ic + 20))) hx hb hr hlocks hK hP hD hS (rfl) d_IM_takePage_41
  · skip
    have c_1 : ¬ (ic < 32) := fun h9 => c_1 ((nI_ltI (a := ic) (b := 32) (by omega) (by omega)).mpr h9)
    exact absurd c_1 (by omega)
set_option maxHeartbeats 4000000 in
set_option maxRecDepth 100000 in
theorem c_im_find (l : Launch) (dC : Nat → ClassId) (dI : Nat → Nat → Nat) (ad : Nat → Nat) (ck : Nat → ClassId) (rf : Int32) (n : Nat) (fr : Nat → Int32) (a : Nat) (ar : Nat → Int32) (z : Nat → Nat) (pc : Nat) (pe : Int32) (pt pp : Nat) (pf : Nat → Nat → Int32) (ic : Nat) (ie ip iz ia : Int32) (st rt : Nat → Int32) (pb : Nat → Nat → Int32) (x : Int32) (hic : ic ≤ 32) (sz : Nat) : Met l y_IM_find w_IM_find { frames := 0, cells := 0, slots := 0, locals := 0 } (va_Pc [.ref (ad 8), .int x] (xP (dC, dI) (tyG ck) (wsG ad ck rf n fr a ar z pc pe pt pp pf ic ie ip iz ia st rt pb) sz)) (xQq (dC, dI) (tyG ck) (va_A (wsG ad ck rf n fr a ar z pc pe pt pp pf ic ie ip iz ia st rt pb) sz) (wsG ad ck rf n fr a ar z pc pe pt pp pf ic ie ip iz ia st rt pb) (fun r => r = (fdI st (x &&& (-4096)) ic 0).map (fun j => ad (j + 20)))) 0 0 (va_A (wsG ad ck rf n fr a ar z pc pe pt pp pf ic ie ip iz ia st rt pb) sz) := by
  refine xof (cc := b_IM_find) (maxL := 3) (ret := (some (.object "ImageGate$Page"))) (own := R_IM) (Qc := fun A => (xQq (dC, dI) (tyG ck) A (wsG ad ck rf n fr a ar z pc pe pt pp pf ic ie ip iz ia st rt pb) (fun r => r = (fdI st (x &&& (-4096)) ic 0).map (fun j => ad (j + 20))))) (by decide) rfl rfl (Nat.le_of_ble_eq_true rfl) ?_ sz
  intro p e s m below meth c A C hnm hK hP hD hA hN hZ hS ls hl
  obtain ⟨hx, hb, hr, hml, hown, hts, hlocks⟩ := C
  have hl : lv_has ls 3 [(0, .ref (ad 8)), (1, .int x)] := hl
  refine lv_iconst (v := 0) hx hb d_IM_find_0 (by decide) ?_
  refine lv_istore_n (lv' := [(2, .int 0), (0, .ref (ad 8)), (1, .int x)]) hx hb d_IM_find_1 rfl hl (by decide) rfl (fun ls hl => ?_)
  have lp2 : ∀ (fu2 : Nat) (j : Nat), (ic - j < fu2) → (j ≤ ic) → (fdI st (x &&& (-4096)) (ic - j) j = fdI st (x &&& (-4096)) ic 0) → ∀ (H : Heap) (locs : List Loc), va_P (dC, dI) vwCl (wsG ad ck rf n fr a ar z pc pe pt pp pf ic ie ip iz ia st rt pb) H → va_D A (wsG ad ck rf n fr a ar z pc pe pt pp pf ic ie ip iz ia st rt pb) → va_S A s.heap H locs → ∀ ls : Array Slot, lv_has ls 3 [(0, .ref (ad 8)), (1, .int x), (2, .int (nI j))] → W p l e { frames := 0, cells := 0, slots := 0, locals := 0 } s m [.ref (ad 8), .int x].toArray below meth c H locs 0 0 (MQ below (xQq (dC, dI) (tyG ck) A (wsG ad ck rf n fr a ar z pc pe pt pp pf ic ie ip iz ia st rt pb) (fun r => r = (fdI st (x &&& (-4096)) ic 0).map (fun j => ad (j + 20)))) [.ref (ad 8), .int x].toArray s 0 0 A) (F0 m 2 ls []) := by
    intro fu2
    induction fu2 with
    | zero => intro j hfu2; exact absurd hfu2 (Nat.not_lt_zero _)
    | succ fu2 ih2 =>
      intro j hfu2 hj heq H locs hP hD hS ls hl
      refine lv_iload_n hx hb d_IM_find_2 rfl (lv_at hl 2 rfl) ?_
      refine lv_aload_n hx hb d_IM_find_3 rfl (lv_at hl 0 rfl) ?_
      refine va_get (D := (dC, dI)) (ci := 2) (v := .int (nI ic)) (C := R_IM) (T := T_IM) (N := 6) hx hb hts i_IM hown hK hP 8 rfl rfl 1 (by decide) (hts _ wd_153) (fun _ h9 => h9) rfl d_IM_find_4 ?_
      refine lv_icmp_ge (tgt := 49) hx hb d_IM_find_7 (by decide) (fun c_1 => ?_) (fun c_1 => ?_)
      · skip
        have c_1 : ic ≤ j := (nI_leI (a := ic) (b := j) (by omega) (by omega)).mp c_1
        have e9 : fdI st (x &&& (-4096)) ic 0 = none := by rw [← heq, show ic - j = 0 from by omega]; rfl
        refine lv_null hx hb d_IM_find_49 ?_
        exact xretq (v := none) hx hb hr hlocks hK hP hD hS (by rw [e9]; rfl) d_IM_find_50
      · skip
        have c_1 : ¬ (ic ≤ j) := fun h9 => c_1 ((nI_leI (a := ic) (b := j) (by omega) (by omega)).mpr h9)
        refine lv_iload_n hx hb d_IM_find_10 rfl (lv_at hl 2 rfl) ?_
        refine lv_aload_n hx hb d_IM_find_11 rfl (lv_at hl 0 rfl) ?_
        refine va_get (D := (dC, dI)) (ci := 2) (v := .ref (ad 9)) (C := R_IM) (T := T_IM) (N := 6) hx hb hts i_IM hown hK hP 8 rfl rfl 0 (by decide) (hts _ wd_152) (fun _ h9 => h9) rfl d_IM_find_12 ?_
        refine va_alen (v := 32) hx hb hK hP 9 3 rfl rfl rfl d_IM_find_15 ?_
        refine lv_icmp_ge (tgt := 49) hx hb d_IM_find_16 (by decide) (fun c_2 => ?_) (fun c_2 => ?_)
        · skip
          have c_2 : 32 ≤ j := (nI_leI (a := 32) (b := j) (by omega) (by omega)).mp c_2
          exact absurd c_2 (by omega)
        · skip
          have c_2 : ¬ (32 ≤ j) := fun h9 => c_2 ((nI_leI (a := 32) (b := j) (by omega) (by omega)).mpr h9)
          refine lv_aload_n hx hb d_IM_find_19 rfl (lv_at hl 0 rfl) ?_
          refine va_get (D := (dC, dI)) (ci := 2) (v := .ref (ad 9)) (C := R_IM) (T := T_IM) (N := 6) hx hb hts i_IM hown hK hP 8 rfl rfl 0 (by decide) (hts _ wd_152) (fun _ h9 => h9) rfl d_IM_find_20 ?_
          refine lv_iload_n hx hb d_IM_find_23 rfl (lv_at hl 2 rfl) ?_
          refine xaald (b := ad (j + 20)) (k := j) hx hb hK hP 9 3 rfl rfl (rfl) (by omega) (by decide) rfl d_IM_find_24 ?_
          refine va_getN (D := (dC, dI)) (ci := 3) (v := .int (st j)) (C := R_PG) (T := T_PG) (N := 3) hx hb hts i_PG hown hK hP (j + 18) (wsG_page (by omega)) rfl 1 (by decide) (hN.use wd_141) (fun _ h9 => h9) rfl d_IM_find_25 ?_
          refine lv_iload_n hx hb d_IM_find_28 rfl (lv_at hl 1 rfl) ?_
          refine lv_sipush (v := (-4096)) hx hb d_IM_find_29 (by decide) ?_
          refine lv_iand hx hb d_IM_find_32 ?_
          refine lv_icmp_ne (tgt := 43) hx hb d_IM_find_33 (by decide) (fun c_3 => ?_) (fun c_3 => ?_)
          · skip
            refine lv_iinc (v := nI (j + 1)) (lv' := [(2, .int (nI (j + 1))), (0, .ref (ad 8)), (1, .int x)]) hx hb d_IM_find_43 hl (k := 2) rfl (nI_1 _) (by decide) rfl (fun ls hl => ?_)
            refine lv_goto (tgt := 2) hx hb d_IM_find_46 (by decide) ?_
            rw [show ic - j = ic - (j + 1) + 1 from by omega, fdI, if_neg c_3] at heq
            exact ih2 (j + 1) (by omega) (by omega) (heq) _ _ hP hD hS _ (lv_sub hl [1, 2, 0] rfl)
          · skip
            have e9 : fdI st (x &&& (-4096)) ic 0 = some j := by rw [← heq, show ic - j = ic - (j + 1) + 1 from by omega, fdI, if_pos c_3]
            refine lv_aload_n hx hb d_IM_find_36 rfl (lv_at hl 0 rfl) ?_
            refine va_get (D := (dC, dI)) (ci := 2) (v := .ref (ad 9)) (C := R_IM) (T := T_IM) (N := 6) hx hb hts i_IM hown hK hP 8 rfl rfl 0 (by decide) (hts _ wd_152) (fun _ h9 => h9) rfl d_IM_find_37 ?_
            refine lv_iload_n hx hb d_IM_find_40 rfl (lv_at hl 2 rfl) ?_
            refine xaald (b := ad (j + 20)) (k := j) hx hb hK hP 9 3 rfl rfl (rfl) (by omega) (by decide) rfl d_IM_find_41 ?_
            exact xretq (v := some (ad (j + 20))) hx hb hr hlocks hK hP hD hS (by rw [e9]; rfl) d_IM_find_42
  exact lp2 ((ic - 0) + 1) 0 (Nat.lt_succ_self _) (by omega) (rfl) _ _ hP hD hS _ (lv_sub hl [1, 2, 0] rfl)
set_option maxHeartbeats 4000000 in
set_option maxRecDepth 100000 in
theorem c_im_layPart (l : Launch) (dC : Nat → ClassId) (dI : Nat → Nat → Nat) (ad : Nat → Nat) (ck : Nat → ClassId) (rf : Int32) (n : Nat) (fr : Nat → Int32) (a : Nat) (ar : Nat → Int32) (z : Nat → Nat) (pc : Nat) (pe : Int32) (pt pp : Nat) (pf : Nat → Nat → Int32) (ic : Nat) (ie ip iz ia : Int32) (st rt : Nat → Int32) (pb : Nat → Nat → Int32) (pq fx bx ax gx : Nat) (r : Int32) (hpq : pq < 8) (e0 : pf pq 0 = nI fx) (e1 : pf pq 1 = nI bx) (e2 : pf pq 2 = nI ax) (e3 : pf pq 3 = nI gx) (e4 : pf pq 4 = r) (hic : ic + gx ≤ 32) (hfb : fx + bx ≤ n) (hFr : sb_Fit fr) (hn : n ≤ 65536) (sz : Nat) : Met l y_IM_layPart w_IM_layPart { frames := 3, cells := 0, slots := 0, locals := 83 } (va_Pc [.ref (ad 8), .ref (ad (pq + 10)), .ref (ad 1)] (xP (dC, dI) (tyG ck) (wsG ad ck rf n fr a ar z pc pe pt pp pf ic ie ip iz ia st rt pb) sz)) (xQv (dC, dI) (tyG ck) (va_A (wsG ad ck rf n fr a ar z pc pe pt pp pf ic ie ip iz ia st rt pb) sz) (wsG ad ck rf n fr a ar z pc pe pt pp pf (ic + gx) ie ip iz ia (lpS st ic ax gx) (lpR rt ic r gx) (lpB pb ic fr fx bx gx))) 0 0 (va_A (wsG ad ck rf n fr a ar z pc pe pt pp pf ic ie ip iz ia st rt pb) sz) := by
  refine xof (cc := b_IM_layPart) (maxL := 6) (ret := none) (own := R_IM) (Qc := fun A => (xQv (dC, dI) (tyG ck) A (wsG ad ck rf n fr a ar z pc pe pt pp pf (ic + gx) ie ip iz ia (lpS st ic ax gx) (lpR rt ic r gx) (lpB pb ic fr fx bx gx)))) (by decide) rfl rfl (Nat.le_of_ble_eq_true rfl) ?_ sz
  intro p e s m below meth c A C hnm hK hP hD hA hN hZ hS ls hl
  obtain ⟨hx, hb, hr, hml, hown, hts, hlocks⟩ := C
  have hl : lv_has ls 6 [(0, .ref (ad 8)), (1, .ref (ad (pq + 10))), (2, .ref (ad 1))] := hl
  refine lv_iconst (v := 0) hx hb d_IM_layPart_0 (by decide) ?_
  refine lv_istore_n (lv' := [(3, .int 0), (0, .ref (ad 8)), (1, .ref (ad (pq + 10))), (2, .ref (ad 1))]) hx hb d_IM_layPart_1 rfl hl (by decide) rfl (fun ls hl => ?_)
  have lp2 : ∀ (fu2 : Nat) (t : Nat), (gx - t < fu2) → (t ≤ gx) → ∀ (H : Heap) (locs : List Loc), va_P (dC, dI) vwCl (wsG ad ck rf n fr a ar z pc pe pt pp pf (ic + t) ie ip iz ia (lpS st ic ax t) (lpR rt ic r t) (lpB pb ic fr fx bx t)) H → va_D A (wsG ad ck rf n fr a ar z pc pe pt pp pf (ic + t) ie ip iz ia (lpS st ic ax t) (lpR rt ic r t) (lpB pb ic fr fx bx t)) → va_S A s.heap H locs → ∀ ls : Array Slot, lv_has ls 6 [(0, .ref (ad 8)), (1, .ref (ad (pq + 10))), (2, .ref (ad 1)), (3, .int (nI t))] → W p l e { frames := 3, cells := 0, slots := 0, locals := 83 } s m [.ref (ad 8), .ref (ad (pq + 10)), .ref (ad 1)].toArray below meth c H locs 0 0 (MQ below (xQv (dC, dI) (tyG ck) A (wsG ad ck rf n fr a ar z pc pe pt pp pf (ic + gx) ie ip iz ia (lpS st ic ax gx) (lpR rt ic r gx) (lpB pb ic fr fx bx gx))) [.ref (ad 8), .ref (ad (pq + 10)), .ref (ad 1)].toArray s 0 0 A) (F0 m 2 ls []) := by
    intro fu2
    induction fu2 with
    | zero => intro t hfu2; exact absurd hfu2 (Nat.not_lt_zero _)
    | succ fu2 ih2 =>
      intro t hfu2 ht H locs hP hD hS ls hl
      refine lv_iload_n hx hb d_IM_layPart_2 rfl (lv_at hl 3 rfl) ?_
      refine lv_aload_n hx hb d_IM_layPart_3 rfl (lv_at hl 1 rfl) ?_
      refine va_getN (D := (dC, dI)) (ci := 4) (v := .int (pf pq 3)) (C := R_PT) (T := T_PT) (N := 5) hx hb hts i_PT hown hK hP (pq + 10) (wsG_part hpq) rfl 3 (by decide) (hN.use wd_88) (fun _ h9 => h9) rfl d_IM_layPart_4 ?_
      refine xtopi (y := nI gx) (e3) ?_
      refine lv_icmp_ge (tgt := 86) hx hb d_IM_layPart_7 (by decide) (fun c_1 => ?_) (fun c_1 => ?_)
      · skip
        have c_1 : gx ≤ t := (nI_leI (a := gx) (b := t) (by omega) (by omega)).mp c_1
        have e9 : t = gx := by omega
        have hw9 : wsG ad ck rf n fr a ar z pc pe pt pp pf (ic + t) ie ip iz ia (lpS st ic ax t) (lpR rt ic r t) (lpB pb ic fr fx bx t) = wsG ad ck rf n fr a ar z pc pe pt pp pf (ic + gx) ie ip iz ia (lpS st ic ax gx) (lpR rt ic r gx) (lpB pb ic fr fx bx gx) := by rw [e9]
        rw [hw9] at hP hD
        exact xretv hx hb hr hlocks hK hP hD hS d_IM_layPart_86
      · skip
        have c_1 : ¬ (gx ≤ t) := fun h9 => c_1 ((nI_leI (a := gx) (b := t) (by omega) (by omega)).mpr h9)
        refine lv_iload_n hx hb d_IM_layPart_10 rfl (lv_at hl 3 rfl) ?_
        refine lv_bipush (v := 32) hx hb d_IM_layPart_11 (by decide) ?_
        refine lv_icmp_ge (tgt := 86) hx hb d_IM_layPart_13 (by decide) (fun c_2 => ?_) (fun c_2 => ?_)
        · skip
          have c_2 : 32 ≤ t := (nI_leI (a := 32) (b := t) (by omega) (by omega)).mp c_2
          exact absurd c_2 (by omega)
        · skip
          have c_2 : ¬ (32 ≤ t) := fun h9 => c_2 ((nI_leI (a := 32) (b := t) (by omega) (by omega)).mpr h9)
          refine lv_iload_n hx hb d_IM_layPart_16 rfl (lv_at hl 3 rfl) ?_
          refine lv_sipush (v := 4096) hx hb d_IM_layPart_17 (by decide) ?_
          refine lv_imul hx hb d_IM_layPart_20 ?_
          refine xtopi (y := nI (t * 4096)) (pk_mul (t) (4096)) ?_
          refine lv_istore (lv' := [(4, .int (nI (t * 4096))), (0, .ref (ad 8)), (1, .ref (ad (pq + 10))), (2, .ref (ad 1)), (3, .int (nI t))]) hx hb d_IM_layPart_21 hl (by decide) rfl (fun ls hl => ?_)
          refine lv_aload_n hx hb d_IM_layPart_23 rfl (lv_at hl 1 rfl) ?_
          refine lv_aload_n hx hb d_IM_layPart_24 rfl (lv_at hl 2 rfl) ?_
          refine va_getN (D := (dC, dI)) (ci := 4) (v := .int (pf pq 2)) (C := R_PT) (T := T_PT) (N := 5) hx hb hts i_PT hown hK hP (pq + 10) (wsG_part hpq) rfl 2 (by decide) (hN.use wd_86) (fun _ h9 => h9) rfl d_IM_layPart_25 ?_
          refine xtopi (y := nI ax) (e2) ?_
          refine lv_iload hx hb d_IM_layPart_28 (lv_at hl 0 rfl) ?_
          refine lv_iadd hx hb d_IM_layPart_30 ?_
          refine xtopi (y := nI (ax + (t * 4096))) (nI_add (ax) (t * 4096)) ?_
          refine lv_aload_n hx hb d_IM_layPart_31 rfl (lv_at hl 2 rfl) ?_
          refine va_getN (D := (dC, dI)) (ci := 4) (v := .int (pf pq 4)) (C := R_PT) (T := T_PT) (N := 5) hx hb hts i_PT hown hK hP (pq + 10) (wsG_part hpq) rfl 4 (by decide) (hN.use wd_90) (fun _ h9 => h9) rfl d_IM_layPart_32 ?_
          refine xtopi (y := r) (e4) ?_
          refine xcallq (va_runV (As := [.int (nI (ax + (t * 4096))), .int r]) (rest := []) ⟨hx, hb, hml, hown, hts⟩ (c_im_takePage l dC dI ad ck rf n fr a ar z pc pe pt pp pf (ic + t) ie ip iz ia (lpS st ic ax t) (lpR rt ic r t) (lpB pb ic fr fx bx t) (nI (ax + (t * 4096))) r (by omega) H.size) (cwV 2 hts (xgV wd_327 wd_329 wd_3 wd_20 wd_330) rfl rfl rfl (by decide +kernel) ⟨Nat.le_of_ble_eq_true rfl, Nat.le_of_ble_eq_true rfl⟩) (xpreV (q0 := 8) hK hN hZ hA hS hP hD rfl rfl) rfl rfl hl.1 rfl (lv_room (Nat.le_of_ble_eq_true rfl)) d_IM_layPart_35 ⟨Nat.zero_le _, Nat.zero_le _⟩) hD hS hA (fun r_3 H locs hr_3 hP hD hS => ?_)
          subst hr_3
          refine lv_astore (lv' := [(5, .ref (ad (ic + t + 20))), (4, .int (nI (t * 4096))), (0, .ref (ad 8)), (1, .ref (ad (pq + 10))), (2, .ref (ad 1)), (3, .int (nI t))]) hx hb d_IM_layPart_38 hl (by decide) rfl (fun ls hl => ?_)
          refine lv_aload hx hb d_IM_layPart_40 (lv_at hl 0 rfl) ?_
          refine lv_ifnull hx hb d_IM_layPart_42 ?_
          refine lv_iload hx hb d_IM_layPart_45 (lv_at hl 1 rfl) ?_
          refine lv_aload_n hx hb d_IM_layPart_47 rfl (lv_at hl 3 rfl) ?_
          refine va_getN (D := (dC, dI)) (ci := 4) (v := .int (pf pq 1)) (C := R_PT) (T := T_PT) (N := 5) hx hb hts i_PT hown hK hP (pq + 10) (wsG_part hpq) rfl 1 (by decide) (hN.use wd_84) (fun _ h9 => h9) rfl d_IM_layPart_48 ?_
          refine xtopi (y := nI bx) (e1) ?_
          refine lv_icmp_ge (tgt := 80) hx hb d_IM_layPart_51 (by decide) (fun c_4 => ?_) (fun c_4 => ?_)
          · skip
            have c_4 : bx ≤ t * 4096 := (nI_leI (a := bx) (b := t * 4096) (by omega) (by omega)).mp c_4
            refine lv_iinc (v := nI (t + 1)) (lv' := [(3, .int (nI (t + 1))), (5, .ref (ad (ic + t + 20))), (4, .int (nI (t * 4096))), (0, .ref (ad 8)), (1, .ref (ad (pq + 10))), (2, .ref (ad 1))]) hx hb d_IM_layPart_80 hl (k := 5) rfl (nI_1 _) (by decide) rfl (fun ls hl => ?_)
            refine lv_goto (tgt := 2) hx hb d_IM_layPart_83 (by decide) ?_
            have hw9 : wsG ad ck rf n fr a ar z pc pe pt pp pf (ic + t + 1) ie ip iz ia (upd (lpS st ic ax t) (ic + t) (nI (ax + (t * 4096)))) (upd (lpR rt ic r t) (ic + t) r) (lpZ (lpB pb ic fr fx bx t) (ic + t)) = wsG ad ck rf n fr a ar z pc pe pt pp pf (ic + (t + 1)) ie ip iz ia (lpS st ic ax (t + 1)) (lpR rt ic r (t + 1)) (lpB pb ic fr fx bx (t + 1)) := by rw [lpB, if_neg (show ¬ t * 4096 < bx from by omega)]; rfl
            rw [hw9] at hP hD
            exact ih2 (t + 1) (by omega) (by omega) _ _ hP hD hS _ (lv_sub hl [3, 4, 5, 0] rfl)
          · skip
            have c_4 : ¬ (bx ≤ t * 4096) := fun h9 => c_4 ((nI_leI (a := bx) (b := t * 4096) (by omega) (by omega)).mpr h9)
            refine lv_aload_n hx hb d_IM_layPart_54 rfl (lv_at hl 4 rfl) ?_
            refine lv_aload hx hb d_IM_layPart_55 (lv_at hl 0 rfl) ?_
            refine lv_aload_n hx hb d_IM_layPart_57 rfl (lv_at hl 3 rfl) ?_
            refine va_getN (D := (dC, dI)) (ci := 4) (v := .int (pf pq 0)) (C := R_PT) (T := T_PT) (N := 5) hx hb hts i_PT hown hK hP (pq + 10) (wsG_part hpq) rfl 0 (by decide) (hN.use wd_82) (fun _ h9 => h9) rfl d_IM_layPart_58 ?_
            refine xtopi (y := nI fx) (e0) ?_
            refine lv_iload hx hb d_IM_layPart_61 (lv_at hl 1 rfl) ?_
            refine lv_iadd hx hb d_IM_layPart_63 ?_
            refine xtopi (y := nI (fx + (t * 4096))) (nI_add (fx) (t * 4096)) ?_
            refine lv_aload_n hx hb d_IM_layPart_64 rfl (lv_at hl 3 rfl) ?_
            refine va_getN (D := (dC, dI)) (ci := 4) (v := .int (pf pq 1)) (C := R_PT) (T := T_PT) (N := 5) hx hb hts i_PT hown hK hP (pq + 10) (wsG_part hpq) rfl 1 (by decide) (hN.use wd_84) (fun _ h9 => h9) rfl d_IM_layPart_65 ?_
            refine xtopi (y := nI bx) (e1) ?_
            refine lv_iload hx hb d_IM_layPart_68 (lv_at hl 1 rfl) ?_
            refine lv_isub hx hb d_IM_layPart_70 ?_
            refine xtopi (y := nI (bx - (t * 4096))) (pk_sub (a := bx) (b := t * 4096) (by omega)) ?_
            refine lv_sipush (v := 4096) hx hb d_IM_layPart_71 (by decide) ?_
            refine va_mmin (rest := [.int (nI (fx + (t * 4096))), .ref (ad (ic + t + 20)), .ref (ad 1)]) hx hb (hml.trans hl.1.symm) hown (hts _ wd_338) (hts _ wd_260) (hts _ wd_23) (hts _ wd_261) (Nat.le_of_ble_eq_true rfl) (Nat.le_of_ble_eq_true rfl) (Nat.zero_le _) (Nat.zero_le _) d_IM_layPart_74 ?_
            refine xtopi (y := nI (min (bx - t * 4096) 4096)) (p_min (by omega)) ?_
            refine xcallv (va_runV (As := [.ref (ad (ic + t + 20)), .int (nI (fx + (t * 4096))), .int (nI (min (bx - t * 4096) 4096))]) (rest := []) ⟨hx, hb, hml, hown, hts⟩ (c_fb_copyTo l dC dI ad ck rf n fr a ar z pc pe pt pp pf (ic + t + 1) ie ip iz ia (upd (lpS st ic ax t) (ic + t) (nI (ax + (t * 4096)))) (upd (lpR rt ic r t) (ic + t) r) (lpZ (lpB pb ic fr fx bx t) (ic + t)) (ic + t) (fx + (t * 4096)) (min (bx - t * 4096) 4096) (by omega) (by omega) (by omega) hFr hn H.size) (cwV 3 hts (xgV wd_339 wd_340 wd_341 wd_16 wd_342) rfl rfl rfl (by decide +kernel) ⟨Nat.le_of_ble_eq_true rfl, Nat.le_of_ble_eq_true rfl⟩) (xpreV (q0 := 1) hK hN hZ hA hS hP hD rfl rfl) rfl rfl hl.1 rfl (lv_room (Nat.le_of_ble_eq_true rfl)) d_IM_layPart_77 ⟨Nat.zero_le _, Nat.zero_le _⟩) hD hS hA (fun H locs hP hD hS => ?_)
            refine lv_iinc (v := nI (t + 1)) (lv' := [(3, .int (nI (t + 1))), (5, .ref (ad (ic + t + 20))), (4, .int (nI (t * 4096))), (0, .ref (ad 8)), (1, .ref (ad (pq + 10))), (2, .ref (ad 1))]) hx hb d_IM_layPart_80 hl (k := 5) rfl (nI_1 _) (by decide) rfl (fun ls hl => ?_)
            refine lv_goto (tgt := 2) hx hb d_IM_layPart_83 (by decide) ?_
            have hw9 : wsG ad ck rf n fr a ar z pc pe pt pp pf (ic + t + 1) ie ip iz ia (upd (lpS st ic ax t) (ic + t) (nI (ax + (t * 4096)))) (upd (lpR rt ic r t) (ic + t) r) (upr (lpZ (lpB pb ic fr fx bx t) (ic + t)) (ic + t) (va_cpy fr ((lpZ (lpB pb ic fr fx bx t) (ic + t)) (ic + t)) (fx + (t * 4096)) 0 (min (bx - t * 4096) 4096))) = wsG ad ck rf n fr a ar z pc pe pt pp pf (ic + (t + 1)) ie ip iz ia (lpS st ic ax (t + 1)) (lpR rt ic r (t + 1)) (lpB pb ic fr fx bx (t + 1)) := by rw [lpB, if_pos (show t * 4096 < bx from by omega)]; rfl
            rw [hw9] at hP hD
            exact ih2 (t + 1) (by omega) (by omega) _ _ hP hD hS _ (lv_sub hl [3, 4, 5, 0] rfl)
  exact lp2 ((gx - 0) + 1) 0 (Nat.lt_succ_self _) (by omega) _ _ hP hD hS _ (lv_sub hl [1, 2, 3, 0] rfl)
set_option maxHeartbeats 4000000 in
set_option maxRecDepth 100000 in
theorem c_im_layStack (l : Launch) (dC : Nat → ClassId) (dI : Nat → Nat → Nat) (ad : Nat → Nat) (ck : Nat → ClassId) (rf : Int32) (n : Nat) (fr : Nat → Int32) (a : Nat) (ar : Nat → Int32) (z : Nat → Nat) (pc : Nat) (pe : Int32) (pt pp : Nat) (pf : Nat → Nat → Int32) (ic : Nat) (ie ip iz ia : Int32) (st rt : Nat → Int32) (pb : Nat → Nat → Int32) (i P : Nat) (hi : i < 32) (hsp : spOf z a = nI P) (hP4 : P + 4 * (a + 1) ≤ tpN z a) (hAr : sb_Fit ar) (ha : a ≤ 32) (hz : ∀ j, z j ≤ 127) (sz : Nat) : Met l y_IM_layStack w_IM_layStack { frames := 2, cells := 0, slots := 0, locals := 83 } (va_Pc [.ref (ad 8), .ref (ad (i + 20)), .ref (ad 3)] (xP (dC, dI) (tyG ck) (wsG ad ck rf n fr a ar z pc pe pt pp pf ic ie ip iz ia st rt pb) sz)) (xQv (dC, dI) (tyG ck) (va_A (wsG ad ck rf n fr a ar z pc pe pt pp pf ic ie ip iz ia st rt pb) sz) (wsG ad ck rf n fr a ar z pc pe pt pp pf ic ie (st i + nI P) iz ia st rt (upr pb i (skT (pb i) ar z P (st i) a)))) 0 0 (va_A (wsG ad ck rf n fr a ar z pc pe pt pp pf ic ie ip iz ia st rt pb) sz) := by
  refine xof (cc := b_IM_layStack) (maxL := 6) (ret := none) (own := R_IM) (Qc := fun A => (xQv (dC, dI) (tyG ck) A (wsG ad ck rf n fr a ar z pc pe pt pp pf ic ie (st i + nI P) iz ia st rt (upr pb i (skT (pb i) ar z P (st i) a))))) (by decide) rfl rfl (Nat.le_of_ble_eq_true rfl) ?_ sz
  intro p e s m below meth c A C hnm hK hP hD hA hN hZ hS ls hl
  obtain ⟨hx, hb, hr, hml, hown, hts, hlocks⟩ := C
  have hl : lv_has ls 6 [(0, .ref (ad 8)), (1, .ref (ad (i + 20))), (2, .ref (ad 3))] := hl
  refine lv_aload_n hx hb d_IM_layStack_0 rfl (lv_at hl 1 rfl) ?_
  refine lv_ifnonnull (tgt := 5) hx hb d_IM_layStack_1 (by decide) ?_
  refine lv_aload_n hx hb d_IM_layStack_5 rfl (lv_at hl 2 rfl) ?_
  refine xcalli (va_runV (As := []) (rest := []) ⟨hx, hb, hml, hown, hts⟩ (c_ag_stackPointer l dC dI ad ck rf n fr a ar z pc pe pt pp pf ic ie ip iz ia st rt pb ha hz s.heap.size) (cwV 0 hts (xgV wd_350 wd_312 wd_313 wd_17 wd_314) rfl rfl rfl (by decide +kernel) ⟨Nat.le_of_ble_eq_true rfl, Nat.le_of_ble_eq_true rfl⟩) (xpreV (q0 := 3) hK hN hZ hA hS hP hD rfl rfl) rfl rfl hl.1 rfl (lv_room (Nat.le_of_ble_eq_true rfl)) d_IM_layStack_6 ⟨Nat.zero_le _, Nat.zero_le _⟩) hD hS hA (fun r_1 H locs hr_1 hP hD hS => ?_)
  subst hr_1
  refine xtopi (y := nI P) (hsp) ?_
  refine lv_istore_n (lv' := [(3, .int (nI P)), (0, .ref (ad 8)), (1, .ref (ad (i + 20))), (2, .ref (ad 3))]) hx hb d_IM_layStack_9 rfl hl (by decide) rfl (fun ls hl => ?_)
  refine lv_sipush (v := 4096) hx hb d_IM_layStack_10 (by decide) ?_
  refine lv_istore (lv' := [(4, .int 4096), (3, .int (nI P)), (0, .ref (ad 8)), (1, .ref (ad (i + 20))), (2, .ref (ad 3))]) hx hb d_IM_layStack_13 hl (by decide) rfl (fun ls hl => ?_)
  refine lv_iconst (v := 0) hx hb d_IM_layStack_15 (by decide) ?_
  refine lv_istore (lv' := [(5, .int 0), (4, .int 4096), (3, .int (nI P)), (0, .ref (ad 8)), (1, .ref (ad (i + 20))), (2, .ref (ad 3))]) hx hb d_IM_layStack_16 hl (by decide) rfl (fun ls hl => ?_)
  have lp18 : ∀ (fu18 : Nat) (q : Nat), (a - q < fu18) → (q ≤ a) → ∀ (H : Heap) (locs : List Loc), va_P (dC, dI) vwCl (wsG ad ck rf n fr a ar z pc pe pt pp pf ic ie ip iz ia st rt (upr pb i (skT (pb i) ar z P (st i) q))) H → va_D A (wsG ad ck rf n fr a ar z pc pe pt pp pf ic ie ip iz ia st rt (upr pb i (skT (pb i) ar z P (st i) q))) → va_S A s.heap H locs → ∀ ls : Array Slot, lv_has ls 6 [(0, .ref (ad 8)), (1, .ref (ad (i + 20))), (2, .ref (ad 3)), (3, .int (nI P)), (4, .int (nI (tpN z q))), (5, .int (nI q))] → W p l e { frames := 2, cells := 0, slots := 0, locals := 83 } s m [.ref (ad 8), .ref (ad (i + 20)), .ref (ad 3)].toArray below meth c H locs 0 0 (MQ below (xQv (dC, dI) (tyG ck) A (wsG ad ck rf n fr a ar z pc pe pt pp pf ic ie (st i + nI P) iz ia st rt (upr pb i (skT (pb i) ar z P (st i) a)))) [.ref (ad 8), .ref (ad (i + 20)), .ref (ad 3)].toArray s 0 0 A) (F0 m 18 ls []) := by
    intro fu18
    induction fu18 with
    | zero => intro q hfu18; exact absurd hfu18 (Nat.not_lt_zero _)
    | succ fu18 ih18 =>
      intro q hfu18 hq H locs hP hD hS ls hl
      refine lv_iload hx hb d_IM_layStack_18 (lv_at hl 5 rfl) ?_
      refine lv_aload_n hx hb d_IM_layStack_20 rfl (lv_at hl 2 rfl) ?_
      refine va_getN (D := (dC, dI)) (ci := 0) (v := .int (nI a)) (C := R_AG) (T := T_AG) (N := 3) hx hb hts i_AG hown hK hP 3 rfl rfl 2 (by decide) (hN.use wd_59) (fun _ h9 => h9) rfl d_IM_layStack_21 ?_
      refine lv_icmp_ge (tgt := 69) hx hb d_IM_layStack_24 (by decide) (fun c_2 => ?_) (fun c_2 => ?_)
      · skip
        have c_2 : a ≤ q := (nI_leI (a := a) (b := q) (by omega) (by omega)).mp c_2
        have e9 : q = a := by omega
        refine lv_aload_n hx hb d_IM_layStack_69 rfl (lv_at hl 0 rfl) ?_
        refine lv_aload_n hx hb d_IM_layStack_70 rfl (lv_at hl 1 rfl) ?_
        refine va_getN (D := (dC, dI)) (ci := 3) (v := .int (st i)) (C := R_PG) (T := T_PG) (N := 3) hx hb hts i_PG hown hK hP (i + 18) (wsG_page hi) rfl 1 (by decide) (hN.use wd_141) (fun _ h9 => h9) rfl d_IM_layStack_71 ?_
        refine lv_iload_n hx hb d_IM_layStack_74 rfl (lv_at hl 3 rfl) ?_
        refine lv_iadd hx hb d_IM_layStack_75 ?_
        refine va_put (D := (dC, dI)) (ci := 2) (v := .int ((st i) + (nI P))) (ty := .int) (C := R_IM) (T := T_IM) (N := 6) hx hb hts i_IM t_IM k_IM n_IM hown hK hP hD hS 8 rfl rfl 3 (by decide) (hts _ wd_157) (fun _ h9 => h9) rfl (by decide +kernel) rfl rfl (Nat.le_of_ble_eq_true rfl) d_IM_layStack_76 (fun H locs hP hD hS => ?_)
        have hP : va_P (dC, dI) vwCl (wsG ad ck rf n fr a ar z pc pe pt pp pf ic ie ((st i) + (nI P)) iz ia st rt (upr pb i (skT (pb i) ar z P (st i) q))) H := hP
        have hD : va_D A (wsG ad ck rf n fr a ar z pc pe pt pp pf ic ie ((st i) + (nI P)) iz ia st rt (upr pb i (skT (pb i) ar z P (st i) q))) := hD
        have hw9 : wsG ad ck rf n fr a ar z pc pe pt pp pf ic ie ((st i) + (nI P)) iz ia st rt (upr pb i (skT (pb i) ar z P (st i) q)) = wsG ad ck rf n fr a ar z pc pe pt pp pf ic ie (st i + nI P) iz ia st rt (upr pb i (skT (pb i) ar z P (st i) a)) := by rw [e9]
        rw [hw9] at hP hD
        exact xretv hx hb hr hlocks hK hP hD hS d_IM_layStack_79
      · skip
        have c_2 : ¬ (a ≤ q) := fun h9 => c_2 ((nI_leI (a := a) (b := q) (by omega) (by omega)).mpr h9)
        have htp := tpN_ge hz q; have hzq := hz q; have htl := tpN_le z q; have htn : tpN z (q + 1) = (tpN z q - z q - 1) / 4 * 4 := rfl; have hta := tpN_le z a
        refine lv_aload_n hx hb d_IM_layStack_27 rfl (lv_at hl 2 rfl) ?_
        refine lv_iload hx hb d_IM_layStack_28 (lv_at hl 4 rfl) ?_
        refine lv_iload hx hb d_IM_layStack_30 (lv_at hl 5 rfl) ?_
        refine xcalli (va_runV (As := [.int (nI (tpN z q)), .int (nI q)]) (rest := []) ⟨hx, hb, hml, hown, hts⟩ (c_ag_placeBelow l dC dI ad ck rf n fr a ar z pc pe pt pp pf ic ie ip iz ia st rt (upr pb i (skT (pb i) ar z P (st i) q)) (tpN z q) q (by omega) (by omega) (by omega) H.size) (cwV 2 hts (xgV wd_351 wd_316 wd_317 wd_17 wd_318) rfl rfl rfl (by decide +kernel) ⟨Nat.le_of_ble_eq_true rfl, Nat.le_of_ble_eq_true rfl⟩) (xpreV (q0 := 3) hK hN hZ hA hS hP hD rfl rfl) rfl rfl hl.1 rfl (lv_room (Nat.le_of_ble_eq_true rfl)) d_IM_layStack_32 ⟨Nat.zero_le _, Nat.zero_le _⟩) hD hS hA (fun r_3 H locs hr_3 hP hD hS => ?_)
        subst hr_3
        refine xtopi (y := nI (tpN z (q + 1))) (rfl) ?_
        refine lv_istore (lv' := [(4, .int (nI (tpN z (q + 1)))), (0, .ref (ad 8)), (1, .ref (ad (i + 20))), (2, .ref (ad 3)), (3, .int (nI P)), (5, .int (nI q))]) hx hb d_IM_layStack_35 hl (by decide) rfl (fun ls hl => ?_)
        refine lv_aload_n hx hb d_IM_layStack_37 rfl (lv_at hl 3 rfl) ?_
        refine lv_aload_n hx hb d_IM_layStack_38 rfl (lv_at hl 2 rfl) ?_
        refine lv_iload hx hb d_IM_layStack_39 (lv_at hl 0 rfl) ?_
        refine lv_iload hx hb d_IM_layStack_41 (lv_at hl 5 rfl) ?_
        refine xcallv (va_runV (As := [.ref (ad (i + 20)), .int (nI (tpN z (q + 1))), .int (nI q)]) (rest := []) ⟨hx, hb, hml, hown, hts⟩ (c_ag_copyTo l dC dI ad ck rf n fr a ar z pc pe pt pp pf ic ie ip iz ia st rt (upr pb i (skT (pb i) ar z P (st i) q)) i (tpN z (q + 1)) q hi (by omega) (by omega) (by omega) hAr H.size) (cwV 3 hts (xgV wd_352 wd_353 wd_354 wd_17 wd_355) rfl rfl rfl (by decide +kernel) ⟨Nat.le_of_ble_eq_true rfl, Nat.le_of_ble_eq_true rfl⟩) (xpreV (q0 := 3) hK hN hZ hA hS hP hD rfl rfl) rfl rfl hl.1 rfl (lv_room (Nat.le_of_ble_eq_true rfl)) d_IM_layStack_43 ⟨Nat.zero_le _, Nat.zero_le _⟩) hD hS hA (fun H locs hP hD hS => ?_)
        refine lv_aload_n hx hb d_IM_layStack_46 rfl (lv_at hl 2 rfl) ?_
        refine lv_iload_n hx hb d_IM_layStack_47 rfl (lv_at hl 4 rfl) ?_
        refine lv_iconst (v := 4) hx hb d_IM_layStack_48 (by decide) ?_
        refine lv_iload hx hb d_IM_layStack_49 (lv_at hl 5 rfl) ?_
        refine lv_imul hx hb d_IM_layStack_51 ?_
        refine xtopi (y := nI (4 * q)) (pk_mul (4) (q)) ?_
        refine lv_iadd hx hb d_IM_layStack_52 ?_
        refine xtopi (y := nI (P + (4 * q))) (nI_add (P) (4 * q)) ?_
        refine lv_aload_n hx hb d_IM_layStack_53 rfl (lv_at hl 2 rfl) ?_
        refine va_getN (D := (dC, dI)) (ci := 3) (v := .int (st i)) (C := R_PG) (T := T_PG) (N := 3) hx hb hts i_PG hown hK hP (i + 18) (wsG_page hi) rfl 1 (by decide) (hN.use wd_141) (fun _ h9 => h9) rfl d_IM_layStack_54 ?_
        refine lv_iload hx hb d_IM_layStack_57 (lv_at hl 0 rfl) ?_
        refine lv_iadd hx hb d_IM_layStack_59 ?_
        refine xcallv (va_runV (As := [.int (nI (P + (4 * q))), .int ((st i) + (nI (tpN z (q + 1))))]) (rest := []) ⟨hx, hb, hml, hown, hts⟩ (c_pg_writeNumber l dC dI ad ck rf n fr a ar z pc pe pt pp pf ic ie ip iz ia st rt (upr (upr pb i (skT (pb i) ar z P (st i) q)) i (va_cpy ar ((upr pb i (skT (pb i) ar z P (st i) q)) i) (q * 127) (tpN z (q + 1)) (z q))) i (P + (4 * q)) ((st i) + (nI (tpN z (q + 1)))) hi (by omega) H.size) (cwV 2 hts (xgV wd_357 wd_358 wd_359 wd_21 wd_360) rfl rfl rfl (by decide +kernel) ⟨Nat.le_of_ble_eq_true rfl, Nat.le_of_ble_eq_true rfl⟩) (xpreV (q0 := (i + 18)) hK hN hZ hA hS hP hD rfl (wsG_page hi)) rfl rfl hl.1 rfl (lv_room (Nat.le_of_ble_eq_true rfl)) d_IM_layStack_60 ⟨Nat.zero_le _, Nat.zero_le _⟩) hD hS hA (fun H locs hP hD hS => ?_)
        refine lv_iinc (v := nI (q + 1)) (lv' := [(5, .int (nI (q + 1))), (4, .int (nI (tpN z (q + 1)))), (0, .ref (ad 8)), (1, .ref (ad (i + 20))), (2, .ref (ad 3)), (3, .int (nI P))]) hx hb d_IM_layStack_63 hl (k := 5) rfl (nI_1 _) (by decide) rfl (fun ls hl => ?_)
        refine lv_goto (tgt := 18) hx hb d_IM_layStack_66 (by decide) ?_
        have hw9 : wsG ad ck rf n fr a ar z pc pe pt pp pf ic ie ip iz ia st rt (upr (upr (upr pb i (skT (pb i) ar z P (st i) q)) i (va_cpy ar ((upr pb i (skT (pb i) ar z P (st i) q)) i) (q * 127) (tpN z (q + 1)) (z q))) i (wrN ((upr (upr pb i (skT (pb i) ar z P (st i) q)) i (va_cpy ar ((upr pb i (skT (pb i) ar z P (st i) q)) i) (q * 127) (tpN z (q + 1)) (z q))) i) (P + (4 * q)) ((st i) + (nI (tpN z (q + 1)))) 4)) = wsG ad ck rf n fr a ar z pc pe pt pp pf ic ie ip iz ia st rt (upr pb i (skT (pb i) ar z P (st i) (q + 1))) := by simp only [upr_eq, upr_upr]; rfl
        rw [hw9] at hP hD
        exact ih18 (q + 1) (by omega) (by omega) _ _ hP hD hS _ (lv_sub hl [2, 3, 4, 5, 1, 0] rfl)
  have e0 : upr pb i (skT (pb i) ar z P (st i) 0) = pb := upr_self pb i
  have hP : va_P (dC, dI) vwCl (wsG ad ck rf n fr a ar z pc pe pt pp pf ic ie ip iz ia st rt (upr pb i (skT (pb i) ar z P (st i) 0))) H := by rw [e0]; exact hP
  have hD : va_D A (wsG ad ck rf n fr a ar z pc pe pt pp pf ic ie ip iz ia st rt (upr pb i (skT (pb i) ar z P (st i) 0))) := by rw [e0]; exact hD
  exact lp18 ((a - 0) + 1) 0 (Nat.lt_succ_self _) (by omega) _ _ hP hD hS _ (lv_sub hl [3, 4, 5, 2, 1, 0] rfl)
