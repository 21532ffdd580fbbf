set_option maxHeartbeats 4000000 in
set_option maxRecDepth 100000 in
theorem c_ar_fill (l : Launch) (dC : Nat → ClassId) (dI : Nat → Nat → Nat) (ad : Nat → Nat) (ck : Nat → ClassId) (rf : Int32) (n : Nat) (fr : Nat → Int32) (a : Nat) (ar : Nat → Int32) (z : Nat → Nat) (pc : Nat) (pe : Int32) (pt pp : Nat) (pf : Nat → Nat → Int32) (ic : Nat) (ie ip iz ia : Int32) (st rt : Nat → Int32) (pb : Nat → Nat → Int32) (i : Nat) (hi : i < 32) (sz : Nat) : Met l y_AR_fill w_AR_fill { frames := 0, cells := 0, slots := 0, locals := 0 } (va_Pc [.ref (ad (i + 60)), .int 0] (xP (dC, dI) (tyG ck) (wsG ad ck rf n fr a ar z pc pe pt pp pf ic ie ip iz ia st rt pb) sz)) (xQv (dC, dI) (tyG ck) (va_A (wsG ad ck rf n fr a ar z pc pe pt pp pf ic ie ip iz ia st rt pb) sz) (wsG ad ck rf n fr a ar z pc pe pt pp pf ic ie ip iz ia st rt (upr pb i (zf 4096 (pb i))))) 0 0 (va_A (wsG ad ck rf n fr a ar z pc pe pt pp pf ic ie ip iz ia st rt pb) sz) := by
  refine xof (cc := b_AR_fill) (maxL := 4) (ret := none) (own := R_AR) (Qc := fun A => (xQv (dC, dI) (tyG ck) A (wsG ad ck rf n fr a ar z pc pe pt pp pf ic ie ip iz ia st rt (upr pb i (zf 4096 (pb i)))))) (by decide) rfl rfl (Nat.le_of_ble_eq_true rfl) ?_ sz
  intro p e s m below meth c A C hnm hK hP hD hA hN hZ hS ls hl
  obtain ⟨hx, hb, hr, hml, hown, hts, hlocks⟩ := C
  have hl : lv_has ls 4 [(0, .ref (ad (i + 60))), (1, .int 0)] := hl
  refine lv_iconst (v := 0) hx hb d_AR_fill_0 (by decide) ?_
  refine lv_istore_n (lv' := [(2, .int 0), (0, .ref (ad (i + 60))), (1, .int 0)]) hx hb d_AR_fill_1 rfl hl (by decide) rfl (fun ls hl => ?_)
  refine lv_aload_n hx hb d_AR_fill_2 rfl (lv_at hl 1 rfl) ?_
  refine va_alen (v := 4096) hx hb hK hP (i + 50) 0 (wsG_pb hi) rfl rfl d_AR_fill_3 ?_
  refine lv_istore_n (lv' := [(3, .int 4096), (2, .int 0), (0, .ref (ad (i + 60))), (1, .int 0)]) hx hb d_AR_fill_4 rfl hl (by decide) rfl (fun ls hl => ?_)
  have lp5 : ∀ (fu5 : Nat) (t : Nat), (4096 - t < fu5) → (t ≤ 4096) → ∀ (H : Heap) (locs : List Loc), va_P (dC, dI) vwCl (wsG ad ck rf n fr a ar z pc pe pt pp pf ic ie ip iz ia st rt (upr pb i (zf t (pb i)))) H → va_D A (wsG ad ck rf n fr a ar z pc pe pt pp pf ic ie ip iz ia st rt (upr pb i (zf t (pb i)))) → va_S A s.heap H locs → ∀ ls : Array Slot, lv_has ls 4 [(0, .ref (ad (i + 60))), (1, .int 0), (2, .int (nI t)), (3, .int 4096)] → W p l e { frames := 0, cells := 0, slots := 0, locals := 0 } s m [.ref (ad (i + 60)), .int 0].toArray below meth c H locs 0 0 (MQ below (xQv (dC, dI) (tyG ck) A (wsG ad ck rf n fr a ar z pc pe pt pp pf ic ie ip iz ia st rt (upr pb i (zf 4096 (pb i))))) [.ref (ad (i + 60)), .int 0].toArray s 0 0 A) (F0 m 5 ls []) := by
    intro fu5
    induction fu5 with
    | zero => intro t hfu5; exact absurd hfu5 (Nat.not_lt_zero _)
    | succ fu5 ih5 =>
      intro t hfu5 ht H locs hP hD hS ls hl
      refine lv_iload_n hx hb d_AR_fill_5 rfl (lv_at hl 2 rfl) ?_
      refine lv_iload_n hx hb d_AR_fill_6 rfl (lv_at hl 3 rfl) ?_
      refine lv_icmp_ge (tgt := 20) hx hb d_AR_fill_7 (by decide) (fun c_1 => ?_) (fun c_1 => ?_)
      · skip
        have c_1 : 4096 ≤ t := (nI_leI (a := 4096) (b := t) (by omega) (by omega)).mp c_1
        have h9 : t = 4096 := by omega
        have hw9 : wsG ad ck rf n fr a ar z pc pe pt pp pf ic ie ip iz ia st rt (upr pb i (zf t (pb i))) = wsG ad ck rf n fr a ar z pc pe pt pp pf ic ie ip iz ia st rt (upr pb i (zf 4096 (pb i))) := by rw [h9]
        rw [hw9] at hP hD
        exact xretv hx hb hr hlocks hK hP hD hS d_AR_fill_20
      · skip
        have c_1 : ¬ (4096 ≤ t) := fun h9 => c_1 ((nI_leI (a := 4096) (b := t) (by omega) (by omega)).mpr h9)
        refine lv_aload_n hx hb d_AR_fill_10 rfl (lv_at hl 0 rfl) ?_
        refine lv_iload_n hx hb d_AR_fill_11 rfl (lv_at hl 2 rfl) ?_
        refine lv_iload_n hx hb d_AR_fill_12 rfl (lv_at hl 1 rfl) ?_
        refine xbast (k := t) (x' := 0) (ws1 := wsG ad ck rf n fr a ar z pc pe pt pp pf ic ie ip iz ia st rt (upr (upr pb i (zf t (pb i))) i (upd ((upr pb i (zf t (pb i))) i) t 0))) hx hb hK hP hD hS (i + 50) 0 (wsG_pb hi) rfl (rfl) (by omega) (by decide) (rfl) (wsG_putB hi) d_AR_fill_13 (fun H locs hP hD hS => ?_)
        refine lv_iinc (v := nI (t + 1)) (lv' := [(2, .int (nI (t + 1))), (0, .ref (ad (i + 60))), (1, .int 0), (3, .int 4096)]) hx hb d_AR_fill_14 hl (k := 2) rfl (nI_1 _) (by decide) rfl (fun ls hl => ?_)
        refine lv_goto (tgt := 5) hx hb d_AR_fill_17 (by decide) ?_
        have hw9 : wsG ad ck rf n fr a ar z pc pe pt pp pf ic ie ip iz ia st rt (upr (upr pb i (zf t (pb i))) i (upd ((upr pb i (zf t (pb i))) i) t 0)) = wsG ad ck rf n fr a ar z pc pe pt pp pf ic ie ip iz ia st rt (upr pb i (zf (t + 1) (pb i))) := by rw [upr_eq, zf_step, upr_upr]
        rw [hw9] at hP hD
        exact ih5 (t + 1) (by omega) (by omega) _ _ hP hD hS _ (lv_sub hl [1, 2, 0, 3] rfl)
  have e0 : upr pb i (zf 0 (pb i)) = pb := by rw [zf_0, upr_self]
  have hP : va_P (dC, dI) vwCl (wsG ad ck rf n fr a ar z pc pe pt pp pf ic ie ip iz ia st rt (upr pb i (zf 0 (pb i)))) s.heap := by rw [e0]; exact hP
  have hD : va_D A (wsG ad ck rf n fr a ar z pc pe pt pp pf ic ie ip iz ia st rt (upr pb i (zf 0 (pb i)))) := by rw [e0]; exact hD
  exact lp5 ((4096 - 0) + 1) 0 (Nat.lt_succ_self _) (by omega) _ _ hP hD hS _ (lv_sub hl [2, 3, 1, 0] rfl)
set_option maxHeartbeats 4000000 in
set_option maxRecDepth 100000 in
theorem c_pg_clear (l : Launch) (dC : Nat → ClassId) (dI : Nat → Nat → Nat) (ad : Nat → Nat) (ck : Nat → ClassId) (rf : Int32) (n : Nat) (fr : Nat → Int32) (a : Nat) (ar : Nat → Int32) (z : Nat → Nat) (pc : Nat) (pe : Int32) (pt pp : Nat) (pf : Nat → Nat → Int32) (ic : Nat) (ie ip iz ia : Int32) (st rt : Nat → Int32) (pb : Nat → Nat → Int32) (i : Nat) (s0 r0 : Int32) (hi : i < 32) (sz : Nat) : Met l y_PG_clear w_PG_clear { frames := 1, cells := 0, slots := 0, locals := 23 } (va_Pc [.ref (ad (i + 20)), .int s0, .int r0] (xP (dC, dI) (tyG ck) (wsG ad ck rf n fr a ar z pc pe pt pp pf ic ie ip iz ia st rt pb) sz)) (xQv (dC, dI) (tyG ck) (va_A (wsG ad ck rf n fr a ar z pc pe pt pp pf ic ie ip iz ia st rt pb) sz) (wsG ad ck rf n fr a ar z pc pe pt pp pf ic ie ip iz ia (upd st i s0) (upd rt i r0) (upr pb i (zf 4096 (pb i))))) 0 0 (va_A (wsG ad ck rf n fr a ar z pc pe pt pp pf ic ie ip iz ia st rt pb) sz) := by
  refine xof (cc := b_PG_clear) (maxL := 3) (ret := none) (own := R_PG) (Qc := fun A => (xQv (dC, dI) (tyG ck) A (wsG ad ck rf n fr a ar z pc pe pt pp pf ic ie ip iz ia (upd st i s0) (upd rt i r0) (upr pb i (zf 4096 (pb i)))))) (by decide) rfl rfl (Nat.le_of_ble_eq_true rfl) ?_ sz
  intro p e s m below meth c A C hnm hK hP hD hA hN hZ hS ls hl
  obtain ⟨hx, hb, hr, hml, hown, hts, hlocks⟩ := C
  have hl : lv_has ls 3 [(0, .ref (ad (i + 20))), (1, .int s0), (2, .int r0)] := hl
  refine lv_aload_n hx hb d_PG_clear_0 rfl (lv_at hl 0 rfl) ?_
  refine lv_iload_n hx hb d_PG_clear_1 rfl (lv_at hl 1 rfl) ?_
  refine va_put (D := (dC, dI)) (ci := 3) (v := .int s0) (ty := .int) (C := R_PG) (T := T_PG) (N := 3) hx hb hts i_PG t_PG k_PG n_PG hown hK hP hD hS (i + 18) (wsG_page hi) rfl 1 (by decide) (hts _ wd_140) (fun _ h9 => h9) rfl (by decide +kernel) rfl rfl (Nat.le_of_ble_eq_true rfl) d_PG_clear_2 (fun H locs hP hD hS => ?_)
  have hP : va_P (dC, dI) vwCl (wsG ad ck rf n fr a ar z pc pe pt pp pf ic ie ip iz ia (upd st i s0) rt pb) H := by rw [wsG_putQ1 hi] at hP; exact hP
  have hD : va_D A (wsG ad ck rf n fr a ar z pc pe pt pp pf ic ie ip iz ia (upd st i s0) rt pb) := by rw [wsG_putQ1 hi] at hD; exact hD
  refine lv_aload_n hx hb d_PG_clear_5 rfl (lv_at hl 0 rfl) ?_
  refine lv_iload_n hx hb d_PG_clear_6 rfl (lv_at hl 2 rfl) ?_
  refine va_put (D := (dC, dI)) (ci := 3) (v := .int r0) (ty := .int) (C := R_PG) (T := T_PG) (N := 3) hx hb hts i_PG t_PG k_PG n_PG hown hK hP hD hS (i + 18) (wsG_page hi) rfl 2 (by decide) (hts _ wd_143) (fun _ h9 => h9) rfl (by decide +kernel) rfl rfl (Nat.le_of_ble_eq_true rfl) d_PG_clear_7 (fun H locs hP hD hS => ?_)
  have hP : va_P (dC, dI) vwCl (wsG ad ck rf n fr a ar z pc pe pt pp pf ic ie ip iz ia (upd st i s0) (upd rt i r0) pb) H := by rw [wsG_putQ2 hi] at hP; exact hP
  have hD : va_D A (wsG ad ck rf n fr a ar z pc pe pt pp pf ic ie ip iz ia (upd st i s0) (upd rt i r0) pb) := by rw [wsG_putQ2 hi] at hD; exact hD
  refine lv_aload_n hx hb d_PG_clear_10 rfl (lv_at hl 0 rfl) ?_
  refine va_get (D := (dC, dI)) (ci := 3) (v := .ref (ad (i + 60))) (C := R_PG) (T := T_PG) (N := 3) hx hb hts i_PG hown hK hP (i + 18) (wsG_page hi) rfl 0 (by decide) (hts _ wd_137) (fun _ h9 => h9) rfl d_PG_clear_11 ?_
  refine lv_iconst (v := 0) hx hb d_PG_clear_14 (by decide) ?_
  refine xcallv (va_runS (As := [.ref (ad (i + 60)), .int 0]) (rest := []) ⟨hx, hb, hml, hown, hts⟩ (c_ar_fill l dC dI ad ck rf n fr a ar z pc pe pt pp pf ic ie ip iz ia (upd st i s0) (upd rt i r0) pb i hi H.size) (va_cwS 2 hts (xgT wd_335 wd_336 wd_24 wd_337) rfl rfl rfl (by decide +kernel) ⟨Nat.le_of_ble_eq_true rfl, Nat.le_of_ble_eq_true rfl⟩) (xpreS hK hN hZ hA hS hP hD) rfl rfl hl.1 rfl (lv_room (Nat.le_of_ble_eq_true rfl)) d_PG_clear_15 ⟨Nat.zero_le _, Nat.zero_le _⟩) hD hS hA (fun H locs hP hD hS => ?_)
  exact xretv hx hb hr hlocks hK hP hD hS d_PG_clear_18
set_option maxHeartbeats 4000000 in
set_option maxRecDepth 100000 in
theorem c_pg_read (l : Launch) (dC : Nat → ClassId) (dI : Nat → Nat → Nat) (ad : Nat → Nat) (ck : Nat → ClassId) (rf : Int32) (n : Nat) (fr : Nat → Int32) (a : Nat) (ar : Nat → Int32) (z : Nat → Nat) (pc : Nat) (pe : Int32) (pt pp : Nat) (pf : Nat → Nat → Int32) (ic : Nat) (ie ip iz ia : Int32) (st rt : Nat → Int32) (pb : Nat → Nat → Int32) (i : Nat) (k : Int32) (hi : i < 32) (sz : Nat) : Met l y_PG_read w_PG_read { frames := 0, cells := 0, slots := 0, locals := 0 } (va_Pc [.ref (ad (i + 20)), .int k] (xP (dC, dI) (tyG ck) (wsG ad ck rf n fr a ar z pc pe pt pp pf ic ie ip iz ia st rt pb) sz)) (xQi (dC, dI) (tyG ck) (va_A (wsG ad ck rf n fr a ar z pc pe pt pp pf ic ie ip iz ia st rt pb) sz) (wsG ad ck rf n fr a ar z pc pe pt pp pf ic ie ip iz ia st rt pb) (fun r => r = rdB (pb i) k)) 0 0 (va_A (wsG ad ck rf n fr a ar z pc pe pt pp pf ic ie ip iz ia st rt pb) sz) := by
  refine xof (cc := b_PG_read) (maxL := 2) (ret := (some .int)) (own := R_PG) (Qc := fun A => (xQi (dC, dI) (tyG ck) A (wsG ad ck rf n fr a ar z pc pe pt pp pf ic ie ip iz ia st rt pb) (fun r => r = rdB (pb i) k))) (by decide) rfl rfl (Nat.le_of_ble_eq_true rfl) ?_ sz
  intro p e s m below meth c A C hnm hK hP hD hA hN hZ hS ls hl
  obtain ⟨hx, hb, hr, hml, hown, hts, hlocks⟩ := C
  have hl : lv_has ls 2 [(0, .ref (ad (i + 20))), (1, .int k)] := hl
  refine lv_iload_n hx hb d_PG_read_0 rfl (lv_at hl 1 rfl) ?_
  refine lv_if_lt (tgt := 26) hx hb d_PG_read_1 (by decide) (fun c_1 => ?_) (fun c_1 => ?_)
  · skip
    refine lv_iconst (v := (-1)) hx hb d_PG_read_26 (by decide) ?_
    exact xreti (v := (-1)) hx hb hr hlocks hK hP hD hS (rfl) (by rw [rdB, if_neg (fun h9 => absurd c_1 (p_nneg h9.1))]) d_PG_read_27
  · skip
    obtain ⟨j, hj, ej⟩ := nI_of c_1
    rw [ej] at hl
    refine lv_iload_n hx hb d_PG_read_4 rfl (lv_at hl 1 rfl) ?_
    refine lv_aload_n hx hb d_PG_read_5 rfl (lv_at hl 0 rfl) ?_
    refine va_get (D := (dC, dI)) (ci := 3) (v := .ref (ad (i + 60))) (C := R_PG) (T := T_PG) (N := 3) hx hb hts i_PG hown hK hP (i + 18) (wsG_page hi) rfl 0 (by decide) (hts _ wd_137) (fun _ h9 => h9) rfl d_PG_read_6 ?_
    refine va_alen (v := 4096) hx hb hK hP (i + 50) 0 (wsG_pb hi) rfl rfl d_PG_read_9 ?_
    refine lv_icmp_ge (tgt := 26) hx hb d_PG_read_10 (by decide) (fun c_2 => ?_) (fun c_2 => ?_)
    · skip
      have c_2 : 4096 ≤ j := (nI_leI (a := 4096) (b := j) (by omega) (by omega)).mp c_2
      refine lv_iconst (v := (-1)) hx hb d_PG_read_26 (by decide) ?_
      exact xreti (v := (-1)) hx hb hr hlocks hK hP hD hS (rfl) (by rw [rdB, if_neg (by rw [ej, nI_toInt hj]; omega)]) d_PG_read_27
    · skip
      have c_2 : ¬ (4096 ≤ j) := fun h9 => c_2 ((nI_leI (a := 4096) (b := j) (by omega) (by omega)).mpr h9)
      refine lv_aload_n hx hb d_PG_read_13 rfl (lv_at hl 0 rfl) ?_
      refine va_get (D := (dC, dI)) (ci := 3) (v := .ref (ad (i + 60))) (C := R_PG) (T := T_PG) (N := 3) hx hb hts i_PG hown hK hP (i + 18) (wsG_page hi) rfl 0 (by decide) (hts _ wd_137) (fun _ h9 => h9) rfl d_PG_read_14 ?_
      refine lv_iload_n hx hb d_PG_read_17 rfl (lv_at hl 1 rfl) ?_
      refine xbald (k := j) hx hb hK hP (i + 50) 0 (wsG_pb hi) rfl (rfl) (by omega) (by decide) d_PG_read_18 ?_
      refine lv_sipush (v := 255) hx hb d_PG_read_19 (by decide) ?_
      refine lv_iand hx hb d_PG_read_22 ?_
      refine lv_goto (tgt := 27) hx hb d_PG_read_23 (by decide) ?_
      exact xreti (v := ((pb i) j) &&& 255) hx hb hr hlocks hK hP hD hS (rfl) (by rw [rdB, if_pos (by rw [ej, nI_toInt hj]; omega), ej, nI_toInt hj]; rfl) d_PG_read_27
set_option maxHeartbeats 4000000 in
set_option maxRecDepth 100000 in
theorem c_pg_writeNumber (l : Launch) (dC : Nat → ClassId) (dI : Nat → Nat → Nat) (ad : Nat → Nat) (ck : Nat → ClassId) (rf : Int32) (n : Nat) (fr : Nat → Int32) (a : Nat) (ar : Nat → Int32) (z : Nat → Nat) (pc : Nat) (pe : Int32) (pt pp : Nat) (pf : Nat → Nat → Int32) (ic : Nat) (ie ip iz ia : Int32) (st rt : Nat → Int32) (pb : Nat → Nat → Int32) (i k : Nat) (w : Int32) (hi : i < 32) (hk : k + 4 ≤ 4096) (sz : Nat) : Met l y_PG_writeNumber w_PG_writeNumber { frames := 0, cells := 0, slots := 0, locals := 0 } (va_Pc [.ref (ad (i + 20)), .int (nI k), .int w] (xP (dC, dI) (tyG ck) (wsG ad ck rf n fr a ar z pc pe pt pp pf ic ie ip iz ia st rt pb) sz)) (xQv (dC, dI) (tyG ck) (va_A (wsG ad ck rf n fr a ar z pc pe pt pp pf ic ie ip iz ia st rt pb) sz) (wsG ad ck rf n fr a ar z pc pe pt pp pf ic ie ip iz ia st rt (upr pb i (wrN (pb i) k w 4)))) 0 0 (va_A (wsG ad ck rf n fr a ar z pc pe pt pp pf ic ie ip iz ia st rt pb) sz) := by
  refine xof (cc := b_PG_writeNumber) (maxL := 4) (ret := none) (own := R_PG) (Qc := fun A => (xQv (dC, dI) (tyG ck) A (wsG ad ck rf n fr a ar z pc pe pt pp pf ic ie ip iz ia st rt (upr pb i (wrN (pb i) k w 4))))) (by decide) rfl rfl (Nat.le_of_ble_eq_true rfl) ?_ sz
  intro p e s m below meth c A C hnm hK hP hD hA hN hZ hS ls hl
  obtain ⟨hx, hb, hr, hml, hown, hts, hlocks⟩ := C
  have hl : lv_has ls 4 [(0, .ref (ad (i + 20))), (1, .int (nI k)), (2, .int w)] := hl
  refine lv_iload_n hx hb d_PG_writeNumber_0 rfl (lv_at hl 1 rfl) ?_
  refine lv_if_lt (tgt := 15) hx hb d_PG_writeNumber_1 (by decide) (fun c_1 => ?_) (fun c_1 => ?_)
  · skip
    have c_1 : k < 0 := (nI_ltI (a := k) (b := 0) (by omega) (by omega)).mp c_1
    exact absurd c_1 (Nat.not_lt_zero _)
  · skip
    have c_1 : ¬ (k < 0) := fun h9 => c_1 ((nI_ltI (a := k) (b := 0) (by omega) (by omega)).mpr h9)
    refine lv_iload_n hx hb d_PG_writeNumber_4 rfl (lv_at hl 1 rfl) ?_
    refine lv_aload_n hx hb d_PG_writeNumber_5 rfl (lv_at hl 0 rfl) ?_
    refine va_get (D := (dC, dI)) (ci := 3) (v := .ref (ad (i + 60))) (C := R_PG) (T := T_PG) (N := 3) hx hb hts i_PG hown hK hP (i + 18) (wsG_page hi) rfl 0 (by decide) (hts _ wd_137) (fun _ h9 => h9) rfl d_PG_writeNumber_6 ?_
    refine va_alen (v := 4096) hx hb hK hP (i + 50) 0 (wsG_pb hi) rfl rfl d_PG_writeNumber_9 ?_
    refine lv_iconst (v := 4) hx hb d_PG_writeNumber_10 (by decide) ?_
    refine lv_isub hx hb d_PG_writeNumber_11 ?_
    refine xtopi (y := 4092) (by decide) ?_
    refine lv_icmp_le (tgt := 16) hx hb d_PG_writeNumber_12 (by decide) (fun c_2 => ?_) (fun c_2 => ?_)
    · skip
      have c_2 : k ≤ 4092 := (nI_leI (a := k) (b := 4092) (by omega) (by omega)).mp c_2
      refine lv_iconst (v := 0) hx hb d_PG_writeNumber_16 (by decide) ?_
      refine lv_istore_n (lv' := [(3, .int 0), (0, .ref (ad (i + 20))), (1, .int (nI k)), (2, .int w)]) hx hb d_PG_writeNumber_17 rfl hl (by decide) rfl (fun ls hl => ?_)
      refine lv_iload_n hx hb d_PG_writeNumber_18 rfl (lv_at hl 0 rfl) ?_
      refine lv_iconst (v := 4) hx hb d_PG_writeNumber_19 (by decide) ?_
      refine lv_icmp_ge (tgt := 44) hx hb d_PG_writeNumber_20 (by decide) (fun c_3 => ?_) (fun c_3 => ?_)
      · exact absurd c_3 (by decide)
      · skip
        refine lv_aload_n hx hb d_PG_writeNumber_23 rfl (lv_at hl 1 rfl) ?_
        refine va_get (D := (dC, dI)) (ci := 3) (v := .ref (ad (i + 60))) (C := R_PG) (T := T_PG) (N := 3) hx hb hts i_PG hown hK hP (i + 18) (wsG_page hi) rfl 0 (by decide) (hts _ wd_137) (fun _ h9 => h9) rfl d_PG_writeNumber_24 ?_
        refine lv_iload_n hx hb d_PG_writeNumber_27 rfl (lv_at hl 2 rfl) ?_
        refine lv_iload_n hx hb d_PG_writeNumber_28 rfl (lv_at hl 0 rfl) ?_
        refine lv_iadd hx hb d_PG_writeNumber_29 ?_
        refine xtopi (y := nI (k + 0)) (nI_add (k) (0)) ?_
        refine lv_iload_n hx hb d_PG_writeNumber_30 rfl (lv_at hl 3 rfl) ?_
        refine lv_bipush (v := 8) hx hb d_PG_writeNumber_31 (by decide) ?_
        refine lv_iload_n hx hb d_PG_writeNumber_33 rfl (lv_at hl 0 rfl) ?_
        refine lv_imul hx hb d_PG_writeNumber_34 ?_
        refine lv_ishr hx hb d_PG_writeNumber_35 ?_
        refine lv_i2b hx hb d_PG_writeNumber_36 rfl ?_
        refine xbast (k := k + 0) (x' := (w >>> ((8 * 0 : Int32) &&& 31)).toInt8.toInt32) (ws1 := wsG ad ck rf n fr a ar z pc pe pt pp pf ic ie ip iz ia st rt (upr pb i (upd (pb i) (k + 0) ((w >>> ((8 * 0 : Int32) &&& 31)).toInt8.toInt32)))) hx hb hK hP hD hS (i + 50) 0 (wsG_pb hi) rfl (rfl) (by omega) (by decide) (pk_vb _) (wsG_putB hi) d_PG_writeNumber_37 (fun H locs hP hD hS => ?_)
        refine lv_iinc (v := 1) (lv' := [(3, .int 1), (0, .ref (ad (i + 20))), (1, .int (nI k)), (2, .int w)]) hx hb d_PG_writeNumber_38 hl (k := 0) rfl rfl (by decide) rfl (fun ls hl => ?_)
        refine lv_goto (tgt := 18) hx hb d_PG_writeNumber_41 (by decide) ?_
        refine lv_iload_n hx hb d_PG_writeNumber_18 rfl (lv_at hl 0 rfl) ?_
        refine lv_iconst (v := 4) hx hb d_PG_writeNumber_19 (by decide) ?_
        refine lv_icmp_ge (tgt := 44) hx hb d_PG_writeNumber_20 (by decide) (fun c_4 => ?_) (fun c_4 => ?_)
        · exact absurd c_4 (by decide)
        · skip
          refine lv_aload_n hx hb d_PG_writeNumber_23 rfl (lv_at hl 1 rfl) ?_
          refine va_get (D := (dC, dI)) (ci := 3) (v := .ref (ad (i + 60))) (C := R_PG) (T := T_PG) (N := 3) hx hb hts i_PG hown hK hP (i + 18) (wsG_page hi) rfl 0 (by decide) (hts _ wd_137) (fun _ h9 => h9) rfl d_PG_writeNumber_24 ?_
          refine lv_iload_n hx hb d_PG_writeNumber_27 rfl (lv_at hl 2 rfl) ?_
          refine lv_iload_n hx hb d_PG_writeNumber_28 rfl (lv_at hl 0 rfl) ?_
          refine lv_iadd hx hb d_PG_writeNumber_29 ?_
          refine xtopi (y := nI (k + 1)) (nI_add (k) (1)) ?_
          refine lv_iload_n hx hb d_PG_writeNumber_30 rfl (lv_at hl 3 rfl) ?_
          refine lv_bipush (v := 8) hx hb d_PG_writeNumber_31 (by decide) ?_
          refine lv_iload_n hx hb d_PG_writeNumber_33 rfl (lv_at hl 0 rfl) ?_
          refine lv_imul hx hb d_PG_writeNumber_34 ?_
          refine lv_ishr hx hb d_PG_writeNumber_35 ?_
          refine lv_i2b hx hb d_PG_writeNumber_36 rfl ?_
          refine xbast (k := k + 1) (x' := (w >>> ((8 * 1 : Int32) &&& 31)).toInt8.toInt32) (ws1 := wsG ad ck rf n fr a ar z pc pe pt pp pf ic ie ip iz ia st rt (upr (upr pb i (upd (pb i) (k + 0) ((w >>> ((8 * 0 : Int32) &&& 31)).toInt8.toInt32))) i (upd ((upr pb i (upd (pb i) (k + 0) ((w >>> ((8 * 0 : Int32) &&& 31)).toInt8.toInt32))) i) (k + 1) ((w >>> ((8 * 1 : Int32) &&& 31)).toInt8.toInt32)))) hx hb hK hP hD hS (i + 50) 0 (wsG_pb hi) rfl (rfl) (by omega) (by decide) (pk_vb _) (wsG_putB hi) d_PG_writeNumber_37 (fun H locs hP hD hS => ?_)
          refine lv_iinc (v := 2) (lv' := [(3, .int 2), (0, .ref (ad (i + 20))), (1, .int (nI k)), (2, .int w)]) hx hb d_PG_writeNumber_38 hl (k := 0) rfl rfl (by decide) rfl (fun ls hl => ?_)
          refine lv_goto (tgt := 18) hx hb d_PG_writeNumber_41 (by decide) ?_
          refine lv_iload_n hx hb d_PG_writeNumber_18 rfl (lv_at hl 0 rfl) ?_
          refine lv_iconst (v := 4) hx hb d_PG_writeNumber_19 (by decide) ?_
          refine lv_icmp_ge (tgt := 44) hx hb d_PG_writeNumber_20 (by decide) (fun c_5 => ?_) (fun c_5 => ?_)
          · exact absurd c_5 (by decide)
          · skip
            refine lv_aload_n hx hb d_PG_writeNumber_23 rfl (lv_at hl 1 rfl) ?_
            refine va_get (D := (dC, dI)) (ci := 3) (v := .ref (ad (i + 60))) (C := R_PG) (T := T_PG) (N := 3) hx hb hts i_PG hown hK hP (i + 18) (wsG_page hi) rfl 0 (by decide) (hts _ wd_137) (fun _ h9 => h9) rfl d_PG_writeNumber_24 ?_
            refine lv_iload_n hx hb d_PG_writeNumber_27 rfl (lv_at hl 2 rfl) ?_
            refine lv_iload_n hx hb d_PG_writeNumber_28 rfl (lv_at hl 0 rfl) ?_
            refine lv_iadd hx hb d_PG_writeNumber_29 ?_
            refine xtopi (y := nI (k + 2)) (nI_add (k) (2)) ?_
            refine lv_iload_n hx hb d_PG_writeNumber_30 rfl (lv_at hl 3 rfl) ?_
            refine lv_bipush (v := 8) hx hb d_PG_writeNumber_31 (by decide) ?_
            refine lv_iload_n hx hb d_PG_writeNumber_33 rfl (lv_at hl 0 rfl) ?_
            refine lv_imul hx hb d_PG_writeNumber_34 ?_
            refine lv_ishr hx hb d_PG_writeNumber_35 ?_
            refine lv_i2b hx hb d_PG_writeNumber_36 rfl ?_
            refine xbast (k := k + 2) (x' := (w >>> ((8 * 2 : Int32) &&& 31)).toInt8.toInt32) (ws1 := wsG ad ck rf n fr a ar z pc pe pt pp pf ic ie ip iz ia st rt (upr (upr (upr pb i (upd (pb i) (k + 0) ((w >>> ((8 * 0 : Int32) &&& 31)).toInt8.toInt32))) i (upd ((upr pb i (upd (pb i) (k + 0) ((w >>> ((8 * 0 : Int32) &&& 31)).toInt8.toInt32))) i) (k + 1) ((w >>> ((8 * 1 : Int32) &&& 31)).toInt8.toInt32))) i (upd ((upr (upr pb i (upd (pb i) (k + 0) ((w >>> ((8 * 0 : Int32) &&& 31)).toInt8.toInt32))) i (upd ((upr pb i (upd (pb i) (k + 0) ((w >>> ((8 * 0 : Int32) &&& 31)).toInt8.toInt32))) i) (k + 1) ((w >>> ((8 * 1 : Int32) &&& 31)).toInt8.toInt32))) i) (k + 2) ((w >>> ((8 * 2 : Int32) &&& 31)).toInt8.toInt32)))) hx hb hK hP hD hS (i + 50) 0 (wsG_pb hi) rfl (rfl) (by omega) (by decide) (pk_vb _) (wsG_putB hi) d_PG_writeNumber_37 (fun H locs hP hD hS => ?_)
            refine lv_iinc (v := 3) (lv' := [(3, .int 3), (0, .ref (ad (i + 20))), (1, .int (nI k)), (2, .int w)]) hx hb d_PG_writeNumber_38 hl (k := 0) rfl rfl (by decide) rfl (fun ls hl => ?_)
            refine lv_goto (tgt := 18) hx hb d_PG_writeNumber_41 (by decide) ?_
            refine lv_iload_n hx hb d_PG_writeNumber_18 rfl (lv_at hl 0 rfl) ?_
            refine lv_iconst (v := 4) hx hb d_PG_writeNumber_19 (by decide) ?_
            refine lv_icmp_ge (tgt := 44) hx hb d_PG_writeNumber_20 (by decide) (fun c_6 => ?_) (fun c_6 => ?_)
            · exact absurd c_6 (by decide)
            · skip
              refine lv_aload_n hx hb d_PG_writeNumber_23 rfl (lv_at hl 1 rfl) ?_
              refine va_get (D := (dC, dI)) (ci := 3) (v := .ref (ad (i + 60))) (C := R_PG) (T := T_PG) (N := 3) hx hb hts i_PG hown hK hP (i + 18) (wsG_page hi) rfl 0 (by decide) (hts _ wd_137) (fun _ h9 => h9) rfl d_PG_writeNumber_24 ?_
              refine lv_iload_n hx hb d_PG_writeNumber_27 rfl (lv_at hl 2 rfl) ?_
              refine lv_iload_n hx hb d_PG_writeNumber_28 rfl (lv_at hl 0 rfl) ?_
              refine lv_iadd hx hb d_PG_writeNumber_29 ?_
              refine xtopi (y := nI (k + 3)) (nI_add (k) (3)) ?_
              refine lv_iload_n hx hb d_PG_writeNumber_30 rfl (lv_at hl 3 rfl) ?_
              refine lv_bipush (v := 8) hx hb d_PG_writeNumber_31 (by decide) ?_
              refine lv_iload_n hx hb d_PG_writeNumber_33 rfl (lv_at hl 0 rfl) ?_
              refine lv_imul hx hb d_PG_writeNumber_34 ?_
              refine lv_ishr hx hb d_PG_writeNumber_35 ?_
              refine lv_i2b hx hb d_PG_writeNumber_36 rfl ?_
              refine xbast (k := k + 3) (x' := (w >>> ((8 * 3 : Int32) &&& 31)).toInt8.toInt32) (ws1 := wsG ad ck rf n fr a ar z pc pe pt pp pf ic ie ip iz ia st rt (upr (upr (upr (upr pb i (upd (pb i) (k + 0) ((w >>> ((8 * 0 : Int32) &&& 31)).toInt8.toInt32))) i (upd ((upr pb i (upd (pb i) (k + 0) ((w >>> ((8 * 0 : Int32) &&& 31)).toInt8.toInt32))) i) (k + 1) ((w >>> ((8 * 1 : Int32) &&& 31)).toInt8.toInt32))) i (upd ((upr (upr pb i (upd (pb i) (k + 0) ((w >>> ((8 * 0 : Int32) &&& 31)).toInt8.toInt32))) i (upd ((upr pb i (upd (pb i) (k + 0) ((w >>> ((8 * 0 : Int32) &&& 31)).toInt8.toInt32))) i) (k + 1) ((w >>> ((8 * 1 : Int32) &&& 31)).toInt8.toInt32))) i) (k + 2) ((w >>> ((8 * 2 : Int32) &&& 31)).toInt8.toInt32))) i (upd ((upr (upr (upr pb i (upd (pb i) (k + 0) ((w >>> ((8 * 0 : Int32) &&& 31)).toInt8.toInt32))) i (upd ((upr pb i (upd (pb i) (k + 0) ((w >>> ((8 * 0 : Int32) &&& 31)).toInt8.toInt32))) i) (k + 1) ((w >>> ((8 * 1 : Int32) &&& 31)).toInt8.toInt32))) i (upd ((upr (upr pb i (upd (pb i) (k + 0) ((w >>> ((8 * 0 : Int32) &&& 31)).toInt8.toInt32))) i (upd ((upr pb i (upd (pb i) (k + 0) ((w >>> ((8 * 0 : Int32) &&& 31)).toInt8.toInt32))) i) (k + 1) ((w >>> ((8 * 1 : Int32) &&& 31)).toInt8.toInt32))) i) (k + 2) ((w >>> ((8 * 2 : Int32) &&& 31)).toInt8.toInt32))) i) (k + 3) ((w >>> ((8 * 3 : Int32) &&& 31)).toInt8.toInt32)))) hx hb hK hP hD hS (i + 50) 0 (wsG_pb hi) rfl (rfl) (by omega) (by decide) (pk_vb _) (wsG_putB hi) d_PG_writeNumber_37 (fun H locs hP hD hS => ?_)
              refine lv_iinc (v := 4) (lv' := [(3, .int 4), (0, .ref (ad (i + 20))), (1, .int (nI k)), (2, .int w)]) hx hb d_PG_writeNumber_38 hl (k := 0) rfl rfl (by decide) rfl (fun ls hl => ?_)
              refine lv_goto (tgt := 18) hx hb d_PG_writeNumber_41 (by decide) ?_
              refine lv_iload_n hx hb d_PG_writeNumber_18 rfl (lv_at hl 0 rfl) ?_
              refine lv_iconst (v := 4) hx hb d_PG_writeNumber_19 (by decide) ?_
              refine lv_icmp_ge (tgt := 44) hx hb d_PG_writeNumber_20 (by decide) (fun c_7 => ?_) (fun c_7 => ?_)
              · skip
                have hw9 : wsG ad ck rf n fr a ar z pc pe pt pp pf ic ie ip iz ia st rt (upr (upr (upr (upr pb i (upd (pb i) (k + 0) ((w >>> ((8 * 0 : Int32) &&& 31)).toInt8.toInt32))) i (upd ((upr pb i (upd (pb i) (k + 0) ((w >>> ((8 * 0 : Int32) &&& 31)).toInt8.toInt32))) i) (k + 1) ((w >>> ((8 * 1 : Int32) &&& 31)).toInt8.toInt32))) i (upd ((upr (upr pb i (upd (pb i) (k + 0) ((w >>> ((8 * 0 : Int32) &&& 31)).toInt8.toInt32))) i (upd ((upr pb i (upd (pb i) (k + 0) ((w >>> ((8 * 0 : Int32) &&& 31)).toInt8.toInt32))) i) (k + 1) ((w >>> ((8 * 1 : Int32) &&& 31)).toInt8.toInt32))) i) (k + 2) ((w >>> ((8 * 2 : Int32) &&& 31)).toInt8.toInt32))) i (upd ((upr (upr (upr pb i (upd (pb i) (k + 0) ((w >>> ((8 * 0 : Int32) &&& 31)).toInt8.toInt32))) i (upd ((upr pb i (upd (pb i) (k + 0) ((w >>> ((8 * 0 : Int32) &&& 31)).toInt8.toInt32))) i) (k + 1) ((w >>> ((8 * 1 : Int32) &&& 31)).toInt8.toInt32))) i (upd ((upr (upr pb i (upd (pb i) (k + 0) ((w >>> ((8 * 0 : Int32) &&& 31)).toInt8.toInt32))) i (upd ((upr pb i (upd (pb i) (k + 0) ((w >>> ((8 * 0 : Int32) &&& 31)).toInt8.toInt32))) i) (k + 1) ((w >>> ((8 * 1 : Int32) &&& 31)).toInt8.toInt32))) i) (k + 2) ((w >>> ((8 * 2 : Int32) &&& 31)).toInt8.toInt32))) i) (k + 3) ((w >>> ((8 * 3 : Int32) &&& 31)).toInt8.toInt32))) = wsG ad ck rf n fr a ar z pc pe pt pp pf ic ie ip iz ia st rt (upr pb i (wrN (pb i) k w 4)) := by simp only [upr_eq, upr_upr]; rfl
                rw [hw9] at hP hD
                exact xretv hx hb hr hlocks hK hP hD hS d_PG_writeNumber_44
              · exact absurd c_7 (by decide)
    · skip
      have c_2 : ¬ (k ≤ 4092) := fun h9 => c_2 ((nI_leI (a := k) (b := 4092) (by omega) (by omega)).mpr h9)
      exact absurd c_2 (by omega)
set_option maxHeartbeats 4000000 in
set_option maxRecDepth 100000 in
theorem c_fb_copyTo (l : Launch) (dC : Nat → ClassId) (dI : Nat → Nat → Nat) (ad : Nat → Nat) (ck : Nat → ClassId) (rf : Int32) (n : Nat) (fr : Nat → Int32) (a : Nat) (ar : Nat → Int32) (z : Nat → Nat) (pc : Nat) (pe : Int32) (pt pp : Nat) (pf : Nat → Nat → Int32) (ic : Nat) (ie ip iz ia : Int32) (st rt : Nat → Int32) (pb : Nat → Nat → Int32) (i k mm : Nat) (hi : i < 32) (hm : mm ≤ 4096) (hkm : k + mm ≤ n) (hFr : sb_Fit fr) (hn : n ≤ 65536) (sz : Nat) : Met l y_FB_copyTo w_FB_copyTo { frames := 1, cells := 0, slots := 0, locals := 60 } (va_Pc [.ref (ad 1), .ref (ad (i + 20)), .int (nI k), .int (nI mm)] (xP (dC, dI) (tyG ck) (wsG ad ck rf n fr a ar z pc pe pt pp pf ic ie ip iz ia st rt pb) sz)) (xQv (dC, dI) (tyG ck) (va_A (wsG ad ck rf n fr a ar z pc pe pt pp pf ic ie ip iz ia st rt pb) sz) (wsG ad ck rf n fr a ar z pc pe pt pp pf ic ie ip iz ia st rt (upr pb i (va_cpy fr (pb i) k 0 mm)))) 0 0 (va_A (wsG ad ck rf n fr a ar z pc pe pt pp pf ic ie ip iz ia st rt pb) sz) := by
  refine xof (cc := b_FB_copyTo) (maxL := 4) (ret := none) (own := R_FB) (Qc := fun A => (xQv (dC, dI) (tyG ck) A (wsG ad ck rf n fr a ar z pc pe pt pp pf ic ie ip iz ia st rt (upr pb i (va_cpy fr (pb i) k 0 mm))))) (by decide) rfl rfl (Nat.le_of_ble_eq_true rfl) ?_ sz
  intro p e s m below meth c A C hnm hK hP hD hA hN hZ hS ls hl
  obtain ⟨hx, hb, hr, hml, hown, hts, hlocks⟩ := C
  have hl : lv_has ls 4 [(0, .ref (ad 1)), (1, .ref (ad (i + 20))), (2, .int (nI k)), (3, .int (nI mm))] := hl
  refine lv_iload_n hx hb d_FB_copyTo_0 rfl (lv_at hl 3 rfl) ?_
  refine lv_aload_n hx hb d_FB_copyTo_1 rfl (lv_at hl 1 rfl) ?_
  refine va_getN (D := (dC, dI)) (ci := 3) (v := .ref (ad (i + 60))) (C := R_PG) (T := T_PG) (N := 3) hx hb hts i_PG hown hK hP (i + 18) (wsG_page hi) rfl 0 (by decide) (hN.use wd_139) (fun _ h9 => h9) rfl d_FB_copyTo_2 ?_
  refine va_alen (v := 4096) hx hb hK hP (i + 50) 0 (wsG_pb hi) rfl rfl d_FB_copyTo_5 ?_
  refine lv_icmp_gt (tgt := 34) hx hb d_FB_copyTo_6 (by decide) (fun c_1 => ?_) (fun c_1 => ?_)
  · skip
    have c_1 : 4096 < mm := (nI_ltI (a := 4096) (b := mm) (by omega) (by omega)).mp c_1
    exact absurd c_1 (by omega)
  · skip
    have c_1 : ¬ (4096 < mm) := fun h9 => c_1 ((nI_ltI (a := 4096) (b := mm) (by omega) (by omega)).mpr h9)
    refine lv_aload_n hx hb d_FB_copyTo_9 rfl (lv_at hl 0 rfl) ?_
    refine lv_iload_n hx hb d_FB_copyTo_10 rfl (lv_at hl 2 rfl) ?_
    refine lv_i2l hx hb d_FB_copyTo_11 rfl ?_
    refine lv_iload_n hx hb d_FB_copyTo_12 rfl (lv_at hl 3 rfl) ?_
    refine lv_i2l hx hb d_FB_copyTo_13 rfl ?_
    refine xcalli (va_runV (As := [.long ((nI k).toInt64), .long ((nI mm).toInt64)]) (rest := []) ⟨hx, hb, hml, hown, hts⟩ (c_fb_holds l dC dI ad ck rf n fr a ar z pc pe pt pp pf ic ie ip iz ia st rt pb ((nI k).toInt64) ((nI mm).toInt64) hn s.heap.size) (cwV 2 hts (xgV wd_220 wd_221 wd_222 wd_16 wd_223) rfl rfl rfl (by decide +kernel) ⟨Nat.le_of_ble_eq_true rfl, Nat.le_of_ble_eq_true rfl⟩) (xpreV (q0 := 1) hK hN hZ hA hS hP hD rfl rfl) rfl rfl hl.1 rfl (lv_room (Nat.le_of_ble_eq_true rfl)) d_FB_copyTo_14 ⟨Nat.zero_le _, Nat.zero_le _⟩) hD hS hA (fun r_2 H locs hr_2 hP hD hS => ?_)
    subst hr_2
    refine lv_if_eq (tgt := 34) hx hb d_FB_copyTo_17 (by decide) (fun c_3 => ?_) (fun c_3 => ?_)
    · skip
      have c_3 := bI_f c_3
      exact absurd (p_h2 (k := k) (m := mm) (n := n) (by omega) hkm hn) c_3
    · skip
      have c_3 := bI_t c_3
      refine lv_aload_n hx hb d_FB_copyTo_20 rfl (lv_at hl 0 rfl) ?_
      refine va_get (D := (dC, dI)) (ci := 1) (v := .ref (ad 2)) (C := R_FB) (T := T_FB) (N := 2) hx hb hts i_FB hown hK hP 1 rfl rfl 0 (by decide) (hts _ wd_41) (fun _ h9 => h9) rfl d_FB_copyTo_21 ?_
      refine lv_iload_n hx hb d_FB_copyTo_24 rfl (lv_at hl 2 rfl) ?_
      refine lv_aload_n hx hb d_FB_copyTo_25 rfl (lv_at hl 1 rfl) ?_
      refine va_getN (D := (dC, dI)) (ci := 3) (v := .ref (ad (i + 60))) (C := R_PG) (T := T_PG) (N := 3) hx hb hts i_PG hown hK hP (i + 18) (wsG_page hi) rfl 0 (by decide) (hN.use wd_139) (fun _ h9 => h9) rfl d_FB_copyTo_26 ?_
      refine lv_iconst (v := 0) hx hb d_FB_copyTo_29 (by decide) ?_
      refine lv_iload_n hx hb d_FB_copyTo_30 rfl (lv_at hl 3 rfl) ?_
      refine xcopyb (rest := []) (sp := k) (dp := 0) (n := mm) (ws1 := wsG ad ck rf n fr a ar z pc pe pt pp pf ic ie ip iz ia st rt (upr pb i (va_cpy fr (pb i) k 0 mm))) hx hb (hml.trans hl.1.symm) hown (hts _ wd_343) (hts _ wd_345) (hts _ wd_344) (hts _ wd_25) hK hP hD hS 2 (i + 50) 0 0 rfl (wsG_pb hi) rfl rfl rfl rfl rfl (by omega) (by omega) (by decide) (by decide) hFr (Nat.le_of_ble_eq_true rfl) (Nat.le_of_ble_eq_true rfl) (wsG_putB hi) d_FB_copyTo_31 (fun H locs hP hD hS => ?_)
      exact xretv hx hb hr hlocks hK hP hD hS d_FB_copyTo_34
set_option maxHeartbeats 4000000 in
set_option maxRecDepth 100000 in
theorem c_ag_copyTo (l : Launch) (dC : Nat → ClassId) (dI : Nat → Nat → Nat) (ad : Nat → Nat) (ck : Nat → ClassId) (rf : Int32) (n : Nat) (fr : Nat → Int32) (a : Nat) (ar : Nat → Int32) (z : Nat → Nat) (pc : Nat) (pe : Int32) (pt pp : Nat) (pf : Nat → Nat → Int32) (ic : Nat) (ie ip iz ia : Int32) (st rt : Nat → Int32) (pb : Nat → Nat → Int32) (i k q : Nat) (hi : i < 32) (hq : q < 32) (hkz : k + z q ≤ 4096) (hzq : z q ≤ 127) (hAr : sb_Fit ar) (sz : Nat) : Met l y_AG_copyTo w_AG_copyTo { frames := 1, cells := 0, slots := 0, locals := 60 } (va_Pc [.ref (ad 3), .ref (ad (i + 20)), .int (nI k), .int (nI q)] (xP (dC, dI) (tyG ck) (wsG ad ck rf n fr a ar z pc pe pt pp pf ic ie ip iz ia st rt pb) sz)) (xQv (dC, dI) (tyG ck) (va_A (wsG ad ck rf n fr a ar z pc pe pt pp pf ic ie ip iz ia st rt pb) sz) (wsG ad ck rf n fr a ar z pc pe pt pp pf ic ie ip iz ia st rt (upr pb i (va_cpy ar (pb i) (q * 127) k (z q))))) 0 0 (va_A (wsG ad ck rf n fr a ar z pc pe pt pp pf ic ie ip iz ia st rt pb) sz) := by
  refine xof (cc := b_AG_copyTo) (maxL := 4) (ret := none) (own := R_AG) (Qc := fun A => (xQv (dC, dI) (tyG ck) A (wsG ad ck rf n fr a ar z pc pe pt pp pf ic ie ip iz ia st rt (upr pb i (va_cpy ar (pb i) (q * 127) k (z q)))))) (by decide) rfl rfl (Nat.le_of_ble_eq_true rfl) ?_ sz
  intro p e s m below meth c A C hnm hK hP hD hA hN hZ hS ls hl
  obtain ⟨hx, hb, hr, hml, hown, hts, hlocks⟩ := C
  have hl : lv_has ls 4 [(0, .ref (ad 3)), (1, .ref (ad (i + 20))), (2, .int (nI k)), (3, .int (nI q))] := hl
  refine lv_iload_n hx hb d_AG_copyTo_0 rfl (lv_at hl 3 rfl) ?_
  refine lv_if_lt (tgt := 33) hx hb d_AG_copyTo_1 (by decide) (fun c_1 => ?_) (fun c_1 => ?_)
  · skip
    have c_1 : q < 0 := (nI_ltI (a := q) (b := 0) (by omega) (by omega)).mp c_1
    exact absurd c_1 (Nat.not_lt_zero _)
  · skip
    have c_1 : ¬ (q < 0) := fun h9 => c_1 ((nI_ltI (a := q) (b := 0) (by omega) (by omega)).mpr h9)
    refine lv_iload_n hx hb d_AG_copyTo_4 rfl (lv_at hl 3 rfl) ?_
    refine lv_aload_n hx hb d_AG_copyTo_5 rfl (lv_at hl 0 rfl) ?_
    refine va_get (D := (dC, dI)) (ci := 0) (v := .ref (ad 5)) (C := R_AG) (T := T_AG) (N := 3) hx hb hts i_AG hown hK hP 3 rfl rfl 1 (by decide) (hts _ wd_57) (fun _ h9 => h9) rfl d_AG_copyTo_6 ?_
    refine va_alen (v := 32) hx hb hK hP 5 1 rfl rfl rfl d_AG_copyTo_9 ?_
    refine lv_icmp_ge (tgt := 33) hx hb d_AG_copyTo_10 (by decide) (fun c_2 => ?_) (fun c_2 => ?_)
    · skip
      have c_2 : 32 ≤ q := (nI_leI (a := 32) (b := q) (by omega) (by omega)).mp c_2
      exact absurd c_2 (by omega)
    · skip
      have c_2 : ¬ (32 ≤ q) := fun h9 => c_2 ((nI_leI (a := 32) (b := q) (by omega) (by omega)).mpr h9)
      refine lv_iload_n hx hb d_AG_copyTo_13 rfl (lv_at hl 2 rfl) ?_
      refine lv_if_lt (tgt := 33) hx hb d_AG_copyTo_14 (by decide) (fun c_3 => ?_) (fun c_3 => ?_)
      · skip
        have c_3 : k < 0 := (nI_ltI (a := k) (b := 0) (by omega) (by omega)).mp c_3
        exact absurd c_3 (Nat.not_lt_zero _)
      · skip
        have c_3 : ¬ (k < 0) := fun h9 => c_3 ((nI_ltI (a := k) (b := 0) (by omega) (by omega)).mpr h9)
        refine lv_iload_n hx hb d_AG_copyTo_17 rfl (lv_at hl 2 rfl) ?_
        refine lv_aload_n hx hb d_AG_copyTo_18 rfl (lv_at hl 1 rfl) ?_
        refine va_getN (D := (dC, dI)) (ci := 3) (v := .ref (ad (i + 60))) (C := R_PG) (T := T_PG) (N := 3) hx hb hts i_PG hown hK hP (i + 18) (wsG_page hi) rfl 0 (by decide) (hN.use wd_138) (fun _ h9 => h9) rfl d_AG_copyTo_19 ?_
        refine va_alen (v := 4096) hx hb hK hP (i + 50) 0 (wsG_pb hi) rfl rfl d_AG_copyTo_22 ?_
        refine lv_aload_n hx hb d_AG_copyTo_23 rfl (lv_at hl 0 rfl) ?_
        refine va_get (D := (dC, dI)) (ci := 0) (v := .ref (ad 5)) (C := R_AG) (T := T_AG) (N := 3) hx hb hts i_AG hown hK hP 3 rfl rfl 1 (by decide) (hts _ wd_57) (fun _ h9 => h9) rfl d_AG_copyTo_24 ?_
        refine lv_iload_n hx hb d_AG_copyTo_27 rfl (lv_at hl 3 rfl) ?_
        refine xiald (k := q) hx hb hK hP 5 1 rfl rfl (rfl) (by omega) (by decide) d_AG_copyTo_28 ?_
        refine lv_isub hx hb d_AG_copyTo_29 ?_
        refine xtopi (y := nI (4096 - (z q))) (pk_sub (a := 4096) (b := z q) (by omega)) ?_
        refine lv_icmp_le (tgt := 34) hx hb d_AG_copyTo_30 (by decide) (fun c_4 => ?_) (fun c_4 => ?_)
        · skip
          have c_4 : k ≤ 4096 - (z q) := (nI_leI (a := k) (b := 4096 - (z q)) (by omega) (by omega)).mp c_4
          refine lv_aload_n hx hb d_AG_copyTo_34 rfl (lv_at hl 0 rfl) ?_
          refine va_get (D := (dC, dI)) (ci := 0) (v := .ref (ad 4)) (C := R_AG) (T := T_AG) (N := 3) hx hb hts i_AG hown hK hP 3 rfl rfl 0 (by decide) (hts _ wd_56) (fun _ h9 => h9) rfl d_AG_copyTo_35 ?_
          refine lv_iload_n hx hb d_AG_copyTo_38 rfl (lv_at hl 3 rfl) ?_
          refine lv_bipush (v := 127) hx hb d_AG_copyTo_39 (by decide) ?_
          refine lv_imul hx hb d_AG_copyTo_41 ?_
          refine xtopi (y := nI (q * 127)) (pk_mul (q) (127)) ?_
          refine lv_aload_n hx hb d_AG_copyTo_42 rfl (lv_at hl 1 rfl) ?_
          refine va_getN (D := (dC, dI)) (ci := 3) (v := .ref (ad (i + 60))) (C := R_PG) (T := T_PG) (N := 3) hx hb hts i_PG hown hK hP (i + 18) (wsG_page hi) rfl 0 (by decide) (hN.use wd_138) (fun _ h9 => h9) rfl d_AG_copyTo_43 ?_
          refine lv_iload_n hx hb d_AG_copyTo_46 rfl (lv_at hl 2 rfl) ?_
          refine lv_aload_n hx hb d_AG_copyTo_47 rfl (lv_at hl 0 rfl) ?_
          refine va_get (D := (dC, dI)) (ci := 0) (v := .ref (ad 5)) (C := R_AG) (T := T_AG) (N := 3) hx hb hts i_AG hown hK hP 3 rfl rfl 1 (by decide) (hts _ wd_57) (fun _ h9 => h9) rfl d_AG_copyTo_48 ?_
          refine lv_iload_n hx hb d_AG_copyTo_51 rfl (lv_at hl 3 rfl) ?_
          refine xiald (k := q) hx hb hK hP 5 1 rfl rfl (rfl) (by omega) (by decide) d_AG_copyTo_52 ?_
          refine xcopyb (rest := []) (sp := q * 127) (dp := k) (n := z q) (ws1 := wsG ad ck rf n fr a ar z pc pe pt pp pf ic ie ip iz ia st rt (upr pb i (va_cpy ar (pb i) (q * 127) k (z q)))) hx hb (hml.trans hl.1.symm) hown (hts _ wd_356) (hts _ wd_345) (hts _ wd_344) (hts _ wd_25) hK hP hD hS 4 (i + 50) 0 0 rfl (wsG_pb hi) rfl rfl rfl rfl rfl (by omega) (by omega) (by decide) (by decide) hAr (Nat.le_of_ble_eq_true rfl) (Nat.le_of_ble_eq_true rfl) (wsG_putB hi) d_AG_copyTo_53 (fun H locs hP hD hS => ?_)
          exact xretv hx hb hr hlocks hK hP hD hS d_AG_copyTo_56
        · skip
          have c_4 : ¬ (k ≤ 4096 - (z q)) := fun h9 => c_4 ((nI_leI (a := k) (b := 4096 - (z q)) (by omega) (by omega)).mpr h9)
          exact absurd c_4 (by omega)
