set_option maxHeartbeats 4000000 in
set_option maxRecDepth 100000 in
theorem c_gt_feed (l : Launch) (dC : Nat → ClassId) (dI : Nat → Nat → Nat) (ad : Nat → Nat) (ck : Nat → ClassId) (rf : Int32) (n : Nat) (fr : Nat → Int32) (a : Nat) (ar : Nat → Int32) (z : Nat → Nat) (pc : Nat) (pe : Int32) (pt pp : Nat) (pf : Nat → Nat → Int32) (ic : Nat) (ie ip iz ia : Int32) (st rt : Nat → Int32) (pb : Nat → Nat → Int32) (w1 w2 w3 w4 w5 : Int32) (hn : n ≤ 65536) (sz : Nat) : Met l y_GT_feed w_GT_feed { frames := 1, cells := 0, slots := 0, locals := 30 } (va_Pc [.ref (ad 0), .int w1, .int w2, .int w3, .int w4, .int w5] (xP (dC, dI) (tyG ck) (wsG ad ck rf n fr a ar z pc pe pt pp pf ic ie ip iz ia st rt pb) sz)) (xQi (dC, dI) (tyG ck) (va_A (wsG ad ck rf n fr a ar z pc pe pt pp pf ic ie ip iz ia st rt pb) sz) (wsG ad ck rf (fdN n) (fdF n fr w1 w2 w3 w4 w5) a ar z pc pe pt pp pf ic ie ip iz ia st rt pb) (fun r => r = bI (n + 20 ≤ 65536))) 0 0 (va_A (wsG ad ck rf n fr a ar z pc pe pt pp pf ic ie ip iz ia st rt pb) sz) := by
  refine xof (cc := b_GT_feed) (maxL := 6) (ret := (some .boolean)) (own := R_GT) (Qc := fun A => (xQi (dC, dI) (tyG ck) A (wsG ad ck rf (fdN n) (fdF n fr w1 w2 w3 w4 w5) a ar z pc pe pt pp pf ic ie ip iz ia st rt pb) (fun r => r = bI (n + 20 ≤ 65536)))) (by decide) rfl rfl (Nat.le_of_ble_eq_true rfl) ?_ sz
  intro p e s m below meth c A C hnm hK hP hD hA hN hZ hS ls hl
  obtain ⟨hx, hb, hr, hml, hown, hts, hlocks⟩ := C
  have hl : lv_has ls 6 [(0, .ref (ad 0)), (1, .int w1), (2, .int w2), (3, .int w3), (4, .int w4), (5, .int w5)] := hl
  refine lv_aload_n hx hb d_GT_feed_0 rfl (lv_at hl 0 rfl) ?_
  refine va_get (D := (dC, dI)) (ci := 6) (v := .ref (ad 1)) (C := R_GT) (T := T_GT) (N := 5) hx hb hts i_GT hown hK hP 0 rfl rfl 0 (by decide) (hts _ wd_176) (fun _ h9 => h9) rfl d_GT_feed_1 ?_
  refine lv_bipush (v := 20) hx hb d_GT_feed_4 (by decide) ?_
  refine xcalli (va_runV (As := [.int 20]) (rest := []) ⟨hx, hb, hml, hown, hts⟩ (c_fb_hasRoom l dC dI ad ck rf n fr a ar z pc pe pt pp pf ic ie ip iz ia st rt pb hn s.heap.size) (cwV 1 hts (xgV wd_196 wd_197 wd_198 wd_16 wd_199) rfl rfl rfl (by decide +kernel) ⟨Nat.le_of_ble_eq_true rfl, Nat.le_of_ble_eq_true rfl⟩) (xpreV (q0 := 1) hK hN hZ hA hS hP hD rfl rfl) rfl rfl hl.1 rfl (lv_room (Nat.le_of_ble_eq_true rfl)) d_GT_feed_6 ⟨Nat.zero_le _, Nat.zero_le _⟩) hD hS hA (fun r_1 H locs hr_1 hP hD hS => ?_)
  subst hr_1
  refine lv_if_ne (tgt := 14) hx hb d_GT_feed_9 (by decide) (fun c_2 => ?_) (fun c_2 => ?_)
  · skip
    have c_2 := bI_t c_2
    refine lv_aload_n hx hb d_GT_feed_14 rfl (lv_at hl 0 rfl) ?_
    refine va_get (D := (dC, dI)) (ci := 6) (v := .ref (ad 1)) (C := R_GT) (T := T_GT) (N := 5) hx hb hts i_GT hown hK hP 0 rfl rfl 0 (by decide) (hts _ wd_176) (fun _ h9 => h9) rfl d_GT_feed_15 ?_
    refine lv_iload_n hx hb d_GT_feed_18 rfl (lv_at hl 1 rfl) ?_
    refine xcallv (va_runV (As := [.int w1]) (rest := []) ⟨hx, hb, hml, hown, hts⟩ (c_fb_append l dC dI ad ck rf n fr a ar z pc pe pt pp pf ic ie ip iz ia st rt pb w1 (by omega) H.size) (cwV 1 hts (xgV wd_200 wd_201 wd_202 wd_16 wd_203) rfl rfl rfl (by decide +kernel) ⟨Nat.le_of_ble_eq_true rfl, Nat.le_of_ble_eq_true rfl⟩) (xpreV (q0 := 1) hK hN hZ hA hS hP hD rfl rfl) rfl rfl hl.1 rfl (lv_room (Nat.le_of_ble_eq_true rfl)) d_GT_feed_19 ⟨Nat.zero_le _, Nat.zero_le _⟩) hD hS hA (fun H locs hP hD hS => ?_)
    refine lv_aload_n hx hb d_GT_feed_22 rfl (lv_at hl 0 rfl) ?_
    refine va_get (D := (dC, dI)) (ci := 6) (v := .ref (ad 1)) (C := R_GT) (T := T_GT) (N := 5) hx hb hts i_GT hown hK hP 0 rfl rfl 0 (by decide) (hts _ wd_176) (fun _ h9 => h9) rfl d_GT_feed_23 ?_
    refine lv_iload_n hx hb d_GT_feed_26 rfl (lv_at hl 2 rfl) ?_
    refine xcallv (va_runV (As := [.int w2]) (rest := []) ⟨hx, hb, hml, hown, hts⟩ (c_fb_append l dC dI ad ck rf (n + 4) (apW fr n w1) a ar z pc pe pt pp pf ic ie ip iz ia st rt pb w2 (by omega) H.size) (cwV 1 hts (xgV wd_200 wd_201 wd_202 wd_16 wd_203) rfl rfl rfl (by decide +kernel) ⟨Nat.le_of_ble_eq_true rfl, Nat.le_of_ble_eq_true rfl⟩) (xpreV (q0 := 1) hK hN hZ hA hS hP hD rfl rfl) rfl rfl hl.1 rfl (lv_room (Nat.le_of_ble_eq_true rfl)) d_GT_feed_27 ⟨Nat.zero_le _, Nat.zero_le _⟩) hD hS hA (fun H locs hP hD hS => ?_)
    refine lv_aload_n hx hb d_GT_feed_30 rfl (lv_at hl 0 rfl) ?_
    refine va_get (D := (dC, dI)) (ci := 6) (v := .ref (ad 1)) (C := R_GT) (T := T_GT) (N := 5) hx hb hts i_GT hown hK hP 0 rfl rfl 0 (by decide) (hts _ wd_176) (fun _ h9 => h9) rfl d_GT_feed_31 ?_
    refine lv_iload_n hx hb d_GT_feed_34 rfl (lv_at hl 3 rfl) ?_
    refine xcallv (va_runV (As := [.int w3]) (rest := []) ⟨hx, hb, hml, hown, hts⟩ (c_fb_append l dC dI ad ck rf (n + 4 + 4) (apW (apW fr n w1) (n + 4) w2) a ar z pc pe pt pp pf ic ie ip iz ia st rt pb w3 (by omega) H.size) (cwV 1 hts (xgV wd_200 wd_201 wd_202 wd_16 wd_203) rfl rfl rfl (by decide +kernel) ⟨Nat.le_of_ble_eq_true rfl, Nat.le_of_ble_eq_true rfl⟩) (xpreV (q0 := 1) hK hN hZ hA hS hP hD rfl rfl) rfl rfl hl.1 rfl (lv_room (Nat.le_of_ble_eq_true rfl)) d_GT_feed_35 ⟨Nat.zero_le _, Nat.zero_le _⟩) hD hS hA (fun H locs hP hD hS => ?_)
    refine lv_aload_n hx hb d_GT_feed_38 rfl (lv_at hl 0 rfl) ?_
    refine va_get (D := (dC, dI)) (ci := 6) (v := .ref (ad 1)) (C := R_GT) (T := T_GT) (N := 5) hx hb hts i_GT hown hK hP 0 rfl rfl 0 (by decide) (hts _ wd_176) (fun _ h9 => h9) rfl d_GT_feed_39 ?_
    refine lv_iload hx hb d_GT_feed_42 (lv_at hl 4 rfl) ?_
    refine xcallv (va_runV (As := [.int w4]) (rest := []) ⟨hx, hb, hml, hown, hts⟩ (c_fb_append l dC dI ad ck rf (n + 4 + 4 + 4) (apW (apW (apW fr n w1) (n + 4) w2) (n + 4 + 4) w3) a ar z pc pe pt pp pf ic ie ip iz ia st rt pb w4 (by omega) H.size) (cwV 1 hts (xgV wd_200 wd_201 wd_202 wd_16 wd_203) rfl rfl rfl (by decide +kernel) ⟨Nat.le_of_ble_eq_true rfl, Nat.le_of_ble_eq_true rfl⟩) (xpreV (q0 := 1) hK hN hZ hA hS hP hD rfl rfl) rfl rfl hl.1 rfl (lv_room (Nat.le_of_ble_eq_true rfl)) d_GT_feed_44 ⟨Nat.zero_le _, Nat.zero_le _⟩) hD hS hA (fun H locs hP hD hS => ?_)
    refine lv_aload_n hx hb d_GT_feed_47 rfl (lv_at hl 0 rfl) ?_
    refine va_get (D := (dC, dI)) (ci := 6) (v := .ref (ad 1)) (C := R_GT) (T := T_GT) (N := 5) hx hb hts i_GT hown hK hP 0 rfl rfl 0 (by decide) (hts _ wd_176) (fun _ h9 => h9) rfl d_GT_feed_48 ?_
    refine lv_iload hx hb d_GT_feed_51 (lv_at hl 5 rfl) ?_
    refine xcallv (va_runV (As := [.int w5]) (rest := []) ⟨hx, hb, hml, hown, hts⟩ (c_fb_append l dC dI ad ck rf (n + 4 + 4 + 4 + 4) (apW (apW (apW (apW fr n w1) (n + 4) w2) (n + 4 + 4) w3) (n + 4 + 4 + 4) w4) a ar z pc pe pt pp pf ic ie ip iz ia st rt pb w5 (by omega) H.size) (cwV 1 hts (xgV wd_200 wd_201 wd_202 wd_16 wd_203) rfl rfl rfl (by decide +kernel) ⟨Nat.le_of_ble_eq_true rfl, Nat.le_of_ble_eq_true rfl⟩) (xpreV (q0 := 1) hK hN hZ hA hS hP hD rfl rfl) rfl rfl hl.1 rfl (lv_room (Nat.le_of_ble_eq_true rfl)) d_GT_feed_53 ⟨Nat.zero_le _, Nat.zero_le _⟩) hD hS hA (fun H locs hP hD hS => ?_)
    refine lv_iconst (v := 1) hx hb d_GT_feed_56 (by decide) ?_
    have hw9 : wsG ad ck rf (n + 4 + 4 + 4 + 4 + 4) (apW (apW (apW (apW (apW fr n w1) (n + 4) w2) (n + 4 + 4) w3) (n + 4 + 4 + 4) w4) (n + 4 + 4 + 4 + 4) w5) a ar z pc pe pt pp pf ic ie ip iz ia st rt pb = wsG ad ck rf (fdN n) (fdF n fr w1 w2 w3 w4 w5) a ar z pc pe pt pp pf ic ie ip iz ia st rt pb := by rw [fdN, fdF, if_pos c_2, if_pos c_2]
    rw [hw9] at hP hD
    exact xreti (v := 1) hx hb hr hlocks hK hP hD hS (rfl) (bI_1 c_2) d_GT_feed_57
  · skip
    have c_2 := bI_f c_2
    refine lv_iconst (v := 0) hx hb d_GT_feed_12 (by decide) ?_
    have hw9 : wsG ad ck rf n fr a ar z pc pe pt pp pf ic ie ip iz ia st rt pb = wsG ad ck rf (fdN n) (fdF n fr w1 w2 w3 w4 w5) a ar z pc pe pt pp pf ic ie ip iz ia st rt pb := by rw [fdN, fdF, if_neg c_2, if_neg c_2]
    rw [hw9] at hP hD
    exact xreti (v := 0) hx hb hr hlocks hK hP hD hS (rfl) (bI_0 c_2) d_GT_feed_13
set_option maxHeartbeats 4000000 in
set_option maxRecDepth 100000 in
theorem c_gt_end (l : Launch) (dC : Nat → ClassId) (dI : Nat → Nat → Nat) (ad : Nat → Nat) (ck : Nat → ClassId) (rf : Int32) (n : Nat) (fr : Nat → Int32) (a : Nat) (ar : Nat → Int32) (z : Nat → Nat) (pc : Nat) (pe : Int32) (pt pp : Nat) (pf : Nat → Nat → Int32) (ic : Nat) (ie ip iz ia : Int32) (st rt : Nat → Int32) (pb : Nat → Nat → Int32) (k : Int32) (hn : n ≤ 65536) (sz : Nat) : Met l y_GT_end w_GT_end { frames := 1, cells := 0, slots := 0, locals := 30 } (va_Pc [.ref (ad 0), .int k] (xP (dC, dI) (tyG ck) (wsG ad ck rf n fr a ar z pc pe pt pp pf ic ie ip iz ia st rt pb) sz)) (xQi (dC, dI) (tyG ck) (va_A (wsG ad ck rf n fr a ar z pc pe pt pp pf ic ie ip iz ia st rt pb) sz) (wsG ad ck rf (fbCut n k) fr a ar z pc pe pt pp pf ic ie ip iz ia st rt pb) (fun r => r = bI (0 ≤ k.toInt ∧ k.toInt ≤ (n : Int)))) 0 0 (va_A (wsG ad ck rf n fr a ar z pc pe pt pp pf ic ie ip iz ia st rt pb) sz) := by
  refine xof (cc := b_GT_end) (maxL := 2) (ret := (some .boolean)) (own := R_GT) (Qc := fun A => (xQi (dC, dI) (tyG ck) A (wsG ad ck rf (fbCut n k) fr a ar z pc pe pt pp pf ic ie ip iz ia st rt pb) (fun r => r = bI (0 ≤ k.toInt ∧ k.toInt ≤ (n : Int))))) (by decide) rfl rfl (Nat.le_of_ble_eq_true rfl) ?_ sz
  intro p e s m below meth c A C hnm hK hP hD hA hN hZ hS ls hl
  obtain ⟨hx, hb, hr, hml, hown, hts, hlocks⟩ := C
  have hl : lv_has ls 2 [(0, .ref (ad 0)), (1, .int k)] := hl
  refine lv_aload_n hx hb d_GT_end_0 rfl (lv_at hl 0 rfl) ?_
  refine va_get (D := (dC, dI)) (ci := 6) (v := .ref (ad 1)) (C := R_GT) (T := T_GT) (N := 5) hx hb hts i_GT hown hK hP 0 rfl rfl 0 (by decide) (hts _ wd_176) (fun _ h9 => h9) rfl d_GT_end_1 ?_
  refine lv_iload_n hx hb d_GT_end_4 rfl (lv_at hl 1 rfl) ?_
  refine xcalli (va_runV (As := [.int k]) (rest := []) ⟨hx, hb, hml, hown, hts⟩ (c_fb_cut l dC dI ad ck rf n fr a ar z pc pe pt pp pf ic ie ip iz ia st rt pb k hn s.heap.size) (cwV 1 hts (xgV wd_208 wd_209 wd_210 wd_16 wd_211) rfl rfl rfl (by decide +kernel) ⟨Nat.le_of_ble_eq_true rfl, Nat.le_of_ble_eq_true rfl⟩) (xpreV (q0 := 1) hK hN hZ hA hS hP hD rfl rfl) rfl rfl hl.1 rfl (lv_room (Nat.le_of_ble_eq_true rfl)) d_GT_end_5 ⟨Nat.zero_le _, Nat.zero_le _⟩) hD hS hA (fun r_1 H locs hr_1 hP hD hS => ?_)
  subst hr_1
  exact xreti (v := bI (0 ≤ k.toInt ∧ k.toInt ≤ (n : Int))) hx hb hr hlocks hK hP hD hS (bI_n) (rfl) d_GT_end_8
set_option maxHeartbeats 4000000 in
set_option maxRecDepth 100000 in
theorem c_gt_set (l : Launch) (dC : Nat → ClassId) (dI : Nat → Nat → Nat) (ad : Nat → Nat) (ck : Nat → ClassId) (rf : Int32) (n : Nat) (fr : Nat → Int32) (a : Nat) (ar : Nat → Int32) (z : Nat → Nat) (pc : Nat) (pe : Int32) (pt pp : Nat) (pf : Nat → Nat → Int32) (ic : Nat) (ie ip iz ia : Int32) (st rt : Nat → Int32) (pb : Nat → Nat → Int32) (k b : Int32) (hn : n ≤ 65536) (sz : Nat) : Met l y_GT_set w_GT_set { frames := 2, cells := 0, slots := 0, locals := 50 } (va_Pc [.ref (ad 0), .int k, .int b] (xP (dC, dI) (tyG ck) (wsG ad ck rf n fr a ar z pc pe pt pp pf ic ie ip iz ia st rt pb) sz)) (xQi (dC, dI) (tyG ck) (va_A (wsG ad ck rf n fr a ar z pc pe pt pp pf ic ie ip iz ia st rt pb) sz) (wsG ad ck rf n (stF n fr k b) a ar z pc pe pt pp pf ic ie ip iz ia st rt pb) (fun r => r = bI (isB b ∧ 0 ≤ k.toInt ∧ k.toInt + ((1 : Nat) : Int) ≤ (n : Int)))) 0 0 (va_A (wsG ad ck rf n fr a ar z pc pe pt pp pf ic ie ip iz ia st rt pb) sz) := by
  refine xof (cc := b_GT_set) (maxL := 3) (ret := (some .boolean)) (own := R_GT) (Qc := fun A => (xQi (dC, dI) (tyG ck) A (wsG ad ck rf n (stF n fr k b) a ar z pc pe pt pp pf ic ie ip iz ia st rt pb) (fun r => r = bI (isB b ∧ 0 ≤ k.toInt ∧ k.toInt + ((1 : Nat) : Int) ≤ (n : Int))))) (by decide) rfl rfl (Nat.le_of_ble_eq_true rfl) ?_ sz
  intro p e s m below meth c A C hnm hK hP hD hA hN hZ hS ls hl
  obtain ⟨hx, hb, hr, hml, hown, hts, hlocks⟩ := C
  have hl : lv_has ls 3 [(0, .ref (ad 0)), (1, .int k), (2, .int b)] := hl
  refine lv_iload_n hx hb d_GT_set_0 rfl (lv_at hl 2 rfl) ?_
  refine lv_if_lt (tgt := 11) hx hb d_GT_set_1 (by decide) (fun c_1 => ?_) (fun c_1 => ?_)
  · skip
    have hB := p_b0 c_1
    refine lv_iconst (v := 0) hx hb d_GT_set_11 (by decide) ?_
    have hw9 : wsG ad ck rf n fr a ar z pc pe pt pp pf ic ie ip iz ia st rt pb = wsG ad ck rf n (stF n fr k b) a ar z pc pe pt pp pf ic ie ip iz ia st rt pb := by rw [stF, if_neg hB]
    rw [hw9] at hP hD
    exact xreti (v := 0) hx hb hr hlocks hK hP hD hS (rfl) (bI_0 (fun h9 => hB h9.1)) d_GT_set_12
  · skip
    refine lv_iload_n hx hb d_GT_set_4 rfl (lv_at hl 2 rfl) ?_
    refine lv_sipush (v := 255) hx hb d_GT_set_5 (by decide) ?_
    refine lv_icmp_le (tgt := 13) hx hb d_GT_set_8 (by decide) (fun c_2 => ?_) (fun c_2 => ?_)
    · skip
      have hB := (p_255 c_1).mp c_2
      refine lv_aload_n hx hb d_GT_set_13 rfl (lv_at hl 0 rfl) ?_
      refine va_get (D := (dC, dI)) (ci := 6) (v := .ref (ad 1)) (C := R_GT) (T := T_GT) (N := 5) hx hb hts i_GT hown hK hP 0 rfl rfl 0 (by decide) (hts _ wd_176) (fun _ h9 => h9) rfl d_GT_set_14 ?_
      refine lv_iload_n hx hb d_GT_set_17 rfl (lv_at hl 1 rfl) ?_
      refine lv_iconst (v := 1) hx hb d_GT_set_18 (by decide) ?_
      refine lv_iload_n hx hb d_GT_set_19 rfl (lv_at hl 2 rfl) ?_
      refine xcalli (va_runV (As := [.int k, .int 1, .int b]) (rest := []) ⟨hx, hb, hml, hown, hts⟩ (c_fb_write1 l dC dI ad ck rf n fr a ar z pc pe pt pp pf ic ie ip iz ia st rt pb k b hn s.heap.size) (cwV 3 hts (xgV wd_216 wd_217 wd_218 wd_16 wd_219) rfl rfl rfl (by decide +kernel) ⟨Nat.le_of_ble_eq_true rfl, Nat.le_of_ble_eq_true rfl⟩) (xpreV (q0 := 1) hK hN hZ hA hS hP hD rfl rfl) rfl rfl hl.1 rfl (lv_room (Nat.le_of_ble_eq_true rfl)) d_GT_set_20 ⟨Nat.zero_le _, Nat.zero_le _⟩) hD hS hA (fun r_3 H locs hr_3 hP hD hS => ?_)
      subst hr_3
      have hw9 : wsG ad ck rf n (fbWr 1 n fr k b) a ar z pc pe pt pp pf ic ie ip iz ia st rt pb = wsG ad ck rf n (stF n fr k b) a ar z pc pe pt pp pf ic ie ip iz ia st rt pb := by rw [stF, if_pos hB]
      rw [hw9] at hP hD
      exact xreti (v := bI (0 ≤ k.toInt ∧ k.toInt + ((1 : Nat) : Int) ≤ (n : Int))) hx hb hr hlocks hK hP hD hS (bI_n) (bI_and hB) d_GT_set_23
    · skip
      have hB : ¬ isB b := fun h9 => c_2 ((p_255 c_1).mpr h9)
      refine lv_iconst (v := 0) hx hb d_GT_set_11 (by decide) ?_
      have hw9 : wsG ad ck rf n fr a ar z pc pe pt pp pf ic ie ip iz ia st rt pb = wsG ad ck rf n (stF n fr k b) a ar z pc pe pt pp pf ic ie ip iz ia st rt pb := by rw [stF, if_neg hB]
      rw [hw9] at hP hD
      exact xreti (v := 0) hx hb hr hlocks hK hP hD hS (rfl) (bI_0 (fun h9 => hB h9.1)) d_GT_set_12
set_option maxHeartbeats 4000000 in
set_option maxRecDepth 100000 in
theorem c_gt_put (l : Launch) (dC : Nat → ClassId) (dI : Nat → Nat → Nat) (ad : Nat → Nat) (ck : Nat → ClassId) (rf : Int32) (n : Nat) (fr : Nat → Int32) (a : Nat) (ar : Nat → Int32) (z : Nat → Nat) (pc : Nat) (pe : Int32) (pt pp : Nat) (pf : Nat → Nat → Int32) (ic : Nat) (ie ip iz ia : Int32) (st rt : Nat → Int32) (pb : Nat → Nat → Int32) (k kn w : Int32) (hn : n ≤ 65536) (sz : Nat) : Met l y_GT_put w_GT_put { frames := 2, cells := 0, slots := 0, locals := 50 } (va_Pc [.ref (ad 0), .int k, .int kn, .int w] (xP (dC, dI) (tyG ck) (wsG ad ck rf n fr a ar z pc pe pt pp pf ic ie ip iz ia st rt pb) sz)) (xQi (dC, dI) (tyG ck) (va_A (wsG ad ck rf n fr a ar z pc pe pt pp pf ic ie ip iz ia st rt pb) sz) (wsG ad ck rf n (ptF n fr k kn w) a ar z pc pe pt pp pf ic ie ip iz ia st rt pb) (fun r => r = bI (mOK kn ∧ 0 ≤ k.toInt ∧ k.toInt + ((tN kn : Nat) : Int) ≤ (n : Int)))) 0 0 (va_A (wsG ad ck rf n fr a ar z pc pe pt pp pf ic ie ip iz ia st rt pb) sz) := by
  refine xof (cc := b_GT_put) (maxL := 4) (ret := (some .boolean)) (own := R_GT) (Qc := fun A => (xQi (dC, dI) (tyG ck) A (wsG ad ck rf n (ptF n fr k kn w) a ar z pc pe pt pp pf ic ie ip iz ia st rt pb) (fun r => r = bI (mOK kn ∧ 0 ≤ k.toInt ∧ k.toInt + ((tN kn : Nat) : Int) ≤ (n : Int))))) (by decide) rfl rfl (Nat.le_of_ble_eq_true rfl) ?_ sz
  intro p e s m below meth c A C hnm hK hP hD hA hN hZ hS ls hl
  obtain ⟨hx, hb, hr, hml, hown, hts, hlocks⟩ := C
  have hl : lv_has ls 4 [(0, .ref (ad 0)), (1, .int k), (2, .int kn), (3, .int w)] := hl
  refine lv_iload_n hx hb d_GT_put_0 rfl (lv_at hl 2 rfl) ?_
  refine lv_iconst (v := 1) hx hb d_GT_put_1 (by decide) ?_
  refine lv_icmp_eq (tgt := 17) hx hb d_GT_put_2 (by decide) (fun c_1 => ?_) (fun c_1 => ?_)
  · skip
    rw [c_1] at hl
    have hM : mOK kn := Or.inl c_1
    refine lv_aload_n hx hb d_GT_put_17 rfl (lv_at hl 0 rfl) ?_
    refine va_get (D := (dC, dI)) (ci := 6) (v := .ref (ad 1)) (C := R_GT) (T := T_GT) (N := 5) hx hb hts i_GT hown hK hP 0 rfl rfl 0 (by decide) (hts _ wd_176) (fun _ h9 => h9) rfl d_GT_put_18 ?_
    refine lv_iload_n hx hb d_GT_put_21 rfl (lv_at hl 1 rfl) ?_
    refine lv_iload_n hx hb d_GT_put_22 rfl (lv_at hl 2 rfl) ?_
    refine lv_iload_n hx hb d_GT_put_23 rfl (lv_at hl 3 rfl) ?_
    refine xcalli (va_runV (As := [.int k, .int 1, .int w]) (rest := []) ⟨hx, hb, hml, hown, hts⟩ (c_fb_write1 l dC dI ad ck rf n fr a ar z pc pe pt pp pf ic ie ip iz ia st rt pb k w hn s.heap.size) (cwV 3 hts (xgV wd_216 wd_217 wd_218 wd_16 wd_219) rfl rfl rfl (by decide +kernel) ⟨Nat.le_of_ble_eq_true rfl, Nat.le_of_ble_eq_true rfl⟩) (xpreV (q0 := 1) hK hN hZ hA hS hP hD rfl rfl) rfl rfl hl.1 rfl (lv_room (Nat.le_of_ble_eq_true rfl)) d_GT_put_24 ⟨Nat.zero_le _, Nat.zero_le _⟩) hD hS hA (fun r_2 H locs hr_2 hP hD hS => ?_)
    subst hr_2
    have hw9 : wsG ad ck rf n (fbWr 1 n fr k w) a ar z pc pe pt pp pf ic ie ip iz ia st rt pb = wsG ad ck rf n (ptF n fr k kn w) a ar z pc pe pt pp pf ic ie ip iz ia st rt pb := by rw [ptF, if_pos hM, show tN kn = 1 from by rw [c_1]; rfl]
    rw [hw9] at hP hD
    exact xreti (v := bI (0 ≤ k.toInt ∧ k.toInt + ((1 : Nat) : Int) ≤ (n : Int))) hx hb hr hlocks hK hP hD hS (bI_n) (by rw [show tN kn = 1 from by rw [c_1]; rfl]; exact bI_and hM) d_GT_put_27
  · skip
    refine lv_iload_n hx hb d_GT_put_5 rfl (lv_at hl 2 rfl) ?_
    refine lv_iconst (v := 2) hx hb d_GT_put_6 (by decide) ?_
    refine lv_icmp_eq (tgt := 17) hx hb d_GT_put_7 (by decide) (fun c_3 => ?_) (fun c_3 => ?_)
    · skip
      rw [c_3] at hl
      have hM : mOK kn := Or.inr (Or.inl c_3)
      refine lv_aload_n hx hb d_GT_put_17 rfl (lv_at hl 0 rfl) ?_
      refine va_get (D := (dC, dI)) (ci := 6) (v := .ref (ad 1)) (C := R_GT) (T := T_GT) (N := 5) hx hb hts i_GT hown hK hP 0 rfl rfl 0 (by decide) (hts _ wd_176) (fun _ h9 => h9) rfl d_GT_put_18 ?_
      refine lv_iload_n hx hb d_GT_put_21 rfl (lv_at hl 1 rfl) ?_
      refine lv_iload_n hx hb d_GT_put_22 rfl (lv_at hl 2 rfl) ?_
      refine lv_iload_n hx hb d_GT_put_23 rfl (lv_at hl 3 rfl) ?_
      refine xcalli (va_runV (As := [.int k, .int 2, .int w]) (rest := []) ⟨hx, hb, hml, hown, hts⟩ (c_fb_write2 l dC dI ad ck rf n fr a ar z pc pe pt pp pf ic ie ip iz ia st rt pb k w hn s.heap.size) (cwV 3 hts (xgV wd_216 wd_217 wd_218 wd_16 wd_219) rfl rfl rfl (by decide +kernel) ⟨Nat.le_of_ble_eq_true rfl, Nat.le_of_ble_eq_true rfl⟩) (xpreV (q0 := 1) hK hN hZ hA hS hP hD rfl rfl) rfl rfl hl.1 rfl (lv_room (Nat.le_of_ble_eq_true rfl)) d_GT_put_24 ⟨Nat.zero_le _, Nat.zero_le _⟩) hD hS hA (fun r_4 H locs hr_4 hP hD hS => ?_)
      subst hr_4
      have hw9 : wsG ad ck rf n (fbWr 2 n fr k w) a ar z pc pe pt pp pf ic ie ip iz ia st rt pb = wsG ad ck rf n (ptF n fr k kn w) a ar z pc pe pt pp pf ic ie ip iz ia st rt pb := by rw [ptF, if_pos hM, show tN kn = 2 from by rw [c_3]; rfl]
      rw [hw9] at hP hD
      exact xreti (v := bI (0 ≤ k.toInt ∧ k.toInt + ((2 : Nat) : Int) ≤ (n : Int))) hx hb hr hlocks hK hP hD hS (bI_n) (by rw [show tN kn = 2 from by rw [c_3]; rfl]; exact bI_and hM) d_GT_put_27
    · skip
      refine lv_iload_n hx hb d_GT_put_10 rfl (lv_at hl 2 rfl) ?_
      refine lv_iconst (v := 4) hx hb d_GT_put_11 (by decide) ?_
      refine lv_icmp_eq (tgt := 17) hx hb d_GT_put_12 (by decide) (fun c_5 => ?_) (fun c_5 => ?_)
      · skip
        rw [c_5] at hl
        have hM : mOK kn := Or.inr (Or.inr c_5)
        refine lv_aload_n hx hb d_GT_put_17 rfl (lv_at hl 0 rfl) ?_
        refine va_get (D := (dC, dI)) (ci := 6) (v := .ref (ad 1)) (C := R_GT) (T := T_GT) (N := 5) hx hb hts i_GT hown hK hP 0 rfl rfl 0 (by decide) (hts _ wd_176) (fun _ h9 => h9) rfl d_GT_put_18 ?_
        refine lv_iload_n hx hb d_GT_put_21 rfl (lv_at hl 1 rfl) ?_
        refine lv_iload_n hx hb d_GT_put_22 rfl (lv_at hl 2 rfl) ?_
        refine lv_iload_n hx hb d_GT_put_23 rfl (lv_at hl 3 rfl) ?_
        refine xcalli (va_runV (As := [.int k, .int 4, .int w]) (rest := []) ⟨hx, hb, hml, hown, hts⟩ (c_fb_write4 l dC dI ad ck rf n fr a ar z pc pe pt pp pf ic ie ip iz ia st rt pb k w hn s.heap.size) (cwV 3 hts (xgV wd_216 wd_217 wd_218 wd_16 wd_219) rfl rfl rfl (by decide +kernel) ⟨Nat.le_of_ble_eq_true rfl, Nat.le_of_ble_eq_true rfl⟩) (xpreV (q0 := 1) hK hN hZ hA hS hP hD rfl rfl) rfl rfl hl.1 rfl (lv_room (Nat.le_of_ble_eq_true rfl)) d_GT_put_24 ⟨Nat.zero_le _, Nat.zero_le _⟩) hD hS hA (fun r_6 H locs hr_6 hP hD hS => ?_)
        subst hr_6
        have hw9 : wsG ad ck rf n (fbWr 4 n fr k w) a ar z pc pe pt pp pf ic ie ip iz ia st rt pb = wsG ad ck rf n (ptF n fr k kn w) a ar z pc pe pt pp pf ic ie ip iz ia st rt pb := by rw [ptF, if_pos hM, show tN kn = 4 from by rw [c_5]; rfl]
        rw [hw9] at hP hD
        exact xreti (v := bI (0 ≤ k.toInt ∧ k.toInt + ((4 : Nat) : Int) ≤ (n : Int))) hx hb hr hlocks hK hP hD hS (bI_n) (by rw [show tN kn = 4 from by rw [c_5]; rfl]; exact bI_and hM) d_GT_put_27
      · skip
        have hM : ¬ mOK kn := fun h9 => h9.elim c_1 (fun h9 => h9.elim c_3 c_5)
        refine lv_iconst (v := 0) hx hb d_GT_put_15 (by decide) ?_
        have hw9 : wsG ad ck rf n fr a ar z pc pe pt pp pf ic ie ip iz ia st rt pb = wsG ad ck rf n (ptF n fr k kn w) a ar z pc pe pt pp pf ic ie ip iz ia st rt pb := by rw [ptF, if_neg hM]
        rw [hw9] at hP hD
        exact xreti (v := 0) hx hb hr hlocks hK hP hD hS (rfl) (bI_0 (fun h9 => hM h9.1)) d_GT_put_16
set_option maxHeartbeats 4000000 in
set_option maxRecDepth 100000 in
theorem c_gt_length (l : Launch) (dC : Nat → ClassId) (dI : Nat → Nat → Nat) (ad : Nat → Nat) (ck : Nat → ClassId) (rf : Int32) (n : Nat) (fr : Nat → Int32) (a : Nat) (ar : Nat → Int32) (z : Nat → Nat) (pc : Nat) (pe : Int32) (pt pp : Nat) (pf : Nat → Nat → Int32) (ic : Nat) (ie ip iz ia : Int32) (st rt : Nat → Int32) (pb : Nat → Nat → Int32) (sz : Nat) : Met l y_GT_length w_GT_length { frames := 0, cells := 0, slots := 0, locals := 0 } (va_Pc [.ref (ad 0)] (xP (dC, dI) (tyG ck) (wsG ad ck rf n fr a ar z pc pe pt pp pf ic ie ip iz ia st rt pb) sz)) (xQi (dC, dI) (tyG ck) (va_A (wsG ad ck rf n fr a ar z pc pe pt pp pf ic ie ip iz ia st rt pb) sz) (wsG ad ck rf n fr a ar z pc pe pt pp pf ic ie ip iz ia st rt pb) (fun r => r = nI n)) 0 0 (va_A (wsG ad ck rf n fr a ar z pc pe pt pp pf ic ie ip iz ia st rt pb) sz) := by
  refine xof (cc := b_GT_length) (maxL := 1) (ret := (some .int)) (own := R_GT) (Qc := fun A => (xQi (dC, dI) (tyG ck) A (wsG ad ck rf n fr a ar z pc pe pt pp pf ic ie ip iz ia st rt pb) (fun r => r = nI n))) (by decide) rfl rfl (Nat.le_of_ble_eq_true rfl) ?_ sz
  intro p e s m below meth c A C hnm hK hP hD hA hN hZ hS ls hl
  obtain ⟨hx, hb, hr, hml, hown, hts, hlocks⟩ := C
  have hl : lv_has ls 1 [(0, .ref (ad 0))] := hl
  refine lv_aload_n hx hb d_GT_length_0 rfl (lv_at hl 0 rfl) ?_
  refine va_get (D := (dC, dI)) (ci := 6) (v := .ref (ad 1)) (C := R_GT) (T := T_GT) (N := 5) hx hb hts i_GT hown hK hP 0 rfl rfl 0 (by decide) (hts _ wd_176) (fun _ h9 => h9) rfl d_GT_length_1 ?_
  refine va_getN (D := (dC, dI)) (ci := 1) (v := .int (nI n)) (C := R_FB) (T := T_FB) (N := 2) hx hb hts i_FB hown hK hP 1 rfl rfl 1 (by decide) (hN.use wd_43) (fun _ h9 => h9) rfl d_GT_length_4 ?_
  exact xreti (v := nI n) hx hb hr hlocks hK hP hD hS (rfl) (rfl) d_GT_length_7
set_option maxHeartbeats 4000000 in
set_option maxRecDepth 100000 in
theorem c_gt_argument (l : Launch) (dC : Nat → ClassId) (dI : Nat → Nat → Nat) (ad : Nat → Nat) (ck : Nat → ClassId) (rf : Int32) (n : Nat) (fr : Nat → Int32) (a : Nat) (ar : Nat → Int32) (z : Nat → Nat) (pc : Nat) (pe : Int32) (pt pp : Nat) (pf : Nat → Nat → Int32) (ic : Nat) (ie ip iz ia : Int32) (st rt : Nat → Int32) (pb : Nat → Nat → Int32) (ha : a ≤ 32) (sz : Nat) : Met l y_GT_argument w_GT_argument { frames := 1, cells := 0, slots := 0, locals := 30 } (va_Pc [.ref (ad 0)] (xP (dC, dI) (tyG ck) (wsG ad ck rf n fr a ar z pc pe pt pp pf ic ie ip iz ia st rt pb) sz)) (xQi (dC, dI) (tyG ck) (va_A (wsG ad ck rf n fr a ar z pc pe pt pp pf ic ie ip iz ia st rt pb) sz) (wsG ad ck rf n fr (agN a) ar (agZ a z) pc pe pt pp pf ic ie ip iz ia st rt pb) (fun r => r = bI (a < 32))) 0 0 (va_A (wsG ad ck rf n fr a ar z pc pe pt pp pf ic ie ip iz ia st rt pb) sz) := by
  refine xof (cc := b_GT_argument) (maxL := 1) (ret := (some .boolean)) (own := R_GT) (Qc := fun A => (xQi (dC, dI) (tyG ck) A (wsG ad ck rf n fr (agN a) ar (agZ a z) pc pe pt pp pf ic ie ip iz ia st rt pb) (fun r => r = bI (a < 32)))) (by decide) rfl rfl (Nat.le_of_ble_eq_true rfl) ?_ sz
  intro p e s m below meth c A C hnm hK hP hD hA hN hZ hS ls hl
  obtain ⟨hx, hb, hr, hml, hown, hts, hlocks⟩ := C
  have hl : lv_has ls 1 [(0, .ref (ad 0))] := hl
  refine lv_aload_n hx hb d_GT_argument_0 rfl (lv_at hl 0 rfl) ?_
  refine va_get (D := (dC, dI)) (ci := 6) (v := .ref (ad 3)) (C := R_GT) (T := T_GT) (N := 5) hx hb hts i_GT hown hK hP 0 rfl rfl 1 (by decide) (hts _ wd_177) (fun _ h9 => h9) rfl d_GT_argument_1 ?_
  refine xcalli (va_runV (As := []) (rest := []) ⟨hx, hb, hml, hown, hts⟩ (c_ag_open l dC dI ad ck rf n fr a ar z pc pe pt pp pf ic ie ip iz ia st rt pb ha s.heap.size) (cwV 0 hts (xgV wd_236 wd_237 wd_238 wd_17 wd_239) rfl rfl rfl (by decide +kernel) ⟨Nat.le_of_ble_eq_true rfl, Nat.le_of_ble_eq_true rfl⟩) (xpreV (q0 := 3) hK hN hZ hA hS hP hD rfl rfl) rfl rfl hl.1 rfl (lv_room (Nat.le_of_ble_eq_true rfl)) d_GT_argument_4 ⟨Nat.zero_le _, Nat.zero_le _⟩) hD hS hA (fun r_1 H locs hr_1 hP hD hS => ?_)
  subst hr_1
  exact xreti (v := bI (a < 32)) hx hb hr hlocks hK hP hD hS (bI_n) (rfl) d_GT_argument_7
set_option maxHeartbeats 4000000 in
set_option maxRecDepth 100000 in
theorem c_gt_letters (l : Launch) (dC : Nat → ClassId) (dI : Nat → Nat → Nat) (ad : Nat → Nat) (ck : Nat → ClassId) (rf : Int32) (n : Nat) (fr : Nat → Int32) (a : Nat) (ar : Nat → Int32) (z : Nat → Nat) (pc : Nat) (pe : Int32) (pt pp : Nat) (pf : Nat → Nat → Int32) (ic : Nat) (ie ip iz ia : Int32) (st rt : Nat → Int32) (pb : Nat → Nat → Int32) (w : Int64) (ha : a ≤ 32) (hz : ∀ j, z j ≤ 127) (sz : Nat) : Met l y_GT_letters w_GT_letters { frames := 2, cells := 0, slots := 0, locals := 50 } (va_Pc [.ref (ad 0), .long w] (xP (dC, dI) (tyG ck) (wsG ad ck rf n fr a ar z pc pe pt pp pf ic ie ip iz ia st rt pb) sz)) (xQi (dC, dI) (tyG ck) (va_A (wsG ad ck rf n fr a ar z pc pe pt pp pf ic ie ip iz ia st rt pb) sz) (wsG ad ck rf n fr a (exFA a ar z w) (exFZ a z w) pc pe pt pp pf ic ie ip iz ia st rt pb) (fun r => r = bI (0 < a ∧ z (a - 1) + ltN w 8 ≤ 127))) 0 0 (va_A (wsG ad ck rf n fr a ar z pc pe pt pp pf ic ie ip iz ia st rt pb) sz) := by
  refine xof (cc := b_GT_letters) (maxL := 3) (ret := (some .boolean)) (own := R_GT) (Qc := fun A => (xQi (dC, dI) (tyG ck) A (wsG ad ck rf n fr a (exFA a ar z w) (exFZ a z w) pc pe pt pp pf ic ie ip iz ia st rt pb) (fun r => r = bI (0 < a ∧ z (a - 1) + ltN w 8 ≤ 127)))) (by decide) rfl rfl (Nat.le_of_ble_eq_true rfl) ?_ sz
  intro p e s m below meth c A C hnm hK hP hD hA hN hZ hS ls hl
  obtain ⟨hx, hb, hr, hml, hown, hts, hlocks⟩ := C
  have hl : lv_has ls 3 [(0, .ref (ad 0)), (1, .long w)] := hl
  refine lv_aload_n hx hb d_GT_letters_0 rfl (lv_at hl 0 rfl) ?_
  refine va_get (D := (dC, dI)) (ci := 6) (v := .ref (ad 3)) (C := R_GT) (T := T_GT) (N := 5) hx hb hts i_GT hown hK hP 0 rfl rfl 1 (by decide) (hts _ wd_177) (fun _ h9 => h9) rfl d_GT_letters_1 ?_
  refine lv_lload_n hx hb d_GT_letters_4 rfl (lv_at hl 1 rfl) ?_
  refine xcalli (va_runV (As := [.long w]) (rest := []) ⟨hx, hb, hml, hown, hts⟩ (c_ag_extend l dC dI ad ck rf n fr a ar z pc pe pt pp pf ic ie ip iz ia st rt pb w ha hz s.heap.size) (cwV 1 hts (xgV wd_244 wd_245 wd_246 wd_17 wd_247) rfl rfl rfl (by decide +kernel) ⟨Nat.le_of_ble_eq_true rfl, Nat.le_of_ble_eq_true rfl⟩) (xpreV (q0 := 3) hK hN hZ hA hS hP hD rfl rfl) rfl rfl hl.1 rfl (lv_room (Nat.le_of_ble_eq_true rfl)) d_GT_letters_5 ⟨Nat.zero_le _, Nat.zero_le _⟩) hD hS hA (fun r_1 H locs hr_1 hP hD hS => ?_)
  subst hr_1
  exact xreti (v := bI (0 < a ∧ z (a - 1) + ltN w 8 ≤ 127)) hx hb hr hlocks hK hP hD hS (bI_n) (rfl) d_GT_letters_8
set_option maxHeartbeats 4000000 in
set_option maxRecDepth 100000 in
theorem c_gt_forget (l : Launch) (dC : Nat → ClassId) (dI : Nat → Nat → Nat) (ad : Nat → Nat) (ck : Nat → ClassId) (rf : Int32) (n : Nat) (fr : Nat → Int32) (a : Nat) (ar : Nat → Int32) (z : Nat → Nat) (pc : Nat) (pe : Int32) (pt pp : Nat) (pf : Nat → Nat → Int32) (ic : Nat) (ie ip iz ia : Int32) (st rt : Nat → Int32) (pb : Nat → Nat → Int32) (sz : Nat) : Met l y_GT_forget w_GT_forget { frames := 0, cells := 0, slots := 0, locals := 0 } (va_Pc [.ref (ad 0)] (xP (dC, dI) (tyG ck) (wsG ad ck rf n fr a ar z pc pe pt pp pf ic ie ip iz ia st rt pb) sz)) (xQv (dC, dI) (tyG ck) (va_A (wsG ad ck rf n fr a ar z pc pe pt pp pf ic ie ip iz ia st rt pb) sz) (wsG ad ck rf n fr 0 ar z pc pe pt pp pf ic ie ip iz ia st rt pb)) 0 0 (va_A (wsG ad ck rf n fr a ar z pc pe pt pp pf ic ie ip iz ia st rt pb) sz) := by
  refine xof (cc := b_GT_forget) (maxL := 1) (ret := none) (own := R_GT) (Qc := fun A => (xQv (dC, dI) (tyG ck) A (wsG ad ck rf n fr 0 ar z pc pe pt pp pf ic ie ip iz ia st rt pb))) (by decide) rfl rfl (Nat.le_of_ble_eq_true rfl) ?_ sz
  intro p e s m below meth c A C hnm hK hP hD hA hN hZ hS ls hl
  obtain ⟨hx, hb, hr, hml, hown, hts, hlocks⟩ := C
  have hl : lv_has ls 1 [(0, .ref (ad 0))] := hl
  refine lv_aload_n hx hb d_GT_forget_0 rfl (lv_at hl 0 rfl) ?_
  refine va_get (D := (dC, dI)) (ci := 6) (v := .ref (ad 3)) (C := R_GT) (T := T_GT) (N := 5) hx hb hts i_GT hown hK hP 0 rfl rfl 1 (by decide) (hts _ wd_177) (fun _ h9 => h9) rfl d_GT_forget_1 ?_
  refine lv_iconst (v := 0) hx hb d_GT_forget_4 (by decide) ?_
  refine va_putN (D := (dC, dI)) (ci := 0) (v := .int 0) (ty := .int) (C := R_AG) (T := T_AG) (N := 3) hx hb hts i_AG t_AG k_AG n_AG hown hK hP hD hS 3 rfl rfl 2 (by decide) (hN.use wd_60) (fun _ h9 => h9) rfl (by decide +kernel) rfl rfl (Nat.le_of_ble_eq_true rfl) d_GT_forget_5 (fun H locs hP hD hS => ?_)
  have hP : va_P (dC, dI) vwCl (wsG ad ck rf n fr 0 ar z pc pe pt pp pf ic ie ip iz ia st rt pb) H := hP
  have hD : va_D A (wsG ad ck rf n fr 0 ar z pc pe pt pp pf ic ie ip iz ia st rt pb) := hD
  exact xretv hx hb hr hlocks hK hP hD hS d_GT_forget_8
set_option maxHeartbeats 4000000 in
set_option maxRecDepth 100000 in
theorem c_gt_why (l : Launch) (dC : Nat → ClassId) (dI : Nat → Nat → Nat) (ad : Nat → Nat) (ck : Nat → ClassId) (rf : Int32) (n : Nat) (fr : Nat → Int32) (a : Nat) (ar : Nat → Int32) (z : Nat → Nat) (pc : Nat) (pe : Int32) (pt pp : Nat) (pf : Nat → Nat → Int32) (ic : Nat) (ie ip iz ia : Int32) (st rt : Nat → Int32) (pb : Nat → Nat → Int32) (sz : Nat) : Met l y_GT_why w_GT_why { frames := 0, cells := 0, slots := 0, locals := 0 } (va_Pc [.ref (ad 0)] (xP (dC, dI) (tyG ck) (wsG ad ck rf n fr a ar z pc pe pt pp pf ic ie ip iz ia st rt pb) sz)) (xQi (dC, dI) (tyG ck) (va_A (wsG ad ck rf n fr a ar z pc pe pt pp pf ic ie ip iz ia st rt pb) sz) (wsG ad ck rf n fr a ar z pc pe pt pp pf ic ie ip iz ia st rt pb) (fun r => r = rf)) 0 0 (va_A (wsG ad ck rf n fr a ar z pc pe pt pp pf ic ie ip iz ia st rt pb) sz) := by
  refine xof (cc := b_GT_why) (maxL := 1) (ret := (some .int)) (own := R_GT) (Qc := fun A => (xQi (dC, dI) (tyG ck) A (wsG ad ck rf n fr a ar z pc pe pt pp pf ic ie ip iz ia st rt pb) (fun r => r = rf))) (by decide) rfl rfl (Nat.le_of_ble_eq_true rfl) ?_ sz
  intro p e s m below meth c A C hnm hK hP hD hA hN hZ hS ls hl
  obtain ⟨hx, hb, hr, hml, hown, hts, hlocks⟩ := C
  have hl : lv_has ls 1 [(0, .ref (ad 0))] := hl
  refine lv_aload_n hx hb d_GT_why_0 rfl (lv_at hl 0 rfl) ?_
  refine va_get (D := (dC, dI)) (ci := 6) (v := .int rf) (C := R_GT) (T := T_GT) (N := 5) hx hb hts i_GT hown hK hP 0 rfl rfl 4 (by decide) (hts _ wd_180) (fun _ h9 => h9) rfl d_GT_why_1 ?_
  exact xreti (v := rf) hx hb hr hlocks hK hP hD hS (rfl) (rfl) d_GT_why_4
set_option maxHeartbeats 4000000 in
set_option maxRecDepth 100000 in
theorem c_gt_about (l : Launch) (dC : Nat → ClassId) (dI : Nat → Nat → Nat) (ad : Nat → Nat) (ck : Nat → ClassId) (rf : Int32) (n : Nat) (fr : Nat → Int32) (a : Nat) (ar : Nat → Int32) (z : Nat → Nat) (pc : Nat) (pe : Int32) (pt pp : Nat) (pf : Nat → Nat → Int32) (ic : Nat) (ie ip iz ia : Int32) (st rt : Nat → Int32) (pb : Nat → Nat → Int32) (x : Int32) (sz : Nat) : Met l y_GT_about w_GT_about { frames := 0, cells := 0, slots := 0, locals := 0 } (va_Pc [.ref (ad 0), .int x] (xP (dC, dI) (tyG ck) (wsG ad ck rf n fr a ar z pc pe pt pp pf ic ie ip iz ia st rt pb) sz)) (xQi (dC, dI) (tyG ck) (va_A (wsG ad ck rf n fr a ar z pc pe pt pp pf ic ie ip iz ia st rt pb) sz) (wsG ad ck rf n fr a ar z pc pe pt pp pf ic ie ip iz ia st rt pb) (fun r => r = abO ie ip iz ia ic x)) 0 0 (va_A (wsG ad ck rf n fr a ar z pc pe pt pp pf ic ie ip iz ia st rt pb) sz) := by
  refine xof (cc := b_GT_about) (maxL := 2) (ret := (some .int)) (own := R_GT) (Qc := fun A => (xQi (dC, dI) (tyG ck) A (wsG ad ck rf n fr a ar z pc pe pt pp pf ic ie ip iz ia st rt pb) (fun r => r = abO ie ip iz ia ic x))) (by decide) rfl rfl (Nat.le_of_ble_eq_true rfl) ?_ sz
  intro p e s m below meth c A C hnm hK hP hD hA hN hZ hS ls hl
  obtain ⟨hx, hb, hr, hml, hown, hts, hlocks⟩ := C
  have hl : lv_has ls 2 [(0, .ref (ad 0)), (1, .int x)] := hl
  refine lv_iload_n hx hb d_GT_about_0 rfl (lv_at hl 1 rfl) ?_
  rcases sw5 x with h9 | h9 | h9 | h9 | h9 | h9
  · skip
    subst h9
    refine lv_tableIn (x := 0) (tgt := 36) hx hb d_GT_about_1 (by decide) (by decide) rfl (by decide) ?_
    refine lv_aload_n hx hb d_GT_about_36 rfl (lv_at hl 0 rfl) ?_
    refine va_get (D := (dC, dI)) (ci := 6) (v := .ref (ad 8)) (C := R_GT) (T := T_GT) (N := 5) hx hb hts i_GT hown hK hP 0 rfl rfl 3 (by decide) (hts _ wd_179) (fun _ h9 => h9) rfl d_GT_about_37 ?_
    refine va_getN (D := (dC, dI)) (ci := 2) (v := .int ie) (C := R_IM) (T := T_IM) (N := 6) hx hb hts i_IM hown hK hP 8 rfl rfl 2 (by decide) (hN.use wd_156) (fun _ h9 => h9) rfl d_GT_about_40 ?_
    exact xreti (v := ie) hx hb hr hlocks hK hP hD hS (rfl) (rfl) d_GT_about_43
  · skip
    subst h9
    refine lv_tableIn (x := 1) (tgt := 44) hx hb d_GT_about_1 (by decide) (by decide) rfl (by decide) ?_
    refine lv_aload_n hx hb d_GT_about_44 rfl (lv_at hl 0 rfl) ?_
    refine va_get (D := (dC, dI)) (ci := 6) (v := .ref (ad 8)) (C := R_GT) (T := T_GT) (N := 5) hx hb hts i_GT hown hK hP 0 rfl rfl 3 (by decide) (hts _ wd_179) (fun _ h9 => h9) rfl d_GT_about_45 ?_
    refine va_getN (D := (dC, dI)) (ci := 2) (v := .int ip) (C := R_IM) (T := T_IM) (N := 6) hx hb hts i_IM hown hK hP 8 rfl rfl 3 (by decide) (hN.use wd_158) (fun _ h9 => h9) rfl d_GT_about_48 ?_
    exact xreti (v := ip) hx hb hr hlocks hK hP hD hS (rfl) (rfl) d_GT_about_51
  · skip
    subst h9
    refine lv_tableIn (x := 2) (tgt := 52) hx hb d_GT_about_1 (by decide) (by decide) rfl (by decide) ?_
    refine lv_aload_n hx hb d_GT_about_52 rfl (lv_at hl 0 rfl) ?_
    refine va_get (D := (dC, dI)) (ci := 6) (v := .ref (ad 8)) (C := R_GT) (T := T_GT) (N := 5) hx hb hts i_GT hown hK hP 0 rfl rfl 3 (by decide) (hts _ wd_179) (fun _ h9 => h9) rfl d_GT_about_53 ?_
    refine va_getN (D := (dC, dI)) (ci := 2) (v := .int iz) (C := R_IM) (T := T_IM) (N := 6) hx hb hts i_IM hown hK hP 8 rfl rfl 4 (by decide) (hN.use wd_160) (fun _ h9 => h9) rfl d_GT_about_56 ?_
    exact xreti (v := iz) hx hb hr hlocks hK hP hD hS (rfl) (rfl) d_GT_about_59
  · skip
    subst h9
    refine lv_tableIn (x := 3) (tgt := 60) hx hb d_GT_about_1 (by decide) (by decide) rfl (by decide) ?_
    refine lv_aload_n hx hb d_GT_about_60 rfl (lv_at hl 0 rfl) ?_
    refine va_get (D := (dC, dI)) (ci := 6) (v := .ref (ad 8)) (C := R_GT) (T := T_GT) (N := 5) hx hb hts i_GT hown hK hP 0 rfl rfl 3 (by decide) (hts _ wd_179) (fun _ h9 => h9) rfl d_GT_about_61 ?_
    refine va_getN (D := (dC, dI)) (ci := 2) (v := .int ia) (C := R_IM) (T := T_IM) (N := 6) hx hb hts i_IM hown hK hP 8 rfl rfl 5 (by decide) (hN.use wd_162) (fun _ h9 => h9) rfl d_GT_about_64 ?_
    exact xreti (v := ia) hx hb hr hlocks hK hP hD hS (rfl) (rfl) d_GT_about_67
  · skip
    subst h9
    refine lv_tableIn (x := 4) (tgt := 68) hx hb d_GT_about_1 (by decide) (by decide) rfl (by decide) ?_
    refine lv_aload_n hx hb d_GT_about_68 rfl (lv_at hl 0 rfl) ?_
    refine va_get (D := (dC, dI)) (ci := 6) (v := .ref (ad 8)) (C := R_GT) (T := T_GT) (N := 5) hx hb hts i_GT hown hK hP 0 rfl rfl 3 (by decide) (hts _ wd_179) (fun _ h9 => h9) rfl d_GT_about_69 ?_
    refine va_getN (D := (dC, dI)) (ci := 2) (v := .int (nI ic)) (C := R_IM) (T := T_IM) (N := 6) hx hb hts i_IM hown hK hP 8 rfl rfl 1 (by decide) (hN.use wd_154) (fun _ h9 => h9) rfl d_GT_about_72 ?_
    exact xreti (v := nI ic) hx hb hr hlocks hK hP hD hS (rfl) (rfl) d_GT_about_75
  · skip
    refine lv_tableOut (tgt := 76) hx hb d_GT_about_1 h9 (by decide) ?_
    refine lv_iconst (v := (-1)) hx hb d_GT_about_76 (by decide) ?_
    exact xreti (v := (-1)) hx hb hr hlocks hK hP hD hS (rfl) (by rw [abO, if_neg (sw5d h9 (by decide)), if_neg (sw5d h9 (by decide)), if_neg (sw5d h9 (by decide)), if_neg (sw5d h9 (by decide)), if_neg (sw5d h9 (by decide))]) d_GT_about_77
set_option maxHeartbeats 4000000 in
set_option maxRecDepth 100000 in
theorem c_gt_at (l : Launch) (dC : Nat → ClassId) (dI : Nat → Nat → Nat) (ad : Nat → Nat) (ck : Nat → ClassId) (rf : Int32) (n : Nat) (fr : Nat → Int32) (a : Nat) (ar : Nat → Int32) (z : Nat → Nat) (pc : Nat) (pe : Int32) (pt pp : Nat) (pf : Nat → Nat → Int32) (ic : Nat) (ie ip iz ia : Int32) (st rt : Nat → Int32) (pb : Nat → Nat → Int32) (x : Int32) (hic : ic ≤ 32) (sz : Nat) : Met l y_GT_at w_GT_at { frames := 1, cells := 0, slots := 0, locals := 30 } (va_Pc [.ref (ad 0), .int x] (xP (dC, dI) (tyG ck) (wsG ad ck rf n fr a ar z pc pe pt pp pf ic ie ip iz ia st rt pb) sz)) (xQi (dC, dI) (tyG ck) (va_A (wsG ad ck rf n fr a ar z pc pe pt pp pf ic ie ip iz ia st rt pb) sz) (wsG ad ck rf n fr a ar z pc pe pt pp pf ic ie ip iz ia st rt pb) (fun r => r = atO st pb ic x)) 0 0 (va_A (wsG ad ck rf n fr a ar z pc pe pt pp pf ic ie ip iz ia st rt pb) sz) := by
  refine xof (cc := b_GT_at) (maxL := 3) (ret := (some .int)) (own := R_GT) (Qc := fun A => (xQi (dC, dI) (tyG ck) A (wsG ad ck rf n fr a ar z pc pe pt pp pf ic ie ip iz ia st rt pb) (fun r => r = atO st pb ic x))) (by decide) rfl rfl (Nat.le_of_ble_eq_true rfl) ?_ sz
  intro p e s m below meth c A C hnm hK hP hD hA hN hZ hS ls hl
  obtain ⟨hx, hb, hr, hml, hown, hts, hlocks⟩ := C
  have hl : lv_has ls 3 [(0, .ref (ad 0)), (1, .int x)] := hl
  refine lv_aload_n hx hb d_GT_at_0 rfl (lv_at hl 0 rfl) ?_
  refine va_get (D := (dC, dI)) (ci := 6) (v := .ref (ad 8)) (C := R_GT) (T := T_GT) (N := 5) hx hb hts i_GT hown hK hP 0 rfl rfl 3 (by decide) (hts _ wd_179) (fun _ h9 => h9) rfl d_GT_at_1 ?_
  refine lv_iload_n hx hb d_GT_at_4 rfl (lv_at hl 1 rfl) ?_
  refine xcallq (va_runV (As := [.int x]) (rest := []) ⟨hx, hb, hml, hown, hts⟩ (c_im_find l dC dI ad ck rf n fr a ar z pc pe pt pp pf ic ie ip iz ia st rt pb x hic s.heap.size) (cwV 1 hts (xgV wd_373 wd_374 wd_375 wd_20 wd_376) rfl rfl rfl (by decide +kernel) ⟨Nat.le_of_ble_eq_true rfl, Nat.le_of_ble_eq_true rfl⟩) (xpreV (q0 := 8) hK hN hZ hA hS hP hD rfl rfl) rfl rfl hl.1 rfl (lv_room (Nat.le_of_ble_eq_true rfl)) d_GT_at_5 ⟨Nat.zero_le _, Nat.zero_le _⟩) hD hS hA (fun r_1 H locs hr_1 hP hD hS => ?_)
  cases hfd : fdI st (x &&& (-4096)) ic 0 with
  | none =>
    have e9 : r_1 = none := by rw [hr_1, hfd]; rfl
    subst e9
    refine lv_astore_nN (lv' := [(2, .null), (0, .ref (ad 0)), (1, .int x)]) hx hb d_GT_at_8 rfl hl (by decide) rfl (fun ls hl => ?_)
    refine lv_aload_nN hx hb d_GT_at_9 rfl (lv_at hl 0 rfl) ?_
    refine lv_ifnonnullN hx hb d_GT_at_10 ?_
    refine lv_iconst (v := (-1)) hx hb d_GT_at_13 (by decide) ?_
    refine lv_goto (tgt := 27) hx hb d_GT_at_14 (by decide) ?_
    exact xreti (v := (-1)) hx hb hr hlocks hK hP hD hS (rfl) (by rw [atO, hfd]) d_GT_at_27
  | some j =>
    have e9 : r_1 = some (ad (j + 20)) := by rw [hr_1, hfd]; rfl
    have hj := fdI_lt ic 0 j hfd
    have hj : j < 32 := by omega
    subst e9
    refine lv_astore_n (lv' := [(2, .ref (ad (j + 20))), (0, .ref (ad 0)), (1, .int x)]) hx hb d_GT_at_8 rfl hl (by decide) rfl (fun ls hl => ?_)
    refine lv_aload_n hx hb d_GT_at_9 rfl (lv_at hl 0 rfl) ?_
    refine lv_ifnonnull (tgt := 17) hx hb d_GT_at_10 (by decide) ?_
    refine lv_aload_n hx hb d_GT_at_17 rfl (lv_at hl 0 rfl) ?_
    refine lv_iload_n hx hb d_GT_at_18 rfl (lv_at hl 2 rfl) ?_
    refine lv_aload_n hx hb d_GT_at_19 rfl (lv_at hl 0 rfl) ?_
    refine va_getN (D := (dC, dI)) (ci := 3) (v := .int (st j)) (C := R_PG) (T := T_PG) (N := 3) hx hb hts i_PG hown hK hP (j + 18) (wsG_page hj) rfl 1 (by decide) (hN.use wd_142) (fun _ h9 => h9) rfl d_GT_at_20 ?_
    refine lv_isub hx hb d_GT_at_23 ?_
    refine xcalli (va_runV (As := [.int (x - (st j))]) (rest := []) ⟨hx, hb, hml, hown, hts⟩ (c_pg_read l dC dI ad ck rf n fr a ar z pc pe pt pp pf ic ie ip iz ia st rt pb j (x - (st j)) hj H.size) (cwV 1 hts (xgV wd_377 wd_378 wd_379 wd_21 wd_380) rfl rfl rfl (by decide +kernel) ⟨Nat.le_of_ble_eq_true rfl, Nat.le_of_ble_eq_true rfl⟩) (xpreV (q0 := (j + 18)) hK hN hZ hA hS hP hD rfl (wsG_page hj)) rfl rfl hl.1 rfl (lv_room (Nat.le_of_ble_eq_true rfl)) d_GT_at_24 ⟨Nat.zero_le _, Nat.zero_le _⟩) hD hS hA (fun r_2 H locs hr_2 hP hD hS => ?_)
    subst hr_2
    exact xreti (v := rdB (pb j) (x - (st j))) hx hb hr hlocks hK hP hD hS (rfl) (by rw [atO, hfd]) d_GT_at_27
set_option maxHeartbeats 4000000 in
set_option maxRecDepth 100000 in
theorem c_gt_flags (l : Launch) (dC : Nat → ClassId) (dI : Nat → Nat → Nat) (ad : Nat → Nat) (ck : Nat → ClassId) (rf : Int32) (n : Nat) (fr : Nat → Int32) (a : Nat) (ar : Nat → Int32) (z : Nat → Nat) (pc : Nat) (pe : Int32) (pt pp : Nat) (pf : Nat → Nat → Int32) (ic : Nat) (ie ip iz ia : Int32) (st rt : Nat → Int32) (pb : Nat → Nat → Int32) (x : Int32) (hic : ic ≤ 32) (sz : Nat) : Met l y_GT_flags w_GT_flags { frames := 1, cells := 0, slots := 0, locals := 30 } (va_Pc [.ref (ad 0), .int x] (xP (dC, dI) (tyG ck) (wsG ad ck rf n fr a ar z pc pe pt pp pf ic ie ip iz ia st rt pb) sz)) (xQi (dC, dI) (tyG ck) (va_A (wsG ad ck rf n fr a ar z pc pe pt pp pf ic ie ip iz ia st rt pb) sz) (wsG ad ck rf n fr a ar z pc pe pt pp pf ic ie ip iz ia st rt pb) (fun r => r = flO st rt ic x)) 0 0 (va_A (wsG ad ck rf n fr a ar z pc pe pt pp pf ic ie ip iz ia st rt pb) sz) := by
  refine xof (cc := b_GT_flags) (maxL := 3) (ret := (some .int)) (own := R_GT) (Qc := fun A => (xQi (dC, dI) (tyG ck) A (wsG ad ck rf n fr a ar z pc pe pt pp pf ic ie ip iz ia st rt pb) (fun r => r = flO st rt ic x))) (by decide) rfl rfl (Nat.le_of_ble_eq_true rfl) ?_ sz
  intro p e s m below meth c A C hnm hK hP hD hA hN hZ hS ls hl
  obtain ⟨hx, hb, hr, hml, hown, hts, hlocks⟩ := C
  have hl : lv_has ls 3 [(0, .ref (ad 0)), (1, .int x)] := hl
  refine lv_aload_n hx hb d_GT_flags_0 rfl (lv_at hl 0 rfl) ?_
  refine va_get (D := (dC, dI)) (ci := 6) (v := .ref (ad 8)) (C := R_GT) (T := T_GT) (N := 5) hx hb hts i_GT hown hK hP 0 rfl rfl 3 (by decide) (hts _ wd_179) (fun _ h9 => h9) rfl d_GT_flags_1 ?_
  refine lv_iload_n hx hb d_GT_flags_4 rfl (lv_at hl 1 rfl) ?_
  refine xcallq (va_runV (As := [.int x]) (rest := []) ⟨hx, hb, hml, hown, hts⟩ (c_im_find l dC dI ad ck rf n fr a ar z pc pe pt pp pf ic ie ip iz ia st rt pb x hic s.heap.size) (cwV 1 hts (xgV wd_373 wd_374 wd_375 wd_20 wd_376) rfl rfl rfl (by decide +kernel) ⟨Nat.le_of_ble_eq_true rfl, Nat.le_of_ble_eq_true rfl⟩) (xpreV (q0 := 8) hK hN hZ hA hS hP hD rfl rfl) rfl rfl hl.1 rfl (lv_room (Nat.le_of_ble_eq_true rfl)) d_GT_flags_5 ⟨Nat.zero_le _, Nat.zero_le _⟩) hD hS hA (fun r_1 H locs hr_1 hP hD hS => ?_)
  cases hfd : fdI st (x &&& (-4096)) ic 0 with
  | none =>
    have e9 : r_1 = none := by rw [hr_1, hfd]; rfl
    subst e9
    refine lv_astore_nN (lv' := [(2, .null), (0, .ref (ad 0)), (1, .int x)]) hx hb d_GT_flags_8 rfl hl (by decide) rfl (fun ls hl => ?_)
    refine lv_aload_nN hx hb d_GT_flags_9 rfl (lv_at hl 0 rfl) ?_
    refine lv_ifnonnullN hx hb d_GT_flags_10 ?_
    refine lv_iconst (v := (-1)) hx hb d_GT_flags_13 (by decide) ?_
    refine lv_goto (tgt := 21) hx hb d_GT_flags_14 (by decide) ?_
    exact xreti (v := (-1)) hx hb hr hlocks hK hP hD hS (rfl) (by rw [flO, hfd]) d_GT_flags_21
  | some j =>
    have e9 : r_1 = some (ad (j + 20)) := by rw [hr_1, hfd]; rfl
    have hj := fdI_lt ic 0 j hfd
    have hj : j < 32 := by omega
    subst e9
    refine lv_astore_n (lv' := [(2, .ref (ad (j + 20))), (0, .ref (ad 0)), (1, .int x)]) hx hb d_GT_flags_8 rfl hl (by decide) rfl (fun ls hl => ?_)
    refine lv_aload_n hx hb d_GT_flags_9 rfl (lv_at hl 0 rfl) ?_
    refine lv_ifnonnull (tgt := 17) hx hb d_GT_flags_10 (by decide) ?_
    refine lv_aload_n hx hb d_GT_flags_17 rfl (lv_at hl 0 rfl) ?_
    refine va_getN (D := (dC, dI)) (ci := 3) (v := .int (rt j)) (C := R_PG) (T := T_PG) (N := 3) hx hb hts i_PG hown hK hP (j + 18) (wsG_page hj) rfl 2 (by decide) (hN.use wd_144) (fun _ h9 => h9) rfl d_GT_flags_18 ?_
    exact xreti (v := rt j) hx hb hr hlocks hK hP hD hS (rfl) (by rw [flO, hfd]) d_GT_flags_21
set_option maxHeartbeats 4000000 in
set_option maxRecDepth 100000 in
theorem c_gt_judge (l : Launch) (dC : Nat → ClassId) (dI : Nat → Nat → Nat) (ad : Nat → Nat) (ck : Nat → ClassId) (rf : Int32) (n : Nat) (fr : Nat → Int32) (a : Nat) (ar : Nat → Int32) (z : Nat → Nat) (pc : Nat) (pe : Int32) (pt pp : Nat) (pf : Nat → Nat → Int32) (ic : Nat) (ie ip iz ia : Int32) (st rt : Nat → Int32) (pb : Nat → Nat → Int32) (room : Nat) (hroom : room ≤ 32) (ha : a ≤ 32) (hz : ∀ j, z j ≤ 127) (hn : n ≤ 65536) (sz : Nat) : Met l y_GT_judge w_GT_judge { frames := 5, cells := 0, slots := 0, locals := 140 } (va_Pc [.ref (ad 0), .int (nI room)] (xP (dC, dI) (tyG ck) (wsG ad ck rf n fr a ar z pc pe pt pp pf ic ie ip iz ia st rt pb) sz)) (xQi (dC, dI) (tyG ck) (va_A (wsG ad ck rf n fr a ar z pc pe pt pp pf ic ie ip iz ia st rt pb) sz) (wsG ad ck rf n fr a ar z ((jdP n fr pe (pc, pt, pp, pf)).2.1) ((jdP n fr pe (pc, pt, pp, pf)).1) ((jdP n fr pe (pc, pt, pp, pf)).2.2.1) ((jdP n fr pe (pc, pt, pp, pf)).2.2.2.1) ((jdP n fr pe (pc, pt, pp, pf)).2.2.2.2) ic ie ip iz ia st rt pb) (fun r => r = nI (jdC n fr a z pf room))) 0 0 (va_A (wsG ad ck rf n fr a ar z pc pe pt pp pf ic ie ip iz ia st rt pb) sz) := by
  refine xof (cc := b_GT_judge) (maxL := 2) (ret := (some .int)) (own := R_GT) (Qc := fun A => (xQi (dC, dI) (tyG ck) A (wsG ad ck rf n fr a ar z ((jdP n fr pe (pc, pt, pp, pf)).2.1) ((jdP n fr pe (pc, pt, pp, pf)).1) ((jdP n fr pe (pc, pt, pp, pf)).2.2.1) ((jdP n fr pe (pc, pt, pp, pf)).2.2.2.1) ((jdP n fr pe (pc, pt, pp, pf)).2.2.2.2) ic ie ip iz ia st rt pb) (fun r => r = nI (jdC n fr a z pf room)))) (by decide) rfl rfl (Nat.le_of_ble_eq_true rfl) ?_ sz
  intro p e s m below meth c A C hnm hK hP hD hA hN hZ hS ls hl
  obtain ⟨hx, hb, hr, hml, hown, hts, hlocks⟩ := C
  have hl : lv_has ls 2 [(0, .ref (ad 0)), (1, .int (nI room))] := hl
  refine lv_aload_n hx hb d_GT_judge_0 rfl (lv_at hl 0 rfl) ?_
  refine va_get (D := (dC, dI)) (ci := 6) (v := .ref (ad 6)) (C := R_GT) (T := T_GT) (N := 5) hx hb hts i_GT hown hK hP 0 rfl rfl 2 (by decide) (hts _ wd_178) (fun _ h9 => h9) rfl d_GT_judge_1 ?_
  refine lv_aload_n hx hb d_GT_judge_4 rfl (lv_at hl 0 rfl) ?_
  refine va_get (D := (dC, dI)) (ci := 6) (v := .ref (ad 1)) (C := R_GT) (T := T_GT) (N := 5) hx hb hts i_GT hown hK hP 0 rfl rfl 0 (by decide) (hts _ wd_176) (fun _ h9 => h9) rfl d_GT_judge_5 ?_
  refine xcalli (va_runV (As := [.ref (ad 1)]) (rest := []) ⟨hx, hb, hml, hown, hts⟩ (c_pl_beginsAsImage l dC dI ad ck rf n fr a ar z pc pe pt pp pf ic ie ip iz ia st rt pb hn s.heap.size) (cwV 1 hts (xgV wd_269 wd_270 wd_271 wd_18 wd_272) rfl rfl rfl (by decide +kernel) ⟨Nat.le_of_ble_eq_true rfl, Nat.le_of_ble_eq_true rfl⟩) (xpreV (q0 := 6) hK hN hZ hA hS hP hD rfl rfl) rfl rfl hl.1 rfl (lv_room (Nat.le_of_ble_eq_true rfl)) d_GT_judge_8 ⟨Nat.zero_le _, Nat.zero_le _⟩) hD hS hA (fun r_1 H locs hr_1 hP hD hS => ?_)
  subst hr_1
  refine lv_if_ne (tgt := 16) hx hb d_GT_judge_11 (by decide) (fun c_2 => ?_) (fun c_2 => ?_)
  · skip
    have c_2 := bI_t c_2
    have h52 := c_2.1
    refine lv_aload_n hx hb d_GT_judge_16 rfl (lv_at hl 0 rfl) ?_
    refine va_get (D := (dC, dI)) (ci := 6) (v := .ref (ad 6)) (C := R_GT) (T := T_GT) (N := 5) hx hb hts i_GT hown hK hP 0 rfl rfl 2 (by decide) (hts _ wd_178) (fun _ h9 => h9) rfl d_GT_judge_17 ?_
    refine lv_aload_n hx hb d_GT_judge_20 rfl (lv_at hl 0 rfl) ?_
    refine va_get (D := (dC, dI)) (ci := 6) (v := .ref (ad 1)) (C := R_GT) (T := T_GT) (N := 5) hx hb hts i_GT hown hK hP 0 rfl rfl 0 (by decide) (hts _ wd_176) (fun _ h9 => h9) rfl d_GT_judge_21 ?_
    refine xcalli (va_runV (As := [.ref (ad 1)]) (rest := []) ⟨hx, hb, hml, hown, hts⟩ (c_pl_isOfOurKind l dC dI ad ck rf n fr a ar z pc pe pt pp pf ic ie ip iz ia st rt pb h52 hn H.size) (cwV 1 hts (xgV wd_281 wd_282 wd_283 wd_18 wd_284) rfl rfl rfl (by decide +kernel) ⟨Nat.le_of_ble_eq_true rfl, Nat.le_of_ble_eq_true rfl⟩) (xpreV (q0 := 6) hK hN hZ hA hS hP hD rfl rfl) rfl rfl hl.1 rfl (lv_room (Nat.le_of_ble_eq_true rfl)) d_GT_judge_24 ⟨Nat.zero_le _, Nat.zero_le _⟩) hD hS hA (fun r_3 H locs hr_3 hP hD hS => ?_)
    subst hr_3
    refine lv_if_ne (tgt := 32) hx hb d_GT_judge_27 (by decide) (fun c_4 => ?_) (fun c_4 => ?_)
    · skip
      have c_4 := bI_t c_4
      have hk8 : nbN fr 44 2 ≤ 8 := c_4.2.2.2.2
      refine lv_aload_n hx hb d_GT_judge_32 rfl (lv_at hl 0 rfl) ?_
      refine va_get (D := (dC, dI)) (ci := 6) (v := .ref (ad 6)) (C := R_GT) (T := T_GT) (N := 5) hx hb hts i_GT hown hK hP 0 rfl rfl 2 (by decide) (hts _ wd_178) (fun _ h9 => h9) rfl d_GT_judge_33 ?_
      refine lv_aload_n hx hb d_GT_judge_36 rfl (lv_at hl 0 rfl) ?_
      refine va_get (D := (dC, dI)) (ci := 6) (v := .ref (ad 1)) (C := R_GT) (T := T_GT) (N := 5) hx hb hts i_GT hown hK hP 0 rfl rfl 0 (by decide) (hts _ wd_176) (fun _ h9 => h9) rfl d_GT_judge_37 ?_
      refine xcalli (va_runV (As := [.ref (ad 1)]) (rest := []) ⟨hx, hb, hml, hown, hts⟩ (c_pl_hasAllHeaders l dC dI ad ck rf n fr a ar z pc pe pt pp pf ic ie ip iz ia st rt pb hk8 h52 hn H.size) (cwV 1 hts (xgV wd_288 wd_289 wd_290 wd_18 wd_291) rfl rfl rfl (by decide +kernel) ⟨Nat.le_of_ble_eq_true rfl, Nat.le_of_ble_eq_true rfl⟩) (xpreV (q0 := 6) hK hN hZ hA hS hP hD rfl rfl) rfl rfl hl.1 rfl (lv_room (Nat.le_of_ble_eq_true rfl)) d_GT_judge_40 ⟨Nat.zero_le _, Nat.zero_le _⟩) hD hS hA (fun r_5 H locs hr_5 hP hD hS => ?_)
      subst hr_5
      refine lv_if_ne (tgt := 48) hx hb d_GT_judge_43 (by decide) (fun c_6 => ?_) (fun c_6 => ?_)
      · skip
        have c_6 := bI_t c_6
        have hin := c_6
        refine lv_aload_n hx hb d_GT_judge_48 rfl (lv_at hl 0 rfl) ?_
        refine va_get (D := (dC, dI)) (ci := 6) (v := .ref (ad 6)) (C := R_GT) (T := T_GT) (N := 5) hx hb hts i_GT hown hK hP 0 rfl rfl 2 (by decide) (hts _ wd_178) (fun _ h9 => h9) rfl d_GT_judge_49 ?_
        refine lv_aload_n hx hb d_GT_judge_52 rfl (lv_at hl 0 rfl) ?_
        refine va_get (D := (dC, dI)) (ci := 6) (v := .ref (ad 1)) (C := R_GT) (T := T_GT) (N := 5) hx hb hts i_GT hown hK hP 0 rfl rfl 0 (by decide) (hts _ wd_176) (fun _ h9 => h9) rfl d_GT_judge_53 ?_
        refine xcalli (va_runV (As := [.ref (ad 1)]) (rest := []) ⟨hx, hb, hml, hown, hts⟩ (c_pl_readParts l dC dI ad ck rf n fr a ar z pc pe pt pp pf ic ie ip iz ia st rt pb hin hk8 h52 hn H.size) (cwV 1 hts (xgV wd_298 wd_299 wd_300 wd_18 wd_301) rfl rfl rfl (by decide +kernel) ⟨Nat.le_of_ble_eq_true rfl, Nat.le_of_ble_eq_true rfl⟩) (xpreV (q0 := 6) hK hN hZ hA hS hP hD rfl rfl) rfl rfl hl.1 rfl (lv_room (Nat.le_of_ble_eq_true rfl)) d_GT_judge_56 ⟨Nat.zero_le _, Nat.zero_le _⟩) hD hS hA (fun r_7 H locs hr_7 hP hD hS => ?_)
        subst hr_7
        refine lv_if_ne (tgt := 64) hx hb d_GT_judge_59 (by decide) (fun c_8 => ?_) (fun c_8 => ?_)
        · skip
          have c_8 := bI_t c_8
          have hinv := plAll_inv fr n pf; have hi1 := hinv.1; have hi2 := hinv.2; have hi3 := p_ppb hi1 hi2
          refine lv_aload_n hx hb d_GT_judge_64 rfl (lv_at hl 0 rfl) ?_
          refine va_get (D := (dC, dI)) (ci := 6) (v := .ref (ad 6)) (C := R_GT) (T := T_GT) (N := 5) hx hb hts i_GT hown hK hP 0 rfl rfl 2 (by decide) (hts _ wd_178) (fun _ h9 => h9) rfl d_GT_judge_65 ?_
          refine va_getN (D := (dC, dI)) (ci := 5) (v := .int (nI ((plAll fr n pf).2.2.2.1))) (C := R_PL) (T := T_PL) (N := 5) hx hb hts i_PL hown hK hP 6 rfl rfl 4 (by decide) (hN.use wd_112) (fun _ h9 => h9) rfl d_GT_judge_68 ?_
          refine lv_iload_n hx hb d_GT_judge_71 rfl (lv_at hl 1 rfl) ?_
          refine lv_icmp_le (tgt := 77) hx hb d_GT_judge_72 (by decide) (fun c_9 => ?_) (fun c_9 => ?_)
          · skip
            have c_9 : (plAll fr n pf).2.2.2.1 ≤ room := (nI_leI (a := (plAll fr n pf).2.2.2.1) (b := room) (by omega) (by omega)).mp c_9
            refine lv_aload_n hx hb d_GT_judge_77 rfl (lv_at hl 0 rfl) ?_
            refine va_get (D := (dC, dI)) (ci := 6) (v := .ref (ad 3)) (C := R_GT) (T := T_GT) (N := 5) hx hb hts i_GT hown hK hP 0 rfl rfl 1 (by decide) (hts _ wd_177) (fun _ h9 => h9) rfl d_GT_judge_78 ?_
            refine xcalli (va_runV (As := []) (rest := []) ⟨hx, hb, hml, hown, hts⟩ (c_ag_stackPointer l dC dI ad ck rf n fr a ar z ((plAll fr n pf).2.1) (nI (nbN fr 24 4)) ((plAll fr n pf).2.2.1) ((plAll fr n pf).2.2.2.1) ((plAll fr n pf).2.2.2.2) ic ie ip iz ia st rt pb ha hz H.size) (cwV 0 hts (xgV wd_311 wd_312 wd_313 wd_17 wd_314) rfl rfl rfl (by decide +kernel) ⟨Nat.le_of_ble_eq_true rfl, Nat.le_of_ble_eq_true rfl⟩) (xpreV (q0 := 3) hK hN hZ hA hS hP hD rfl rfl) rfl rfl hl.1 rfl (lv_room (Nat.le_of_ble_eq_true rfl)) d_GT_judge_81 ⟨Nat.zero_le _, Nat.zero_le _⟩) hD hS hA (fun r_10 H locs hr_10 hP hD hS => ?_)
            subst hr_10
            refine lv_if_ge (tgt := 92) hx hb d_GT_judge_84 (by decide) (fun c_11 => ?_) (fun c_11 => ?_)
            · skip
              refine lv_iconst (v := 0) hx hb d_GT_judge_92 (by decide) ?_
              have hw9 : wsG ad ck rf n fr a ar z ((plAll fr n pf).2.1) (nI (nbN fr 24 4)) ((plAll fr n pf).2.2.1) ((plAll fr n pf).2.2.2.1) ((plAll fr n pf).2.2.2.2) ic ie ip iz ia st rt pb = wsG ad ck rf n fr a ar z ((jdP n fr pe (pc, pt, pp, pf)).2.1) ((jdP n fr pe (pc, pt, pp, pf)).1) ((jdP n fr pe (pc, pt, pp, pf)).2.2.1) ((jdP n fr pe (pc, pt, pp, pf)).2.2.2.1) ((jdP n fr pe (pc, pt, pp, pf)).2.2.2.2) ic ie ip iz ia st rt pb := by rw [jdP, if_pos (show rch n fr from ⟨c_2, c_4, c_6⟩)]
              rw [hw9] at hP hD
              exact xreti (v := 0) hx hb hr hlocks hK hP hD hS (rfl) (by rw [jdC, if_neg (not_not_intro c_2), if_neg (not_not_intro c_4), if_neg (not_not_intro c_6), if_neg (not_not_intro c_8), if_neg (not_not_intro c_9), if_neg (not_not_intro c_11)]; rfl) d_GT_judge_93
            · skip
              refine lv_bipush (v := 6) hx hb d_GT_judge_87 (by decide) ?_
              refine lv_goto (tgt := 93) hx hb d_GT_judge_89 (by decide) ?_
              have hw9 : wsG ad ck rf n fr a ar z ((plAll fr n pf).2.1) (nI (nbN fr 24 4)) ((plAll fr n pf).2.2.1) ((plAll fr n pf).2.2.2.1) ((plAll fr n pf).2.2.2.2) ic ie ip iz ia st rt pb = wsG ad ck rf n fr a ar z ((jdP n fr pe (pc, pt, pp, pf)).2.1) ((jdP n fr pe (pc, pt, pp, pf)).1) ((jdP n fr pe (pc, pt, pp, pf)).2.2.1) ((jdP n fr pe (pc, pt, pp, pf)).2.2.2.1) ((jdP n fr pe (pc, pt, pp, pf)).2.2.2.2) ic ie ip iz ia st rt pb := by rw [jdP, if_pos (show rch n fr from ⟨c_2, c_4, c_6⟩)]
              rw [hw9] at hP hD
              exact xreti (v := 6) hx hb hr hlocks hK hP hD hS (rfl) (by rw [jdC, if_neg (not_not_intro c_2), if_neg (not_not_intro c_4), if_neg (not_not_intro c_6), if_neg (not_not_intro c_8), if_neg (not_not_intro c_9), if_pos c_11]; rfl) d_GT_judge_93
          · skip
            have c_9 : ¬ ((plAll fr n pf).2.2.2.1 ≤ room) := fun h9 => c_9 ((nI_leI (a := (plAll fr n pf).2.2.2.1) (b := room) (by omega) (by omega)).mpr h9)
            refine lv_iconst (v := 5) hx hb d_GT_judge_75 (by decide) ?_
            have hw9 : wsG ad ck rf n fr a ar z ((plAll fr n pf).2.1) (nI (nbN fr 24 4)) ((plAll fr n pf).2.2.1) ((plAll fr n pf).2.2.2.1) ((plAll fr n pf).2.2.2.2) ic ie ip iz ia st rt pb = wsG ad ck rf n fr a ar z ((jdP n fr pe (pc, pt, pp, pf)).2.1) ((jdP n fr pe (pc, pt, pp, pf)).1) ((jdP n fr pe (pc, pt, pp, pf)).2.2.1) ((jdP n fr pe (pc, pt, pp, pf)).2.2.2.1) ((jdP n fr pe (pc, pt, pp, pf)).2.2.2.2) ic ie ip iz ia st rt pb := by rw [jdP, if_pos (show rch n fr from ⟨c_2, c_4, c_6⟩)]
            rw [hw9] at hP hD
            exact xreti (v := 5) hx hb hr hlocks hK hP hD hS (rfl) (by rw [jdC, if_neg (not_not_intro c_2), if_neg (not_not_intro c_4), if_neg (not_not_intro c_6), if_neg (not_not_intro c_8), if_pos c_9]; rfl) d_GT_judge_76
        · skip
          have c_8 := bI_f c_8
          refine lv_iconst (v := 4) hx hb d_GT_judge_62 (by decide) ?_
          have hw9 : wsG ad ck rf n fr a ar z ((plAll fr n pf).2.1) (nI (nbN fr 24 4)) ((plAll fr n pf).2.2.1) ((plAll fr n pf).2.2.2.1) ((plAll fr n pf).2.2.2.2) ic ie ip iz ia st rt pb = wsG ad ck rf n fr a ar z ((jdP n fr pe (pc, pt, pp, pf)).2.1) ((jdP n fr pe (pc, pt, pp, pf)).1) ((jdP n fr pe (pc, pt, pp, pf)).2.2.1) ((jdP n fr pe (pc, pt, pp, pf)).2.2.2.1) ((jdP n fr pe (pc, pt, pp, pf)).2.2.2.2) ic ie ip iz ia st rt pb := by rw [jdP, if_pos (show rch n fr from ⟨c_2, c_4, c_6⟩)]
          rw [hw9] at hP hD
          exact xreti (v := 4) hx hb hr hlocks hK hP hD hS (rfl) (by rw [jdC, if_neg (not_not_intro c_2), if_neg (not_not_intro c_4), if_neg (not_not_intro c_6), if_pos c_8]; rfl) d_GT_judge_63
      · skip
        have c_6 := bI_f c_6
        refine lv_iconst (v := 3) hx hb d_GT_judge_46 (by decide) ?_
        have hw9 : wsG ad ck rf n fr a ar z pc pe pt pp pf ic ie ip iz ia st rt pb = wsG ad ck rf n fr a ar z ((jdP n fr pe (pc, pt, pp, pf)).2.1) ((jdP n fr pe (pc, pt, pp, pf)).1) ((jdP n fr pe (pc, pt, pp, pf)).2.2.1) ((jdP n fr pe (pc, pt, pp, pf)).2.2.2.1) ((jdP n fr pe (pc, pt, pp, pf)).2.2.2.2) ic ie ip iz ia st rt pb := by rw [jdP, if_neg (fun h9 : rch n fr => c_6 h9.2.2)]
        rw [hw9] at hP hD
        exact xreti (v := 3) hx hb hr hlocks hK hP hD hS (rfl) (by rw [jdC, if_neg (not_not_intro c_2), if_neg (not_not_intro c_4), if_pos c_6]; rfl) d_GT_judge_47
    · skip
      have c_4 := bI_f c_4
      refine lv_iconst (v := 2) hx hb d_GT_judge_30 (by decide) ?_
      have hw9 : wsG ad ck rf n fr a ar z pc pe pt pp pf ic ie ip iz ia st rt pb = wsG ad ck rf n fr a ar z ((jdP n fr pe (pc, pt, pp, pf)).2.1) ((jdP n fr pe (pc, pt, pp, pf)).1) ((jdP n fr pe (pc, pt, pp, pf)).2.2.1) ((jdP n fr pe (pc, pt, pp, pf)).2.2.2.1) ((jdP n fr pe (pc, pt, pp, pf)).2.2.2.2) ic ie ip iz ia st rt pb := by rw [jdP, if_neg (fun h9 : rch n fr => c_4 h9.2.1)]
      rw [hw9] at hP hD
      exact xreti (v := 2) hx hb hr hlocks hK hP hD hS (rfl) (by rw [jdC, if_neg (not_not_intro c_2), if_pos c_4]; rfl) d_GT_judge_31
  · skip
    have c_2 := bI_f c_2
    refine lv_iconst (v := 1) hx hb d_GT_judge_14 (by decide) ?_
    have hw9 : wsG ad ck rf n fr a ar z pc pe pt pp pf ic ie ip iz ia st rt pb = wsG ad ck rf n fr a ar z ((jdP n fr pe (pc, pt, pp, pf)).2.1) ((jdP n fr pe (pc, pt, pp, pf)).1) ((jdP n fr pe (pc, pt, pp, pf)).2.2.1) ((jdP n fr pe (pc, pt, pp, pf)).2.2.2.1) ((jdP n fr pe (pc, pt, pp, pf)).2.2.2.2) ic ie ip iz ia st rt pb := by rw [jdP, if_neg (fun h9 : rch n fr => c_2 h9.1)]
    rw [hw9] at hP hD
    exact xreti (v := 1) hx hb hr hlocks hK hP hD hS (rfl) (by rw [jdC, if_pos c_2]; rfl) d_GT_judge_15
