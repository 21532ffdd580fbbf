theorem law_z {s : State} {b : Nat} (hl : (Cond.laysStatic "ImageGate" "FIRST_BYTES" "[B").before #[Value.ref b] s = true) (hini : (Cond.initialized "ImageGate").before #[Value.ref b] s = true) (hgv : (Jvm.Cond.and given_1 narrow_1).before #[Value.ref b] s = true) : xZ (fun q : Nat => s.heap.size ≤ q) s s.heap := by
  have hs := flat_of_before _ hgv
  have hA : ∀ a : Nat, a < s.heap.size → ¬ (fun q : Nat => s.heap.size ≤ q) a := fun a h => Nat.not_le.mpr h
  obtain ⟨t, ht, hT⟩ := va_Tof (args := #[Value.ref b]) (s := s) (tm := .static "ImageGate" "FIRST_BYTES" "[B") (ty := .byte) (N := 7) (f := fun j => .int (fb7 j)) (A := fun q : Nat => s.heap.size ≤ q) (by decide) (hs _ (by decide +kernel)) (va_eqt (hs _ (by decide +kernel))) (fun j hj => by
    rcases (show j = 0 ∨ j = 1 ∨ j = 2 ∨ j = 3 ∨ j = 4 ∨ j = 5 ∨ j = 6 from by omega) with rfl | rfl | rfl | rfl | rfl | rfl | rfl
    · exact va_eqt (hs (.eq (.elem (.static "ImageGate" "FIRST_BYTES" "[B") (.int 0)) (.int 127)) (by decide +kernel))
    · exact va_eqt (hs (.eq (.elem (.static "ImageGate" "FIRST_BYTES" "[B") (.int 1)) (.int 69)) (by decide +kernel))
    · exact va_eqt (hs (.eq (.elem (.static "ImageGate" "FIRST_BYTES" "[B") (.int 2)) (.int 76)) (by decide +kernel))
    · exact va_eqt (hs (.eq (.elem (.static "ImageGate" "FIRST_BYTES" "[B") (.int 3)) (.int 70)) (by decide +kernel))
    · exact va_eqt (hs (.eq (.elem (.static "ImageGate" "FIRST_BYTES" "[B") (.int 4)) (.int 1)) (by decide +kernel))
    · exact va_eqt (hs (.eq (.elem (.static "ImageGate" "FIRST_BYTES" "[B") (.int 5)) (.int 1)) (by decide +kernel))
    · exact va_eqt (hs (.eq (.elem (.static "ImageGate" "FIRST_BYTES" "[B") (.int 6)) (.int 1)) (by decide +kernel))) hA
  exact ⟨t, va_Zref hl hini ht hA, hT⟩
set_option maxHeartbeats 4000000 in
set_option maxRecDepth 100000 in
theorem whole_start {p : Program} {e : Env} {s : State} {m : MethodId} {below : List Frame} {meth : Method} {c : Code} (l : Launch) {b L : Nat} {xs : Nat → Int32} (hL : L ≤ 3072) (C0 : lw_At p s m meth c b L xs) : W p l e room_1 s m #[Value.ref b] below meth c s.heap [] 0 0 (lw_Z below #[Value.ref b] s) (entryFrame m ([Value.ref b] : List Value).toArray 4) := by
  obtain ⟨hx, hb, hr, hml, hown, hts0, hX, hbl, hlocks, hgv⟩ := id C0
  have hts : ∀ w ∈ T0, w.before #[Value.ref b] s = true := fun w h => hts0 w (List.mem_filter.mp h).1
  have hA : ∀ q : Nat, s.heap.size ≤ q → (fun q : Nat => s.heap.size ≤ q) q := fun _ h => h
  have hN : xNest s := fun w hw => va_Nw.of (xNest.onT hw) (hts0 w (List.mem_filter.mp hw).1)
  have hAO : xAO s := ⟨va_AO.of (hts0 _ wd_76), va_AO.of (hts0 _ wd_131)⟩
  have hZ : xZ (fun q : Nat => s.heap.size ≤ q) s s.heap := law_z (hts0 _ wd_276) (hts _ wd_15) hgv
  obtain ⟨c0, iS0, hKn0⟩ := u_known (C := R_AG) (T := T_AG) (N := 3) (n := 3) hts i_AG (hts _ wd_51)
  obtain ⟨c1, iS1, hKn1⟩ := u_known (C := R_FB) (T := T_FB) (N := 2) (n := 2) hts i_FB (hts _ wd_35)
  obtain ⟨c2, iS2, hKn2⟩ := u_known (C := R_IM) (T := T_IM) (N := 6) (n := 6) hts i_IM (hts _ wd_125)
  obtain ⟨c3, iS3, hKn3⟩ := u_known (C := R_PG) (T := T_PG) (N := 3) (n := 3) hts i_PG (hts _ wd_132)
  obtain ⟨c4, iS4, hKn4⟩ := u_known (C := R_PT) (T := T_PT) (N := 5) (n := 5) hts i_PT (hts _ wd_77)
  obtain ⟨c5, iS5, hKn5⟩ := u_known (C := R_PL) (T := T_PL) (N := 5) (n := 5) hts i_PL (hts _ wd_70)
  obtain ⟨c6, iS6, hKn6⟩ := u_known (C := R_GT) (T := T_GT) (N := 5) (n := 5) hts i_GT (hts _ wd_27)
  obtain ⟨c7, iS7, hKn7⟩ := u_known (C := R_MD) (T := T_MD) (N := 28) (n := 28) hts i_MD (hts _ wd_386)
  obtain ⟨dC, dI, hKc⟩ : ∃ (dC : Nat → ClassId) (dI : Nat → Nat → Nat), ∀ (k : Nat) (q : vw_C), vwCl[k]? = some q → u_Kn s q.1 q.2.1 q.2.2 (dC k) (dI k) := by
    refine ⟨fun k => ([c0, c1, c2, c3, c4, c5, c6, c7] : List ClassId).getD k 0, fun k => ([iS0, iS1, iS2, iS3, iS4, iS5, iS6, iS7] : List (Nat → Nat)).getD k (fun _ => 0), ?_⟩
    intro k q hq
    match k, hq with
    | 0, hq => cases hq; exact hKn0
    | 1, hq => cases hq; exact hKn1
    | 2, hq => cases hq; exact hKn2
    | 3, hq => cases hq; exact hKn3
    | 4, hq => cases hq; exact hKn4
    | 5, hq => cases hq; exact hKn5
    | 6, hq => cases hq; exact hKn6
    | 7, hq => cases hq; exact hKn7
    | k + 8, hq => simp at hq
  obtain ⟨ck, hck⟩ := law_arr (hts _ wd_49) (hts _ wd_68) hAO
  have hK : va_K (dC, dI) vwCl (tyG ck) s := ⟨hKc, hck⟩
  have hKM : va_K (dC, dI) vwCl (tyM ck) s := hK.sub (tys' := tyM ck) [0, 1] rfl
  have hS : va_S (fun q : Nat => s.heap.size ≤ q) s.heap s.heap [] := va_S.rf
  have hP : va_P (dC, dI) vwCl [] s.heap := fun k q h => by simp at h
  have hD : va_D (fun q : Nat => s.heap.size ≤ q) [] := ⟨fun i j p q h => by simp at h, fun k q h => by simp at h⟩
  have hl := lv_entry ([.ref b]) (n := 4) (Nat.le_of_ble_eq_true rfl)
  rw [lg_entry_eq]
  generalize (lg_sl ([.ref b]) ++ List.replicate (4 - (lg_sl ([.ref b])).length) Slot.unset).toArray = ls at hl ⊢
  have hl : lv_has ls 4 [(0, .ref b)] := hl
  refine va_new (ci := 6) (fs := [.null, .null, .null, .null, .int 0]) (C := R_GT) (T := T_GT) (N := 5) hx hb hts i_GT t_GT k_GT hown (hts _ wd_26) (hts _ wd_27) (hts _ wd_15) hK hP hD hS hA rfl (fun j hj => by rcases (show j = 0 ∨ j = 1 ∨ j = 2 ∨ j = 3 ∨ j = 4 by omega) with rfl | rfl | rfl | rfl | rfl <;> rfl) (Nat.le_of_ble_eq_true rfl) (Nat.le_of_ble_eq_true rfl) d_LW_0 (fun q0 H hP hD hS => ?_)
  have hP : va_P (dC, dI) vwCl ([] ++ [(q0, .inr (6, [.null, .null, .null, .null, .int 0]))]) H := hP
  have hD : va_D (fun q : Nat => s.heap.size ≤ q) ([] ++ [(q0, .inr (6, [.null, .null, .null, .null, .int 0]))]) := hD
  refine lv_dup hx hb d_LW_3 rfl ?_
  refine xcallc (wr := []) (wc := [(q0, .inr (6, [.null, .null, .null, .null, .int 0]))]) (va_runI (As := []) (rest := [.ref q0]) ⟨hx, hb, hml, hown, hts⟩ (j_GT l dC dI ck q0 H.size) (cwI 0 hts (xgI wd_30) rfl rfl rfl (hts _ wd_15) (hts _ wd_28) (hts _ wd_29) rfl (by decide +kernel) ⟨Nat.le_of_ble_eq_true rfl, Nat.le_of_ble_eq_true rfl⟩) (xpre3 (wr := []) hK hN hZ hAO hA hS hP hD) rfl rfl hl.1 rfl (lv_room (Nat.le_of_ble_eq_true rfl)) d_LW_4 ⟨Nat.le_of_ble_eq_true rfl, Nat.le_of_ble_eq_true rfl⟩) hP hD hS hA (fun ad H locs hP hD hS => ?_)
  refine lv_astore_n (lv' := [(1, .ref q0), (0, .ref b)]) hx hb d_LW_7 rfl hl (by decide) rfl (fun ls hl => ?_)
  refine va_new (ci := 7) (fs := [.int 0, .int 0, .null, .int 0, .null, .null, .int 0, .int 0, .long 0, .null, .null, .null, .null, .null, .null, .int 0, .int 0, .int 0, .int 0, .int 0, .int 0, .null, .null, .null, .null, .null, .null, .null]) (C := R_MD) (T := T_MD) (N := 28) hx hb hts i_MD t_MD k_MD hown (hts _ wd_385) (hts _ wd_386) (hts _ wd_22) hK hP hD hS hA rfl (fun j hj => by rcases (show j = 0 ∨ j = 1 ∨ j = 2 ∨ j = 3 ∨ j = 4 ∨ j = 5 ∨ j = 6 ∨ j = 7 ∨ j = 8 ∨ j = 9 ∨ j = 10 ∨ j = 11 ∨ j = 12 ∨ j = 13 ∨ j = 14 ∨ j = 15 ∨ j = 16 ∨ j = 17 ∨ j = 18 ∨ j = 19 ∨ j = 20 ∨ j = 21 ∨ j = 22 ∨ j = 23 ∨ j = 24 ∨ j = 25 ∨ j = 26 ∨ j = 27 by omega) with rfl | rfl | rfl | rfl | rfl | rfl | rfl | rfl | rfl | rfl | rfl | rfl | rfl | rfl | rfl | rfl | rfl | rfl | rfl | rfl | rfl | rfl | rfl | rfl | rfl | rfl | rfl | rfl <;> rfl) (Nat.le_of_ble_eq_true rfl) (Nat.le_of_ble_eq_true rfl) d_LW_8 (fun q1 H hP hD hS => ?_)
  have hP : va_P (dC, dI) vwCl (wsG0 (fun i => if i = 0 then q0 else ad i) ck ++ [(q1, .inr (7, [.int 0, .int 0, .null, .int 0, .null, .null, .int 0, .int 0, .long 0, .null, .null, .null, .null, .null, .null, .int 0, .int 0, .int 0, .int 0, .int 0, .int 0, .null, .null, .null, .null, .null, .null, .null]))]) H := hP
  have hD : va_D (fun q : Nat => s.heap.size ≤ q) (wsG0 (fun i => if i = 0 then q0 else ad i) ck ++ [(q1, .inr (7, [.int 0, .int 0, .null, .int 0, .null, .null, .int 0, .int 0, .long 0, .null, .null, .null, .null, .null, .null, .int 0, .int 0, .int 0, .int 0, .int 0, .int 0, .null, .null, .null, .null, .null, .null, .null]))]) := hD
  refine lv_dup hx hb d_LW_11 rfl ?_
  refine xcallc (wr := (wsG0 (fun i => if i = 0 then q0 else ad i) ck)) (wc := [(q1, .inr (7, [.int 0, .int 0, .null, .int 0, .null, .null, .int 0, .int 0, .long 0, .null, .null, .null, .null, .null, .null, .int 0, .int 0, .int 0, .int 0, .int 0, .int 0, .null, .null, .null, .null, .null, .null, .null]))]) (va_runI (As := []) (rest := [.ref q1]) ⟨hx, hb, hml, hown, hts⟩ (j_MD l dC dI ck q1 H.size) (cwI 0 hts (xgI wd_389) rfl rfl rfl (hts _ wd_22) (hts _ wd_387) (hts _ wd_388) rfl (by decide +kernel) ⟨Nat.le_of_ble_eq_true rfl, Nat.le_of_ble_eq_true rfl⟩) (xpre3 (wr := (wsG0 (fun i => if i = 0 then q0 else ad i) ck)) hKM hN hZ hAO hA hS hP hD) rfl rfl hl.1 rfl (lv_room (Nat.le_of_ble_eq_true rfl)) d_LW_12 ⟨Nat.le_of_ble_eq_true rfl, Nat.le_of_ble_eq_true rfl⟩) hP hD hS hA (fun bd H locs hP hD hS => ?_)
  refine lv_astore_n (lv' := [(2, .ref q1), (1, .ref q0), (0, .ref b)]) hx hb d_LW_15 rfl hl (by decide) rfl (fun ls hl => ?_)
  refine lv_iconst (v := 0) hx hb d_LW_16 (by decide) ?_
  refine lv_istore_n (lv' := [(3, .int 0), (2, .ref q1), (1, .ref q0), (0, .ref b)]) hx hb d_LW_17 rfl hl (by decide) rfl (fun ls hl => ?_)
  have hP := xPperm List.perm_append_comm hP
  have hD := xDperm List.perm_append_comm hD
  exact law_loop (ad := fun i => if i = 0 then q0 else ad i) (bd := fun i => if i = 0 then q1 else bd i) (ck := ck) (cm := ck) (dC := dC) (dI := dI) ⟨C0, hL, hK, hKM, hN, hZ⟩ 512 0 (by omega) (by decide) 0 0 (fun _ => 0) 0 (fun _ => 0) (fun _ => 0) 0 0 0 0 (fun _ _ => 0) 0 0 0 0 0 (fun _ => 0) (fun _ => 0) (fun _ _ => 0) 0 (fun _ => 0) 0 0 (fun _ => 0) (fun _ => 0) (fun _ => 0) (fun _ => 0) (fun _ => 0) (fun _ => 0) 0 0 0 0 0 0 (fun _ => 0) (fun _ => 0) (fun _ => 0) (fun _ => 0) (fun _ => 0) (fun _ => 0) (fun _ => 0) LR_0 RIM_0 H locs hP hD hS ls hl
