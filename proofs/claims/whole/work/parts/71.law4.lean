set_option maxHeartbeats 4000000 in
set_option maxRecDepth 100000 in
theorem law_head {p : Program} {l : Launch} {e : Env} {s : State} {m : MethodId} {below : List Frame} {meth : Method} {c : Code} {b L : Nat} {xs : Nat → Int32} {dC : Nat → ClassId} {dI : Nat → Nat → Nat} {ad bd : Nat → Nat} {ck cm : Nat → ClassId} {i : Nat} (C : LC p s m meth c b L xs dC dI ck cm) (hi3 : i ≤ 3072) (hGo : i + 6 ≤ L → LI p l e s m below meth c b dC dI ad bd ck cm 18 (i + 6)) : LI p l e s m below meth c b dC dI ad bd ck cm 18 i := by
  intro rf n fr a ar z pc pe pt pp pf ic ie ip iz ia st rt pb th le fo en fF fA fB fS fW sk pg ye ys yt yg yp tk gF gA gB gS gW yk hLR hRM H locs hP hD hS ls hl
  obtain ⟨⟨hx, hb, hr, hml, hown, hts0, hX, hbl, hlocks, hgv⟩, hL, hKG, hKM, hN, hZ⟩ := id C
  have hbA : ¬ (fun q : Nat => s.heap.size ≤ q) b := Nat.not_le.mpr hbl
  refine lv_iload_n hx hb d_LW_18 rfl (lv_at hl 0 rfl) ?_
  refine lv_aload_n hx hb d_LW_19 rfl (lv_at hl 3 rfl) ?_
  refine va_slen hx hb hX hbl hbA hS d_LW_20 ?_
  refine lv_bipush (v := 6) hx hb d_LW_21 (by decide) ?_
  refine lv_isub hx hb d_LW_23 ?_
  have hsub : (Int32.ofNat L - 6).toInt = (L : Int) - 6 := pk_sub_toInt (a := L) (b := 6) (by omega) (by omega)
  refine lv_icmp_gt (tgt := 463) hx hb d_LW_24 (by decide) (fun c1 => ?_) (fun c1 => ?_)
  · refine lv_iconst (v := 1) hx hb d_LW_463 (by decide) ?_
    refine va_forget (fun q hq => hS.2.2 q hq) ?_
    refine W.widen (k := 600000) (n := 7302250) (by decide) (by decide) ?_
    exact lw_ret hx hb hr hlocks d_LW_464
  · have hi : i + 6 ≤ L := by
      rw [Int32.lt_iff_toInt_lt, hsub, nI_toInt (by omega)] at c1
      omega
    have h457 : LI p l e s m below meth c b dC dI ad bd ck cm 457 i := by
      intro rf n fr a ar z pc pe pt pp pf ic ie ip iz ia st rt pb th le fo en fF fA fB fS fW sk pg ye ys yt yg yp tk gF gA gB gS gW yk hLR hRM H locs hP hD hS ls hl
      refine lv_iinc (v := nI (i + 6)) hx hb d_LW_457 hl (k := 0) rfl (nI_add i 6) (by decide) rfl (fun ls hl => ?_)
      refine lv_goto (tgt := 18) hx hb d_LW_460 (by decide) ?_
      exact hGo hi rf n fr a ar z pc pe pt pp pf ic ie ip iz ia st rt pb th le fo en fF fA fB fS fW sk pg ye ys yt yg yp tk gF gA gB gS gW yk hLR hRM H locs hP hD hS ls hl
    refine lv_aload_n hx hb d_LW_27 rfl (lv_at hl 3 rfl) ?_
    refine lv_iload_n hx hb d_LW_28 rfl (lv_at hl 0 rfl) ?_
    refine va_sld hx hb hX hbl hbA hS (vp_in_nI (by omega) (by omega)) d_LW_29 ?_
    refine lv_bipush (v := 15) hx hb d_LW_30 (by decide) ?_
    refine lv_iand hx hb d_LW_32 ?_
    generalize xs (nI i).toNatClampNeg = v
    rw [pk_and v 4 (by decide)]
    have hr16 : v.toBitVec.toNat % 2 ^ 4 < 16 := Nat.mod_lt _ (by decide)
    generalize v.toBitVec.toNat % 2 ^ 4 = r at hr16
    rcases (show r = 0 ∨ r = 1 ∨ r = 2 ∨ r = 3 ∨ r = 4 ∨ r = 5 ∨ r = 6 ∨ r = 7 ∨ r = 8 ∨ r = 9 ∨ r = 10 ∨ r = 11 ∨ r = 12 ∨ r = 13 ∨ r = 14 ∨ r = 15 from by omega) with rfl | rfl | rfl | rfl | rfl | rfl | rfl | rfl | rfl | rfl | rfl | rfl | rfl | rfl | rfl | rfl
    · refine lv_tableIn (x := nI 0) (tgt := 100) hx hb d_LW_33 (by decide) (by decide) rfl (by decide) ?_
      exact law_0 C hi h457 rf n fr a ar z pc pe pt pp pf ic ie ip iz ia st rt pb th le fo en fF fA fB fS fW sk pg ye ys yt yg yp tk gF gA gB gS gW yk hLR hRM H locs hP hD hS ls hl
    · refine lv_tableIn (x := nI 1) (tgt := 163) hx hb d_LW_33 (by decide) (by decide) rfl (by decide) ?_
      exact law_1 C hi h457 rf n fr a ar z pc pe pt pp pf ic ie ip iz ia st rt pb th le fo en fF fA fB fS fW sk pg ye ys yt yg yp tk gF gA gB gS gW yk hLR hRM H locs hP hD hS ls hl
    · refine lv_tableIn (x := nI 2) (tgt := 186) hx hb d_LW_33 (by decide) (by decide) rfl (by decide) ?_
      exact law_2 C hi h457 rf n fr a ar z pc pe pt pp pf ic ie ip iz ia st rt pb th le fo en fF fA fB fS fW sk pg ye ys yt yg yp tk gF gA gB gS gW yk hLR hRM H locs hP hD hS ls hl
    · refine lv_tableIn (x := nI 3) (tgt := 219) hx hb d_LW_33 (by decide) (by decide) rfl (by decide) ?_
      exact law_3 C hi h457 rf n fr a ar z pc pe pt pp pf ic ie ip iz ia st rt pb th le fo en fF fA fB fS fW sk pg ye ys yt yg yp tk gF gA gB gS gW yk hLR hRM H locs hP hD hS ls hl
    · refine lv_tableIn (x := nI 4) (tgt := 262) hx hb d_LW_33 (by decide) (by decide) rfl (by decide) ?_
      exact law_4 C hi h457 rf n fr a ar z pc pe pt pp pf ic ie ip iz ia st rt pb th le fo en fF fA fB fS fW sk pg ye ys yt yg yp tk gF gA gB gS gW yk hLR hRM H locs hP hD hS ls hl
    · refine lv_tableIn (x := nI 5) (tgt := 275) hx hb d_LW_33 (by decide) (by decide) rfl (by decide) ?_
      exact law_5 C hi h457 rf n fr a ar z pc pe pt pp pf ic ie ip iz ia st rt pb th le fo en fF fA fB fS fW sk pg ye ys yt yg yp tk gF gA gB gS gW yk hLR hRM H locs hP hD hS ls hl
    · refine lv_tableIn (x := nI 6) (tgt := 288) hx hb d_LW_33 (by decide) (by decide) rfl (by decide) ?_
      exact law_6 C hi h457 rf n fr a ar z pc pe pt pp pf ic ie ip iz ia st rt pb th le fo en fF fA fB fS fW sk pg ye ys yt yg yp tk gF gA gB gS gW yk hLR hRM H locs hP hD hS ls hl
    · refine lv_tableIn (x := nI 7) (tgt := 341) hx hb d_LW_33 (by decide) (by decide) rfl (by decide) ?_
      exact law_7 C hi h457 rf n fr a ar z pc pe pt pp pf ic ie ip iz ia st rt pb th le fo en fF fA fB fS fW sk pg ye ys yt yg yp tk gF gA gB gS gW yk hLR hRM H locs hP hD hS ls hl
    · refine lv_tableIn (x := nI 8) (tgt := 352) hx hb d_LW_33 (by decide) (by decide) rfl (by decide) ?_
      exact law_8 C hi h457 rf n fr a ar z pc pe pt pp pf ic ie ip iz ia st rt pb th le fo en fF fA fB fS fW sk pg ye ys yt yg yp tk gF gA gB gS gW yk hLR hRM H locs hP hD hS ls hl
    · refine lv_tableIn (x := nI 9) (tgt := 375) hx hb d_LW_33 (by decide) (by decide) rfl (by decide) ?_
      exact law_9 C hi h457 rf n fr a ar z pc pe pt pp pf ic ie ip iz ia st rt pb th le fo en fF fA fB fS fW sk pg ye ys yt yg yp tk gF gA gB gS gW yk hLR hRM H locs hP hD hS ls hl
    · refine lv_tableIn (x := nI 10) (tgt := 388) hx hb d_LW_33 (by decide) (by decide) rfl (by decide) ?_
      exact law_10 C hi h457 rf n fr a ar z pc pe pt pp pf ic ie ip iz ia st rt pb th le fo en fF fA fB fS fW sk pg ye ys yt yg yp tk gF gA gB gS gW yk hLR hRM H locs hP hD hS ls hl
    · refine lv_tableIn (x := nI 11) (tgt := 411) hx hb d_LW_33 (by decide) (by decide) rfl (by decide) ?_
      exact law_11 C hi h457 rf n fr a ar z pc pe pt pp pf ic ie ip iz ia st rt pb th le fo en fF fA fB fS fW sk pg ye ys yt yg yp tk gF gA gB gS gW yk hLR hRM H locs hP hD hS ls hl
    · refine lv_tableIn (x := nI 12) (tgt := 434) hx hb d_LW_33 (by decide) (by decide) rfl (by decide) ?_
      exact law_12 C hi h457 rf n fr a ar z pc pe pt pp pf ic ie ip iz ia st rt pb th le fo en fF fA fB fS fW sk pg ye ys yt yg yp tk gF gA gB gS gW yk hLR hRM H locs hP hD hS ls hl
    · refine lv_tableOut (x := nI 13) (tgt := 457) hx hb d_LW_33 (by decide) (by decide) ?_
      exact h457 rf n fr a ar z pc pe pt pp pf ic ie ip iz ia st rt pb th le fo en fF fA fB fS fW sk pg ye ys yt yg yp tk gF gA gB gS gW yk hLR hRM H locs hP hD hS ls hl
    · refine lv_tableOut (x := nI 14) (tgt := 457) hx hb d_LW_33 (by decide) (by decide) ?_
      exact h457 rf n fr a ar z pc pe pt pp pf ic ie ip iz ia st rt pb th le fo en fF fA fB fS fW sk pg ye ys yt yg yp tk gF gA gB gS gW yk hLR hRM H locs hP hD hS ls hl
    · refine lv_tableOut (x := nI 15) (tgt := 457) hx hb d_LW_33 (by decide) (by decide) ?_
      exact h457 rf n fr a ar z pc pe pt pp pf ic ie ip iz ia st rt pb th le fo en fF fA fB fS fW sk pg ye ys yt yg yp tk gF gA gB gS gW yk hLR hRM H locs hP hD hS ls hl
theorem law_loop {p : Program} {l : Launch} {e : Env} {s : State} {m : MethodId} {below : List Frame} {meth : Method} {c : Code} {b L : Nat} {xs : Nat → Int32} {dC : Nat → ClassId} {dI : Nat → Nat → Nat} {ad bd : Nat → Nat} {ck cm : Nat → ClassId} (C : LC p s m meth c b L xs dC dI ck cm) : ∀ (d i : Nat), L ≤ i + 6 * d → i ≤ 3072 → LI p l e s m below meth c b dC dI ad bd ck cm 18 i := by
  intro d
  induction d with
  | zero => intro i h1 h2; exact law_head C h2 (fun h => absurd h (by omega))
  | succ d ih => intro i h1 h2; exact law_head C h2 (fun h => ih (i + 6) (by omega) (Nat.le_trans h C.2.1))
set_option maxHeartbeats 4000000 in
set_option maxRecDepth 100000 in
theorem law_arr {s : State} {args : Array Value} (h0 : (Cond.arrayClass .byte).before args s = true) (h1 : (Cond.arrayClass .int).before args s = true) (hA : xAO s) : ∃ ck : Nat → ClassId, ∀ (k : Nat) (q : ClassId × FieldType), (tyG ck)[k]? = some q → ArrOfT s q.1 q.2 ∧ va_RA s q.1 q.2 := by
  obtain ⟨c0, k0, p0, f0, g0, e0⟩ := Cond.arrayClass_spec h0
  obtain ⟨c1, k1, p1, f1, g1, e1⟩ := Cond.arrayClass_spec h1
  obtain ⟨p2, c2, k2, a2, b2, f2, g2, e2⟩ := Cond.arrayOver_spec hA.1
  obtain ⟨p3, c3, k3, a3, b3, f3, g3, e3⟩ := Cond.arrayOver_spec hA.2
  refine ⟨fun j => ([c0, c1, c2, c3] : List ClassId).getD j 0, fun k q hq => ?_⟩
  match k, hq with
  | 0, hq => cases hq; exact ⟨fun N z => ⟨(fun k h => by cases h), k0, g0, p0, e0⟩, f0⟩
  | 1, hq => cases hq; exact ⟨fun N z => ⟨(fun k h => by cases h), k1, g1, p1, e1⟩, f1⟩
  | 2, hq => cases hq; exact ⟨fun N z => ⟨(fun k h => by cases h), k2, f2, p2, g2⟩, k2, p2, f2, g2, a2, e2⟩
  | 3, hq => cases hq; exact ⟨fun N z => ⟨(fun k h => by cases h), k3, f3, p3, g3⟩, k3, p3, f3, g3, a3, e3⟩
  | k + 4, hq => simp at hq
