set_option maxHeartbeats 4000000 in
set_option maxRecDepth 100000 in
theorem law_0 {p : Program} {l : Launch} {e : Env} {s : State} {m : MethodId} {below : List Frame} {meth : Method} {c : Code} {b L : Nat} {xs : Nat → Int32} {dC : Nat → ClassId} {dI : Nat → Nat → Nat} {ad bd : Nat → Nat} {ck cm : Nat → ClassId} {i : Nat} (C : LC p s m meth c b L xs dC dI ck cm) (hi : i + 6 ≤ L) (hGo : LI p l e s m below meth c b dC dI ad bd ck cm 457 i) : LI p l e s m below meth c b dC dI ad bd ck cm 100 i := by
  intro rf n fr a ar z pc pe pt pp pf ic ie ip iz ia st rt pb th le fo en fF fA fB fS fW sk pg ye ys yt yg yp tk gF gA gB gS gW yk hLR hRM H locs hP hD hS ls hl
  obtain ⟨⟨hx, hb, hr, hml, hown, hts0, hX, hbl, hlocks, hgv⟩, hL, hKG, hKM, hN, hZ⟩ := C
  have hts : ∀ w ∈ T0, w.before #[Value.ref b] s = true := fun w h => hts0 w (List.mem_filter.mp h).1
  have hA : ∀ q : Nat, s.heap.size ≤ q → (fun q : Nat => s.heap.size ≤ q) q := fun _ h => h
  have hbA : ¬ (fun q : Nat => s.heap.size ≤ q) b := Nat.not_le.mpr hbl
  obtain ⟨hn, ha, hz, hFr, hAr, hLe, hSk, hAL⟩ := id hLR
  obtain ⟨rAt, rFl, rAb, hic, hyp, hgs, hgf, hpg, hyt, hyt2⟩ := id hRM
  have hin1 : vp_in (nI i + 1) L := law_in 1 (by decide) hi hL
  have hin2 : vp_in (nI i + 2) L := law_in 2 (by decide) hi hL
  have hin3 : vp_in (nI i + 3) L := law_in 3 (by decide) hi hL
  have hin4 : vp_in (nI i + 4) L := law_in 4 (by decide) hi hL
  have hin5 : vp_in (nI i + 5) L := law_in 5 (by decide) hi hL
  refine lv_aload_n hx hb d_LW_100 rfl (lv_at hl 2 rfl) ?_
  refine lv_aload_n hx hb d_LW_101 rfl (lv_at hl 3 rfl) ?_
  refine lv_iload_n hx hb d_LW_102 rfl (lv_at hl 0 rfl) ?_
  refine lv_iconst (v := 1) hx hb d_LW_103 (by decide) ?_
  refine lv_iadd hx hb d_LW_104 ?_
  refine va_sld hx hb hX hbl hbA hS hin1 d_LW_105 ?_
  refine lv_aload_n hx hb d_LW_106 rfl (lv_at hl 3 rfl) ?_
  refine lv_iload_n hx hb d_LW_107 rfl (lv_at hl 0 rfl) ?_
  refine lv_iconst (v := 2) hx hb d_LW_108 (by decide) ?_
  refine lv_iadd hx hb d_LW_109 ?_
  refine va_sld hx hb hX hbl hbA hS hin2 d_LW_110 ?_
  refine lv_aload_n hx hb d_LW_111 rfl (lv_at hl 3 rfl) ?_
  refine lv_iload_n hx hb d_LW_112 rfl (lv_at hl 0 rfl) ?_
  refine lv_iconst (v := 3) hx hb d_LW_113 (by decide) ?_
  refine lv_iadd hx hb d_LW_114 ?_
  refine va_sld hx hb hX hbl hbA hS hin3 d_LW_115 ?_
  refine lv_aload_n hx hb d_LW_116 rfl (lv_at hl 3 rfl) ?_
  refine lv_iload_n hx hb d_LW_117 rfl (lv_at hl 0 rfl) ?_
  refine lv_iconst (v := 4) hx hb d_LW_118 (by decide) ?_
  refine lv_iadd hx hb d_LW_119 ?_
  refine va_sld hx hb hX hbl hbA hS hin4 d_LW_120 ?_
  refine lv_aload_n hx hb d_LW_121 rfl (lv_at hl 3 rfl) ?_
  refine lv_iload_n hx hb d_LW_122 rfl (lv_at hl 0 rfl) ?_
  refine lv_iconst (v := 5) hx hb d_LW_123 (by decide) ?_
  refine lv_iadd hx hb d_LW_124 ?_
  refine va_sld hx hb hX hbl hbA hS hin5 d_LW_125 ?_
  refine zcalli (wr := wsM bd cm th n fr a z le rf fo en fF fA fB fS fW sk pg ye ys yt yg yp tk gF gA gB gS gW yk) (va_runV (As := [.int (xs (nI i + 1).toNatClampNeg), .int (xs (nI i + 2).toNatClampNeg), .int (xs (nI i + 3).toNatClampNeg), .int (xs (nI i + 4).toNatClampNeg), .int (xs (nI i + 5).toNatClampNeg)]) (rest := []) ⟨hx, hb, hml, hown, hts⟩ (c_gt_feed l dC dI ad ck rf n fr a ar z pc pe pt pp pf ic ie ip iz ia st rt pb (xs (nI i + 1).toNatClampNeg) (xs (nI i + 2).toNatClampNeg) (xs (nI i + 3).toNatClampNeg) (xs (nI i + 4).toNatClampNeg) (xs (nI i + 5).toNatClampNeg) hn H.size) (cwV 5 hts (xgV wd_192 wd_193 wd_194 wd_15 wd_195) rfl rfl rfl (by decide +kernel) ⟨Nat.le_of_ble_eq_true rfl, Nat.le_of_ble_eq_true rfl⟩) (xpreV (q0 := 0) hKG hN hZ hA hS (xPr (wr := wsM bd cm th n fr a z le rf fo en fF fA fB fS fW sk pg ye ys yt yg yp tk gF gA gB gS gW yk) hP) (xDr (wr := wsM bd cm th n fr a z le rf fo en fF fA fB fS fW sk pg ye ys yt yg yp tk gF gA gB gS gW yk) hD) rfl rfl) rfl rfl hl.1 rfl (lv_room (Nat.le_of_ble_eq_true rfl)) d_LW_126 ⟨Nat.le_of_ble_eq_true rfl, Nat.le_of_ble_eq_true rfl⟩) hP hD hS hA (fun rG H locs hG hP hD hS => ?_)
  have hG9 := hG
  have hP := xPperm List.perm_append_comm hP
  have hD := xDperm List.perm_append_comm hD
  refine lv_aload_n hx hb d_LW_129 rfl (lv_at hl 1 rfl) ?_
  refine lv_aload_n hx hb d_LW_130 rfl (lv_at hl 3 rfl) ?_
  refine lv_iload_n hx hb d_LW_131 rfl (lv_at hl 0 rfl) ?_
  refine lv_iconst (v := 1) hx hb d_LW_132 (by decide) ?_
  refine lv_iadd hx hb d_LW_133 ?_
  refine va_sld hx hb hX hbl hbA hS hin1 d_LW_134 ?_
  refine lv_aload_n hx hb d_LW_135 rfl (lv_at hl 3 rfl) ?_
  refine lv_iload_n hx hb d_LW_136 rfl (lv_at hl 0 rfl) ?_
  refine lv_iconst (v := 2) hx hb d_LW_137 (by decide) ?_
  refine lv_iadd hx hb d_LW_138 ?_
  refine va_sld hx hb hX hbl hbA hS hin2 d_LW_139 ?_
  refine lv_aload_n hx hb d_LW_140 rfl (lv_at hl 3 rfl) ?_
  refine lv_iload_n hx hb d_LW_141 rfl (lv_at hl 0 rfl) ?_
  refine lv_iconst (v := 3) hx hb d_LW_142 (by decide) ?_
  refine lv_iadd hx hb d_LW_143 ?_
  refine va_sld hx hb hX hbl hbA hS hin3 d_LW_144 ?_
  refine lv_aload_n hx hb d_LW_145 rfl (lv_at hl 3 rfl) ?_
  refine lv_iload_n hx hb d_LW_146 rfl (lv_at hl 0 rfl) ?_
  refine lv_iconst (v := 4) hx hb d_LW_147 (by decide) ?_
  refine lv_iadd hx hb d_LW_148 ?_
  refine va_sld hx hb hX hbl hbA hS hin4 d_LW_149 ?_
  refine lv_aload_n hx hb d_LW_150 rfl (lv_at hl 3 rfl) ?_
  refine lv_iload_n hx hb d_LW_151 rfl (lv_at hl 0 rfl) ?_
  refine lv_iconst (v := 5) hx hb d_LW_152 (by decide) ?_
  refine lv_iadd hx hb d_LW_153 ?_
  refine va_sld hx hb hX hbl hbA hS hin5 d_LW_154 ?_
  refine zcalli (wr := wsG ad ck rf (fdN n) (fdF n fr (xs (nI i + 1).toNatClampNeg) (xs (nI i + 2).toNatClampNeg) (xs (nI i + 3).toNatClampNeg) (xs (nI i + 4).toNatClampNeg) (xs (nI i + 5).toNatClampNeg)) a ar z pc pe pt pp pf ic ie ip iz ia st rt pb) (va_runV (As := [.int (xs (nI i + 1).toNatClampNeg), .int (xs (nI i + 2).toNatClampNeg), .int (xs (nI i + 3).toNatClampNeg), .int (xs (nI i + 4).toNatClampNeg), .int (xs (nI i + 5).toNatClampNeg)]) (rest := [.int rG]) ⟨hx, hb, hml, hown, hts⟩ (m_feed l dC dI bd cm th n fr a z le rf fo en fF fA fB fS fW sk pg ye ys yt yg yp tk gF gA gB gS gW yk (xs (nI i + 1).toNatClampNeg) (xs (nI i + 2).toNatClampNeg) (xs (nI i + 3).toNatClampNeg) (xs (nI i + 4).toNatClampNeg) (xs (nI i + 5).toNatClampNeg) hn H.size) (cwV 5 hts (xgV wd_477 wd_478 wd_479 wd_22 wd_480) rfl rfl rfl (by decide +kernel) ⟨Nat.le_of_ble_eq_true rfl, Nat.le_of_ble_eq_true rfl⟩) (xpreV (q0 := 0) hKM hN hZ hA hS (xPr (wr := wsG ad ck rf (fdN n) (fdF n fr (xs (nI i + 1).toNatClampNeg) (xs (nI i + 2).toNatClampNeg) (xs (nI i + 3).toNatClampNeg) (xs (nI i + 4).toNatClampNeg) (xs (nI i + 5).toNatClampNeg)) a ar z pc pe pt pp pf ic ie ip iz ia st rt pb) hP) (xDr (wr := wsG ad ck rf (fdN n) (fdF n fr (xs (nI i + 1).toNatClampNeg) (xs (nI i + 2).toNatClampNeg) (xs (nI i + 3).toNatClampNeg) (xs (nI i + 4).toNatClampNeg) (xs (nI i + 5).toNatClampNeg)) a ar z pc pe pt pp pf ic ie ip iz ia st rt pb) hD) rfl rfl) rfl rfl hl.1 rfl (lv_room (Nat.le_of_ble_eq_true rfl)) d_LW_155 ⟨Nat.le_of_ble_eq_true rfl, Nat.le_of_ble_eq_true rfl⟩) hP hD hS hA (fun rM H locs hM hP hD hS => ?_)
  have hP := xPperm List.perm_append_comm hP
  have hD := xDperm List.perm_append_comm hD
  rw [fd_mf] at hP hD
  refine lv_icmp_eq (tgt := 457) hx hb d_LW_158 (by decide) (fun c9 => ?_) (fun c9 => absurd (by rw [hG9, hM]) c9)
  exact hGo rf (fdN n) (fdF n fr (xs (nI i + 1).toNatClampNeg) (xs (nI i + 2).toNatClampNeg) (xs (nI i + 3).toNatClampNeg) (xs (nI i + 4).toNatClampNeg) (xs (nI i + 5).toNatClampNeg)) a ar z pc pe pt pp pf ic ie ip iz ia st rt pb 0 le fo en fF fA fB fS fW sk pg ye ys yt yg yp tk gF gA gB gS gW yk ⟨fdN_le hn, ha, hz, fdF_fit hFr, hAr, hLe, hSk, hAL⟩ hRM H locs hP hD hS ls hl
set_option maxHeartbeats 4000000 in
set_option maxRecDepth 100000 in
theorem law_1 {p : Program} {l : Launch} {e : Env} {s : State} {m : MethodId} {below : List Frame} {meth : Method} {c : Code} {b L : Nat} {xs : Nat → Int32} {dC : Nat → ClassId} {dI : Nat → Nat → Nat} {ad bd : Nat → Nat} {ck cm : Nat → ClassId} {i : Nat} (C : LC p s m meth c b L xs dC dI ck cm) (hi : i + 6 ≤ L) (hGo : LI p l e s m below meth c b dC dI ad bd ck cm 457 i) : LI p l e s m below meth c b dC dI ad bd ck cm 163 i := by
  intro rf n fr a ar z pc pe pt pp pf ic ie ip iz ia st rt pb th le fo en fF fA fB fS fW sk pg ye ys yt yg yp tk gF gA gB gS gW yk hLR hRM H locs hP hD hS ls hl
  obtain ⟨⟨hx, hb, hr, hml, hown, hts0, hX, hbl, hlocks, hgv⟩, hL, hKG, hKM, hN, hZ⟩ := C
  have hts : ∀ w ∈ T0, w.before #[Value.ref b] s = true := fun w h => hts0 w (List.mem_filter.mp h).1
  have hA : ∀ q : Nat, s.heap.size ≤ q → (fun q : Nat => s.heap.size ≤ q) q := fun _ h => h
  have hbA : ¬ (fun q : Nat => s.heap.size ≤ q) b := Nat.not_le.mpr hbl
  obtain ⟨hn, ha, hz, hFr, hAr, hLe, hSk, hAL⟩ := id hLR
  obtain ⟨rAt, rFl, rAb, hic, hyp, hgs, hgf, hpg, hyt, hyt2⟩ := id hRM
  have hin1 : vp_in (nI i + 1) L := law_in 1 (by decide) hi hL
  have hin2 : vp_in (nI i + 2) L := law_in 2 (by decide) hi hL
  have hin3 : vp_in (nI i + 3) L := law_in 3 (by decide) hi hL
  have hin4 : vp_in (nI i + 4) L := law_in 4 (by decide) hi hL
  have hin5 : vp_in (nI i + 5) L := law_in 5 (by decide) hi hL
  refine lv_aload_n hx hb d_LW_163 rfl (lv_at hl 2 rfl) ?_
  refine lv_aload_n hx hb d_LW_164 rfl (lv_at hl 3 rfl) ?_
  refine lv_iload_n hx hb d_LW_165 rfl (lv_at hl 0 rfl) ?_
  refine lv_iconst (v := 1) hx hb d_LW_166 (by decide) ?_
  refine lv_iadd hx hb d_LW_167 ?_
  refine va_sld hx hb hX hbl hbA hS hin1 d_LW_168 ?_
  refine zcalli (wr := wsM bd cm th n fr a z le rf fo en fF fA fB fS fW sk pg ye ys yt yg yp tk gF gA gB gS gW yk) (va_runV (As := [.int (xs (nI i + 1).toNatClampNeg)]) (rest := []) ⟨hx, hb, hml, hown, hts⟩ (c_gt_end l dC dI ad ck rf n fr a ar z pc pe pt pp pf ic ie ip iz ia st rt pb (xs (nI i + 1).toNatClampNeg) hn H.size) (cwV 1 hts (xgV wd_204 wd_205 wd_206 wd_15 wd_207) rfl rfl rfl (by decide +kernel) ⟨Nat.le_of_ble_eq_true rfl, Nat.le_of_ble_eq_true rfl⟩) (xpreV (q0 := 0) hKG hN hZ hA hS (xPr (wr := wsM bd cm th n fr a z le rf fo en fF fA fB fS fW sk pg ye ys yt yg yp tk gF gA gB gS gW yk) hP) (xDr (wr := wsM bd cm th n fr a z le rf fo en fF fA fB fS fW sk pg ye ys yt yg yp tk gF gA gB gS gW yk) hD) rfl rfl) rfl rfl hl.1 rfl (lv_room (Nat.le_of_ble_eq_true rfl)) d_LW_169 ⟨Nat.le_of_ble_eq_true rfl, Nat.le_of_ble_eq_true rfl⟩) hP hD hS hA (fun rG H locs hG hP hD hS => ?_)
  have hG9 := hG
  have hP := xPperm List.perm_append_comm hP
  have hD := xDperm List.perm_append_comm hD
  refine lv_aload_n hx hb d_LW_172 rfl (lv_at hl 1 rfl) ?_
  refine lv_aload_n hx hb d_LW_173 rfl (lv_at hl 3 rfl) ?_
  refine lv_iload_n hx hb d_LW_174 rfl (lv_at hl 0 rfl) ?_
  refine lv_iconst (v := 1) hx hb d_LW_175 (by decide) ?_
  refine lv_iadd hx hb d_LW_176 ?_
  refine va_sld hx hb hX hbl hbA hS hin1 d_LW_177 ?_
  refine zcalli (wr := wsG ad ck rf (fbCut n (xs (nI i + 1).toNatClampNeg)) fr a ar z pc pe pt pp pf ic ie ip iz ia st rt pb) (va_runV (As := [.int (xs (nI i + 1).toNatClampNeg)]) (rest := [.int rG]) ⟨hx, hb, hml, hown, hts⟩ (m_end l dC dI bd cm th n fr a z le rf fo en fF fA fB fS fW sk pg ye ys yt yg yp tk gF gA gB gS gW yk (xs (nI i + 1).toNatClampNeg) hn H.size) (cwV 1 hts (xgV wd_482 wd_483 wd_484 wd_22 wd_485) rfl rfl rfl (by decide +kernel) ⟨Nat.le_of_ble_eq_true rfl, Nat.le_of_ble_eq_true rfl⟩) (xpreV (q0 := 0) hKM hN hZ hA hS (xPr (wr := wsG ad ck rf (fbCut n (xs (nI i + 1).toNatClampNeg)) fr a ar z pc pe pt pp pf ic ie ip iz ia st rt pb) hP) (xDr (wr := wsG ad ck rf (fbCut n (xs (nI i + 1).toNatClampNeg)) fr a ar z pc pe pt pp pf ic ie ip iz ia st rt pb) hD) rfl rfl) rfl rfl hl.1 rfl (lv_room (Nat.le_of_ble_eq_true rfl)) d_LW_178 ⟨Nat.le_of_ble_eq_true rfl, Nat.le_of_ble_eq_true rfl⟩) hP hD hS hA (fun rM H locs hM hP hD hS => ?_)
  have hP := xPperm List.perm_append_comm hP
  have hD := xDperm List.perm_append_comm hD
  refine lv_icmp_eq (tgt := 457) hx hb d_LW_181 (by decide) (fun c9 => ?_) (fun c9 => absurd (by rw [hG9, hM]) c9)
  exact hGo rf (fbCut n (xs (nI i + 1).toNatClampNeg)) fr a ar z pc pe pt pp pf ic ie ip iz ia st rt pb 0 le fo en fF fA fB fS fW sk pg ye ys yt yg yp tk gF gA gB gS gW yk ⟨fbCut_le hn, ha, hz, hFr, hAr, hLe, hSk, hAL⟩ hRM H locs hP hD hS ls hl
set_option maxHeartbeats 4000000 in
set_option maxRecDepth 100000 in
theorem law_2 {p : Program} {l : Launch} {e : Env} {s : State} {m : MethodId} {below : List Frame} {meth : Method} {c : Code} {b L : Nat} {xs : Nat → Int32} {dC : Nat → ClassId} {dI : Nat → Nat → Nat} {ad bd : Nat → Nat} {ck cm : Nat → ClassId} {i : Nat} (C : LC p s m meth c b L xs dC dI ck cm) (hi : i + 6 ≤ L) (hGo : LI p l e s m below meth c b dC dI ad bd ck cm 457 i) : LI p l e s m below meth c b dC dI ad bd ck cm 186 i := by
  intro rf n fr a ar z pc pe pt pp pf ic ie ip iz ia st rt pb th le fo en fF fA fB fS fW sk pg ye ys yt yg yp tk gF gA gB gS gW yk hLR hRM H locs hP hD hS ls hl
  obtain ⟨⟨hx, hb, hr, hml, hown, hts0, hX, hbl, hlocks, hgv⟩, hL, hKG, hKM, hN, hZ⟩ := C
  have hts : ∀ w ∈ T0, w.before #[Value.ref b] s = true := fun w h => hts0 w (List.mem_filter.mp h).1
  have hA : ∀ q : Nat, s.heap.size ≤ q → (fun q : Nat => s.heap.size ≤ q) q := fun _ h => h
  have hbA : ¬ (fun q : Nat => s.heap.size ≤ q) b := Nat.not_le.mpr hbl
  obtain ⟨hn, ha, hz, hFr, hAr, hLe, hSk, hAL⟩ := id hLR
  obtain ⟨rAt, rFl, rAb, hic, hyp, hgs, hgf, hpg, hyt, hyt2⟩ := id hRM
  have hin1 : vp_in (nI i + 1) L := law_in 1 (by decide) hi hL
  have hin2 : vp_in (nI i + 2) L := law_in 2 (by decide) hi hL
  have hin3 : vp_in (nI i + 3) L := law_in 3 (by decide) hi hL
  have hin4 : vp_in (nI i + 4) L := law_in 4 (by decide) hi hL
  have hin5 : vp_in (nI i + 5) L := law_in 5 (by decide) hi hL
  refine lv_aload_n hx hb d_LW_186 rfl (lv_at hl 2 rfl) ?_
  refine lv_aload_n hx hb d_LW_187 rfl (lv_at hl 3 rfl) ?_
  refine lv_iload_n hx hb d_LW_188 rfl (lv_at hl 0 rfl) ?_
  refine lv_iconst (v := 1) hx hb d_LW_189 (by decide) ?_
  refine lv_iadd hx hb d_LW_190 ?_
  refine va_sld hx hb hX hbl hbA hS hin1 d_LW_191 ?_
  refine lv_aload_n hx hb d_LW_192 rfl (lv_at hl 3 rfl) ?_
  refine lv_iload_n hx hb d_LW_193 rfl (lv_at hl 0 rfl) ?_
  refine lv_iconst (v := 2) hx hb d_LW_194 (by decide) ?_
  refine lv_iadd hx hb d_LW_195 ?_
  refine va_sld hx hb hX hbl hbA hS hin2 d_LW_196 ?_
  refine zcalli (wr := wsM bd cm th n fr a z le rf fo en fF fA fB fS fW sk pg ye ys yt yg yp tk gF gA gB gS gW yk) (va_runV (As := [.int (xs (nI i + 1).toNatClampNeg), .int (xs (nI i + 2).toNatClampNeg)]) (rest := []) ⟨hx, hb, hml, hown, hts⟩ (c_gt_set l dC dI ad ck rf n fr a ar z pc pe pt pp pf ic ie ip iz ia st rt pb (xs (nI i + 1).toNatClampNeg) (xs (nI i + 2).toNatClampNeg) hn H.size) (cwV 2 hts (xgV wd_212 wd_213 wd_214 wd_15 wd_215) rfl rfl rfl (by decide +kernel) ⟨Nat.le_of_ble_eq_true rfl, Nat.le_of_ble_eq_true rfl⟩) (xpreV (q0 := 0) hKG hN hZ hA hS (xPr (wr := wsM bd cm th n fr a z le rf fo en fF fA fB fS fW sk pg ye ys yt yg yp tk gF gA gB gS gW yk) hP) (xDr (wr := wsM bd cm th n fr a z le rf fo en fF fA fB fS fW sk pg ye ys yt yg yp tk gF gA gB gS gW yk) hD) rfl rfl) rfl rfl hl.1 rfl (lv_room (Nat.le_of_ble_eq_true rfl)) d_LW_197 ⟨Nat.le_of_ble_eq_true rfl, Nat.le_of_ble_eq_true rfl⟩) hP hD hS hA (fun rG H locs hG hP hD hS => ?_)
  have hG9 := hG
  have hP := xPperm List.perm_append_comm hP
  have hD := xDperm List.perm_append_comm hD
  refine lv_aload_n hx hb d_LW_200 rfl (lv_at hl 1 rfl) ?_
  refine lv_aload_n hx hb d_LW_201 rfl (lv_at hl 3 rfl) ?_
  refine lv_iload_n hx hb d_LW_202 rfl (lv_at hl 0 rfl) ?_
  refine lv_iconst (v := 1) hx hb d_LW_203 (by decide) ?_
  refine lv_iadd hx hb d_LW_204 ?_
  refine va_sld hx hb hX hbl hbA hS hin1 d_LW_205 ?_
  refine lv_aload_n hx hb d_LW_206 rfl (lv_at hl 3 rfl) ?_
  refine lv_iload_n hx hb d_LW_207 rfl (lv_at hl 0 rfl) ?_
  refine lv_iconst (v := 2) hx hb d_LW_208 (by decide) ?_
  refine lv_iadd hx hb d_LW_209 ?_
  refine va_sld hx hb hX hbl hbA hS hin2 d_LW_210 ?_
  refine zcalli (wr := wsG ad ck rf n (stF n fr (xs (nI i + 1).toNatClampNeg) (xs (nI i + 2).toNatClampNeg)) a ar z pc pe pt pp pf ic ie ip iz ia st rt pb) (va_runV (As := [.int (xs (nI i + 1).toNatClampNeg), .int (xs (nI i + 2).toNatClampNeg)]) (rest := [.int rG]) ⟨hx, hb, hml, hown, hts⟩ (m_set l dC dI bd cm th n fr a z le rf fo en fF fA fB fS fW sk pg ye ys yt yg yp tk gF gA gB gS gW yk (xs (nI i + 1).toNatClampNeg) (xs (nI i + 2).toNatClampNeg) hn H.size) (cwV 2 hts (xgV wd_486 wd_487 wd_488 wd_22 wd_489) rfl rfl rfl (by decide +kernel) ⟨Nat.le_of_ble_eq_true rfl, Nat.le_of_ble_eq_true rfl⟩) (xpreV (q0 := 0) hKM hN hZ hA hS (xPr (wr := wsG ad ck rf n (stF n fr (xs (nI i + 1).toNatClampNeg) (xs (nI i + 2).toNatClampNeg)) a ar z pc pe pt pp pf ic ie ip iz ia st rt pb) hP) (xDr (wr := wsG ad ck rf n (stF n fr (xs (nI i + 1).toNatClampNeg) (xs (nI i + 2).toNatClampNeg)) a ar z pc pe pt pp pf ic ie ip iz ia st rt pb) hD) rfl rfl) rfl rfl hl.1 rfl (lv_room (Nat.le_of_ble_eq_true rfl)) d_LW_211 ⟨Nat.le_of_ble_eq_true rfl, Nat.le_of_ble_eq_true rfl⟩) hP hD hS hA (fun rM H locs hM hP hD hS => ?_)
  have hP := xPperm List.perm_append_comm hP
  have hD := xDperm List.perm_append_comm hD
  rw [st_ms] at hP hD
  refine lv_icmp_eq (tgt := 457) hx hb d_LW_214 (by decide) (fun c9 => ?_) (fun c9 => absurd (by rw [hG9, hM]) c9)
  exact hGo rf n (stF n fr (xs (nI i + 1).toNatClampNeg) (xs (nI i + 2).toNatClampNeg)) a ar z pc pe pt pp pf ic ie ip iz ia st rt pb 0 le fo en fF fA fB fS fW sk pg ye ys yt yg yp tk gF gA gB gS gW yk ⟨hn, ha, hz, stF_fit hFr, hAr, hLe, hSk, hAL⟩ hRM H locs hP hD hS ls hl
set_option maxHeartbeats 4000000 in
set_option maxRecDepth 100000 in
theorem law_3 {p : Program} {l : Launch} {e : Env} {s : State} {m : MethodId} {below : List Frame} {meth : Method} {c : Code} {b L : Nat} {xs : Nat → Int32} {dC : Nat → ClassId} {dI : Nat → Nat → Nat} {ad bd : Nat → Nat} {ck cm : Nat → ClassId} {i : Nat} (C : LC p s m meth c b L xs dC dI ck cm) (hi : i + 6 ≤ L) (hGo : LI p l e s m below meth c b dC dI ad bd ck cm 457 i) : LI p l e s m below meth c b dC dI ad bd ck cm 219 i := by
  intro rf n fr a ar z pc pe pt pp pf ic ie ip iz ia st rt pb th le fo en fF fA fB fS fW sk pg ye ys yt yg yp tk gF gA gB gS gW yk hLR hRM H locs hP hD hS ls hl
  obtain ⟨⟨hx, hb, hr, hml, hown, hts0, hX, hbl, hlocks, hgv⟩, hL, hKG, hKM, hN, hZ⟩ := C
  have hts : ∀ w ∈ T0, w.before #[Value.ref b] s = true := fun w h => hts0 w (List.mem_filter.mp h).1
  have hA : ∀ q : Nat, s.heap.size ≤ q → (fun q : Nat => s.heap.size ≤ q) q := fun _ h => h
  have hbA : ¬ (fun q : Nat => s.heap.size ≤ q) b := Nat.not_le.mpr hbl
  obtain ⟨hn, ha, hz, hFr, hAr, hLe, hSk, hAL⟩ := id hLR
  obtain ⟨rAt, rFl, rAb, hic, hyp, hgs, hgf, hpg, hyt, hyt2⟩ := id hRM
  have hin1 : vp_in (nI i + 1) L := law_in 1 (by decide) hi hL
  have hin2 : vp_in (nI i + 2) L := law_in 2 (by decide) hi hL
  have hin3 : vp_in (nI i + 3) L := law_in 3 (by decide) hi hL
  have hin4 : vp_in (nI i + 4) L := law_in 4 (by decide) hi hL
  have hin5 : vp_in (nI i + 5) L := law_in 5 (by decide) hi hL
  refine lv_aload_n hx hb d_LW_219 rfl (lv_at hl 2 rfl) ?_
  refine lv_aload_n hx hb d_LW_220 rfl (lv_at hl 3 rfl) ?_
  refine lv_iload_n hx hb d_LW_221 rfl (lv_at hl 0 rfl) ?_
  refine lv_iconst (v := 1) hx hb d_LW_222 (by decide) ?_
  refine lv_iadd hx hb d_LW_223 ?_
  refine va_sld hx hb hX hbl hbA hS hin1 d_LW_224 ?_
  refine lv_aload_n hx hb d_LW_225 rfl (lv_at hl 3 rfl) ?_
  refine lv_iload_n hx hb d_LW_226 rfl (lv_at hl 0 rfl) ?_
  refine lv_iconst (v := 2) hx hb d_LW_227 (by decide) ?_
  refine lv_iadd hx hb d_LW_228 ?_
  refine va_sld hx hb hX hbl hbA hS hin2 d_LW_229 ?_
  refine lv_aload_n hx hb d_LW_230 rfl (lv_at hl 3 rfl) ?_
  refine lv_iload_n hx hb d_LW_231 rfl (lv_at hl 0 rfl) ?_
  refine lv_iconst (v := 3) hx hb d_LW_232 (by decide) ?_
  refine lv_iadd hx hb d_LW_233 ?_
  refine va_sld hx hb hX hbl hbA hS hin3 d_LW_234 ?_
  refine zcalli (wr := wsM bd cm th n fr a z le rf fo en fF fA fB fS fW sk pg ye ys yt yg yp tk gF gA gB gS gW yk) (va_runV (As := [.int (xs (nI i + 1).toNatClampNeg), .int (xs (nI i + 2).toNatClampNeg), .int (xs (nI i + 3).toNatClampNeg)]) (rest := []) ⟨hx, hb, hml, hown, hts⟩ (c_gt_put l dC dI ad ck rf n fr a ar z pc pe pt pp pf ic ie ip iz ia st rt pb (xs (nI i + 1).toNatClampNeg) (xs (nI i + 2).toNatClampNeg) (xs (nI i + 3).toNatClampNeg) hn H.size) (cwV 3 hts (xgV wd_224 wd_225 wd_226 wd_15 wd_227) rfl rfl rfl (by decide +kernel) ⟨Nat.le_of_ble_eq_true rfl, Nat.le_of_ble_eq_true rfl⟩) (xpreV (q0 := 0) hKG hN hZ hA hS (xPr (wr := wsM bd cm th n fr a z le rf fo en fF fA fB fS fW sk pg ye ys yt yg yp tk gF gA gB gS gW yk) hP) (xDr (wr := wsM bd cm th n fr a z le rf fo en fF fA fB fS fW sk pg ye ys yt yg yp tk gF gA gB gS gW yk) hD) rfl rfl) rfl rfl hl.1 rfl (lv_room (Nat.le_of_ble_eq_true rfl)) d_LW_235 ⟨Nat.le_of_ble_eq_true rfl, Nat.le_of_ble_eq_true rfl⟩) hP hD hS hA (fun rG H locs hG hP hD hS => ?_)
  have hG9 := hG
  have hP := xPperm List.perm_append_comm hP
  have hD := xDperm List.perm_append_comm hD
  refine lv_aload_n hx hb d_LW_238 rfl (lv_at hl 1 rfl) ?_
  refine lv_aload_n hx hb d_LW_239 rfl (lv_at hl 3 rfl) ?_
  refine lv_iload_n hx hb d_LW_240 rfl (lv_at hl 0 rfl) ?_
  refine lv_iconst (v := 1) hx hb d_LW_241 (by decide) ?_
  refine lv_iadd hx hb d_LW_242 ?_
  refine va_sld hx hb hX hbl hbA hS hin1 d_LW_243 ?_
  refine lv_aload_n hx hb d_LW_244 rfl (lv_at hl 3 rfl) ?_
  refine lv_iload_n hx hb d_LW_245 rfl (lv_at hl 0 rfl) ?_
  refine lv_iconst (v := 2) hx hb d_LW_246 (by decide) ?_
  refine lv_iadd hx hb d_LW_247 ?_
  refine va_sld hx hb hX hbl hbA hS hin2 d_LW_248 ?_
  refine lv_aload_n hx hb d_LW_249 rfl (lv_at hl 3 rfl) ?_
  refine lv_iload_n hx hb d_LW_250 rfl (lv_at hl 0 rfl) ?_
  refine lv_iconst (v := 3) hx hb d_LW_251 (by decide) ?_
  refine lv_iadd hx hb d_LW_252 ?_
  refine va_sld hx hb hX hbl hbA hS hin3 d_LW_253 ?_
  refine zcalli (wr := wsG ad ck rf n (ptF n fr (xs (nI i + 1).toNatClampNeg) (xs (nI i + 2).toNatClampNeg) (xs (nI i + 3).toNatClampNeg)) a ar z pc pe pt pp pf ic ie ip iz ia st rt pb) (va_runV (As := [.int (xs (nI i + 1).toNatClampNeg), .int (xs (nI i + 2).toNatClampNeg), .int (xs (nI i + 3).toNatClampNeg)]) (rest := [.int rG]) ⟨hx, hb, hml, hown, hts⟩ (m_put l dC dI bd cm th n fr a z le rf fo en fF fA fB fS fW sk pg ye ys yt yg yp tk gF gA gB gS gW yk (xs (nI i + 1).toNatClampNeg) (xs (nI i + 2).toNatClampNeg) (xs (nI i + 3).toNatClampNeg) hn H.size) (cwV 3 hts (xgV wd_490 wd_491 wd_492 wd_22 wd_493) rfl rfl rfl (by decide +kernel) ⟨Nat.le_of_ble_eq_true rfl, Nat.le_of_ble_eq_true rfl⟩) (xpreV (q0 := 0) hKM hN hZ hA hS (xPr (wr := wsG ad ck rf n (ptF n fr (xs (nI i + 1).toNatClampNeg) (xs (nI i + 2).toNatClampNeg) (xs (nI i + 3).toNatClampNeg)) a ar z pc pe pt pp pf ic ie ip iz ia st rt pb) hP) (xDr (wr := wsG ad ck rf n (ptF n fr (xs (nI i + 1).toNatClampNeg) (xs (nI i + 2).toNatClampNeg) (xs (nI i + 3).toNatClampNeg)) a ar z pc pe pt pp pf ic ie ip iz ia st rt pb) hD) rfl rfl) rfl rfl hl.1 rfl (lv_room (Nat.le_of_ble_eq_true rfl)) d_LW_254 ⟨Nat.le_of_ble_eq_true rfl, Nat.le_of_ble_eq_true rfl⟩) hP hD hS hA (fun rM H locs hM hP hD hS => ?_)
  have hP := xPperm List.perm_append_comm hP
  have hD := xDperm List.perm_append_comm hD
  rw [pt_mp] at hP hD
  refine lv_icmp_eq (tgt := 457) hx hb d_LW_257 (by decide) (fun c9 => ?_) (fun c9 => absurd (by rw [hG9, hM]) c9)
  exact hGo rf n (ptF n fr (xs (nI i + 1).toNatClampNeg) (xs (nI i + 2).toNatClampNeg) (xs (nI i + 3).toNatClampNeg)) a ar z pc pe pt pp pf ic ie ip iz ia st rt pb 0 le fo en fF fA fB fS fW sk pg ye ys yt yg yp tk gF gA gB gS gW yk ⟨hn, ha, hz, ptF_fit hFr, hAr, hLe, hSk, hAL⟩ hRM H locs hP hD hS ls hl
set_option maxHeartbeats 4000000 in
set_option maxRecDepth 100000 in
theorem law_4 {p : Program} {l : Launch} {e : Env} {s : State} {m : MethodId} {below : List Frame} {meth : Method} {c : Code} {b L : Nat} {xs : Nat → Int32} {dC : Nat → ClassId} {dI : Nat → Nat → Nat} {ad bd : Nat → Nat} {ck cm : Nat → ClassId} {i : Nat} (C : LC p s m meth c b L xs dC dI ck cm) (hi : i + 6 ≤ L) (hGo : LI p l e s m below meth c b dC dI ad bd ck cm 457 i) : LI p l e s m below meth c b dC dI ad bd ck cm 262 i := by
  intro rf n fr a ar z pc pe pt pp pf ic ie ip iz ia st rt pb th le fo en fF fA fB fS fW sk pg ye ys yt yg yp tk gF gA gB gS gW yk hLR hRM H locs hP hD hS ls hl
  obtain ⟨⟨hx, hb, hr, hml, hown, hts0, hX, hbl, hlocks, hgv⟩, hL, hKG, hKM, hN, hZ⟩ := C
  have hts : ∀ w ∈ T0, w.before #[Value.ref b] s = true := fun w h => hts0 w (List.mem_filter.mp h).1
  have hA : ∀ q : Nat, s.heap.size ≤ q → (fun q : Nat => s.heap.size ≤ q) q := fun _ h => h
  have hbA : ¬ (fun q : Nat => s.heap.size ≤ q) b := Nat.not_le.mpr hbl
  obtain ⟨hn, ha, hz, hFr, hAr, hLe, hSk, hAL⟩ := id hLR
  obtain ⟨rAt, rFl, rAb, hic, hyp, hgs, hgf, hpg, hyt, hyt2⟩ := id hRM
  have hin1 : vp_in (nI i + 1) L := law_in 1 (by decide) hi hL
  have hin2 : vp_in (nI i + 2) L := law_in 2 (by decide) hi hL
  have hin3 : vp_in (nI i + 3) L := law_in 3 (by decide) hi hL
  have hin4 : vp_in (nI i + 4) L := law_in 4 (by decide) hi hL
  have hin5 : vp_in (nI i + 5) L := law_in 5 (by decide) hi hL
  refine lv_aload_n hx hb d_LW_262 rfl (lv_at hl 2 rfl) ?_
  refine zcalli (wr := wsM bd cm th n fr a z le rf fo en fF fA fB fS fW sk pg ye ys yt yg yp tk gF gA gB gS gW yk) (va_runV (As := []) (rest := []) ⟨hx, hb, hml, hown, hts⟩ (c_gt_length l dC dI ad ck rf n fr a ar z pc pe pt pp pf ic ie ip iz ia st rt pb  H.size) (cwV 0 hts (xgV wd_228 wd_229 wd_230 wd_15 wd_231) rfl rfl rfl (by decide +kernel) ⟨Nat.le_of_ble_eq_true rfl, Nat.le_of_ble_eq_true rfl⟩) (xpreV (q0 := 0) hKG hN hZ hA hS (xPr (wr := wsM bd cm th n fr a z le rf fo en fF fA fB fS fW sk pg ye ys yt yg yp tk gF gA gB gS gW yk) hP) (xDr (wr := wsM bd cm th n fr a z le rf fo en fF fA fB fS fW sk pg ye ys yt yg yp tk gF gA gB gS gW yk) hD) rfl rfl) rfl rfl hl.1 rfl (lv_room (Nat.le_of_ble_eq_true rfl)) d_LW_263 ⟨Nat.le_of_ble_eq_true rfl, Nat.le_of_ble_eq_true rfl⟩) hP hD hS hA (fun rG H locs hG hP hD hS => ?_)
  have hG9 := hG
  have hP := xPperm List.perm_append_comm hP
  have hD := xDperm List.perm_append_comm hD
  refine lv_aload_n hx hb d_LW_266 rfl (lv_at hl 1 rfl) ?_
  refine zcalli (wr := wsG ad ck rf n fr a ar z pc pe pt pp pf ic ie ip iz ia st rt pb) (va_runV (As := []) (rest := [.int rG]) ⟨hx, hb, hml, hown, hts⟩ (m_length l dC dI bd cm th n fr a z le rf fo en fF fA fB fS fW sk pg ye ys yt yg yp tk gF gA gB gS gW yk  H.size) (cwV 0 hts (xgV wd_494 wd_495 wd_496 wd_22 wd_497) rfl rfl rfl (by decide +kernel) ⟨Nat.le_of_ble_eq_true rfl, Nat.le_of_ble_eq_true rfl⟩) (xpreV (q0 := 0) hKM hN hZ hA hS (xPr (wr := wsG ad ck rf n fr a ar z pc pe pt pp pf ic ie ip iz ia st rt pb) hP) (xDr (wr := wsG ad ck rf n fr a ar z pc pe pt pp pf ic ie ip iz ia st rt pb) hD) rfl rfl) rfl rfl hl.1 rfl (lv_room (Nat.le_of_ble_eq_true rfl)) d_LW_267 ⟨Nat.le_of_ble_eq_true rfl, Nat.le_of_ble_eq_true rfl⟩) hP hD hS hA (fun rM H locs hM hP hD hS => ?_)
  have hP := xPperm List.perm_append_comm hP
  have hD := xDperm List.perm_append_comm hD
  refine lv_icmp_eq (tgt := 457) hx hb d_LW_270 (by decide) (fun c9 => ?_) (fun c9 => absurd (by rw [hG9, hM]) c9)
  exact hGo rf n fr a ar z pc pe pt pp pf ic ie ip iz ia st rt pb 0 le fo en fF fA fB fS fW sk pg ye ys yt yg yp tk gF gA gB gS gW yk hLR hRM H locs hP hD hS ls hl
set_option maxHeartbeats 4000000 in
set_option maxRecDepth 100000 in
theorem law_5 {p : Program} {l : Launch} {e : Env} {s : State} {m : MethodId} {below : List Frame} {meth : Method} {c : Code} {b L : Nat} {xs : Nat → Int32} {dC : Nat → ClassId} {dI : Nat → Nat → Nat} {ad bd : Nat → Nat} {ck cm : Nat → ClassId} {i : Nat} (C : LC p s m meth c b L xs dC dI ck cm) (hi : i + 6 ≤ L) (hGo : LI p l e s m below meth c b dC dI ad bd ck cm 457 i) : LI p l e s m below meth c b dC dI ad bd ck cm 275 i := by
  intro rf n fr a ar z pc pe pt pp pf ic ie ip iz ia st rt pb th le fo en fF fA fB fS fW sk pg ye ys yt yg yp tk gF gA gB gS gW yk hLR hRM H locs hP hD hS ls hl
  obtain ⟨⟨hx, hb, hr, hml, hown, hts0, hX, hbl, hlocks, hgv⟩, hL, hKG, hKM, hN, hZ⟩ := C
  have hts : ∀ w ∈ T0, w.before #[Value.ref b] s = true := fun w h => hts0 w (List.mem_filter.mp h).1
  have hA : ∀ q : Nat, s.heap.size ≤ q → (fun q : Nat => s.heap.size ≤ q) q := fun _ h => h
  have hbA : ¬ (fun q : Nat => s.heap.size ≤ q) b := Nat.not_le.mpr hbl
  obtain ⟨hn, ha, hz, hFr, hAr, hLe, hSk, hAL⟩ := id hLR
  obtain ⟨rAt, rFl, rAb, hic, hyp, hgs, hgf, hpg, hyt, hyt2⟩ := id hRM
  have hin1 : vp_in (nI i + 1) L := law_in 1 (by decide) hi hL
  have hin2 : vp_in (nI i + 2) L := law_in 2 (by decide) hi hL
  have hin3 : vp_in (nI i + 3) L := law_in 3 (by decide) hi hL
  have hin4 : vp_in (nI i + 4) L := law_in 4 (by decide) hi hL
  have hin5 : vp_in (nI i + 5) L := law_in 5 (by decide) hi hL
  refine lv_aload_n hx hb d_LW_275 rfl (lv_at hl 2 rfl) ?_
  refine zcalli (wr := wsM bd cm th n fr a z le rf fo en fF fA fB fS fW sk pg ye ys yt yg yp tk gF gA gB gS gW yk) (va_runV (As := []) (rest := []) ⟨hx, hb, hml, hown, hts⟩ (c_gt_argument l dC dI ad ck rf n fr a ar z pc pe pt pp pf ic ie ip iz ia st rt pb ha H.size) (cwV 0 hts (xgV wd_232 wd_233 wd_234 wd_15 wd_235) rfl rfl rfl (by decide +kernel) ⟨Nat.le_of_ble_eq_true rfl, Nat.le_of_ble_eq_true rfl⟩) (xpreV (q0 := 0) hKG hN hZ hA hS (xPr (wr := wsM bd cm th n fr a z le rf fo en fF fA fB fS fW sk pg ye ys yt yg yp tk gF gA gB gS gW yk) hP) (xDr (wr := wsM bd cm th n fr a z le rf fo en fF fA fB fS fW sk pg ye ys yt yg yp tk gF gA gB gS gW yk) hD) rfl rfl) rfl rfl hl.1 rfl (lv_room (Nat.le_of_ble_eq_true rfl)) d_LW_276 ⟨Nat.le_of_ble_eq_true rfl, Nat.le_of_ble_eq_true rfl⟩) hP hD hS hA (fun rG H locs hG hP hD hS => ?_)
  have hG9 := hG
  have hP := xPperm List.perm_append_comm hP
  have hD := xDperm List.perm_append_comm hD
  refine lv_aload_n hx hb d_LW_279 rfl (lv_at hl 1 rfl) ?_
  refine zcalli (wr := wsG ad ck rf n fr (agN a) ar (agZ a z) pc pe pt pp pf ic ie ip iz ia st rt pb) (va_runV (As := []) (rest := [.int rG]) ⟨hx, hb, hml, hown, hts⟩ (m_argument l dC dI bd cm th n fr a z le rf fo en fF fA fB fS fW sk pg ye ys yt yg yp tk gF gA gB gS gW yk ha H.size) (cwV 0 hts (xgV wd_498 wd_499 wd_500 wd_22 wd_501) rfl rfl rfl (by decide +kernel) ⟨Nat.le_of_ble_eq_true rfl, Nat.le_of_ble_eq_true rfl⟩) (xpreV (q0 := 0) hKM hN hZ hA hS (xPr (wr := wsG ad ck rf n fr (agN a) ar (agZ a z) pc pe pt pp pf ic ie ip iz ia st rt pb) hP) (xDr (wr := wsG ad ck rf n fr (agN a) ar (agZ a z) pc pe pt pp pf ic ie ip iz ia st rt pb) hD) rfl rfl) rfl rfl hl.1 rfl (lv_room (Nat.le_of_ble_eq_true rfl)) d_LW_280 ⟨Nat.le_of_ble_eq_true rfl, Nat.le_of_ble_eq_true rfl⟩) hP hD hS hA (fun rM H locs hM hP hD hS => ?_)
  have hP := xPperm List.perm_append_comm hP
  have hD := xDperm List.perm_append_comm hD
  refine lv_icmp_eq (tgt := 457) hx hb d_LW_283 (by decide) (fun c9 => ?_) (fun c9 => absurd (by rw [hG9, hM]) c9)
  exact hGo rf n fr (agN a) ar (agZ a z) pc pe pt pp pf ic ie ip iz ia st rt pb 0 le fo en fF fA fB fS fW sk pg ye ys yt yg yp tk gF gA gB gS gW yk ⟨hn, agN_le ha, (AL_arg hz hAL).2, hFr, hAr, hLe, hSk, (AL_arg hz hAL).1⟩ hRM H locs hP hD hS ls hl
set_option maxHeartbeats 4000000 in
set_option maxRecDepth 100000 in
theorem law_6 {p : Program} {l : Launch} {e : Env} {s : State} {m : MethodId} {below : List Frame} {meth : Method} {c : Code} {b L : Nat} {xs : Nat → Int32} {dC : Nat → ClassId} {dI : Nat → Nat → Nat} {ad bd : Nat → Nat} {ck cm : Nat → ClassId} {i : Nat} (C : LC p s m meth c b L xs dC dI ck cm) (hi : i + 6 ≤ L) (hGo : LI p l e s m below meth c b dC dI ad bd ck cm 457 i) : LI p l e s m below meth c b dC dI ad bd ck cm 288 i := by
  intro rf n fr a ar z pc pe pt pp pf ic ie ip iz ia st rt pb th le fo en fF fA fB fS fW sk pg ye ys yt yg yp tk gF gA gB gS gW yk hLR hRM H locs hP hD hS ls hl
  obtain ⟨⟨hx, hb, hr, hml, hown, hts0, hX, hbl, hlocks, hgv⟩, hL, hKG, hKM, hN, hZ⟩ := C
  have hts : ∀ w ∈ T0, w.before #[Value.ref b] s = true := fun w h => hts0 w (List.mem_filter.mp h).1
  have hA : ∀ q : Nat, s.heap.size ≤ q → (fun q : Nat => s.heap.size ≤ q) q := fun _ h => h
  have hbA : ¬ (fun q : Nat => s.heap.size ≤ q) b := Nat.not_le.mpr hbl
  obtain ⟨hn, ha, hz, hFr, hAr, hLe, hSk, hAL⟩ := id hLR
  obtain ⟨rAt, rFl, rAb, hic, hyp, hgs, hgf, hpg, hyt, hyt2⟩ := id hRM
  have hin1 : vp_in (nI i + 1) L := law_in 1 (by decide) hi hL
  have hin2 : vp_in (nI i + 2) L := law_in 2 (by decide) hi hL
  have hin3 : vp_in (nI i + 3) L := law_in 3 (by decide) hi hL
  have hin4 : vp_in (nI i + 4) L := law_in 4 (by decide) hi hL
  have hin5 : vp_in (nI i + 5) L := law_in 5 (by decide) hi hL
  refine lv_aload_n hx hb d_LW_288 rfl (lv_at hl 2 rfl) ?_
  refine lv_aload_n hx hb d_LW_289 rfl (lv_at hl 3 rfl) ?_
  refine lv_iload_n hx hb d_LW_290 rfl (lv_at hl 0 rfl) ?_
  refine lv_iconst (v := 1) hx hb d_LW_291 (by decide) ?_
  refine lv_iadd hx hb d_LW_292 ?_
  refine va_sld hx hb hX hbl hbA hS hin1 d_LW_293 ?_
  refine lv_i2l hx hb d_LW_294 rfl ?_
  refine lv_bipush (v := 32) hx hb d_LW_295 (by decide) ?_
  refine lv_lshl hx hb d_LW_297 rfl ?_
  refine lv_aload_n hx hb d_LW_298 rfl (lv_at hl 3 rfl) ?_
  refine lv_iload_n hx hb d_LW_299 rfl (lv_at hl 0 rfl) ?_
  refine lv_iconst (v := 2) hx hb d_LW_300 (by decide) ?_
  refine lv_iadd hx hb d_LW_301 ?_
  refine va_sld hx hb hX hbl hbA hS hin2 d_LW_302 ?_
  refine lv_i2l hx hb d_LW_303 rfl ?_
  refine lv_ldc2 (v := 4294967295) hx hb hown (hts _ wd_589) d_LW_304 ?_
  refine lv_land hx hb d_LW_307 ?_
  refine lv_lor hx hb d_LW_308 ?_
  refine zcalli (wr := wsM bd cm th n fr a z le rf fo en fF fA fB fS fW sk pg ye ys yt yg yp tk gF gA gB gS gW yk) (va_runV (As := [.long (((xs (nI i + 1).toNatClampNeg).toInt64 <<< ((32 : Int32).toInt64 &&& 63)) ||| ((xs (nI i + 2).toNatClampNeg).toInt64 &&& 4294967295))]) (rest := []) ⟨hx, hb, hml, hown, hts⟩ (c_gt_letters l dC dI ad ck rf n fr a ar z pc pe pt pp pf ic ie ip iz ia st rt pb (((xs (nI i + 1).toNatClampNeg).toInt64 <<< ((32 : Int32).toInt64 &&& 63)) ||| ((xs (nI i + 2).toNatClampNeg).toInt64 &&& 4294967295)) ha hz H.size) (cwV 1 hts (xgV wd_240 wd_241 wd_242 wd_15 wd_243) rfl rfl rfl (by decide +kernel) ⟨Nat.le_of_ble_eq_true rfl, Nat.le_of_ble_eq_true rfl⟩) (xpreV (q0 := 0) hKG hN hZ hA hS (xPr (wr := wsM bd cm th n fr a z le rf fo en fF fA fB fS fW sk pg ye ys yt yg yp tk gF gA gB gS gW yk) hP) (xDr (wr := wsM bd cm th n fr a z le rf fo en fF fA fB fS fW sk pg ye ys yt yg yp tk gF gA gB gS gW yk) hD) rfl rfl) rfl rfl hl.1 rfl (lv_room (Nat.le_of_ble_eq_true rfl)) d_LW_309 ⟨Nat.le_of_ble_eq_true rfl, Nat.le_of_ble_eq_true rfl⟩) hP hD hS hA (fun rG H locs hG hP hD hS => ?_)
  have hG9 := hG
  have hP := xPperm List.perm_append_comm hP
  have hD := xDperm List.perm_append_comm hD
  refine lv_aload_n hx hb d_LW_312 rfl (lv_at hl 1 rfl) ?_
  refine lv_aload_n hx hb d_LW_313 rfl (lv_at hl 3 rfl) ?_
  refine lv_iload_n hx hb d_LW_314 rfl (lv_at hl 0 rfl) ?_
  refine lv_iconst (v := 1) hx hb d_LW_315 (by decide) ?_
  refine lv_iadd hx hb d_LW_316 ?_
  refine va_sld hx hb hX hbl hbA hS hin1 d_LW_317 ?_
  refine lv_i2l hx hb d_LW_318 rfl ?_
  refine lv_bipush (v := 32) hx hb d_LW_319 (by decide) ?_
  refine lv_lshl hx hb d_LW_321 rfl ?_
  refine lv_aload_n hx hb d_LW_322 rfl (lv_at hl 3 rfl) ?_
  refine lv_iload_n hx hb d_LW_323 rfl (lv_at hl 0 rfl) ?_
  refine lv_iconst (v := 2) hx hb d_LW_324 (by decide) ?_
  refine lv_iadd hx hb d_LW_325 ?_
  refine va_sld hx hb hX hbl hbA hS hin2 d_LW_326 ?_
  refine lv_i2l hx hb d_LW_327 rfl ?_
  refine lv_ldc2 (v := 4294967295) hx hb hown (hts _ wd_589) d_LW_328 ?_
  refine lv_land hx hb d_LW_331 ?_
  refine lv_lor hx hb d_LW_332 ?_
  refine zcalli (wr := wsG ad ck rf n fr a (exFA a ar z (((xs (nI i + 1).toNatClampNeg).toInt64 <<< ((32 : Int32).toInt64 &&& 63)) ||| ((xs (nI i + 2).toNatClampNeg).toInt64 &&& 4294967295))) (exFZ a z (((xs (nI i + 1).toNatClampNeg).toInt64 <<< ((32 : Int32).toInt64 &&& 63)) ||| ((xs (nI i + 2).toNatClampNeg).toInt64 &&& 4294967295))) pc pe pt pp pf ic ie ip iz ia st rt pb) (va_runV (As := [.long (((xs (nI i + 1).toNatClampNeg).toInt64 <<< ((32 : Int32).toInt64 &&& 63)) ||| ((xs (nI i + 2).toNatClampNeg).toInt64 &&& 4294967295))]) (rest := [.int rG]) ⟨hx, hb, hml, hown, hts⟩ (m_letters l dC dI bd cm th n fr a z le rf fo en fF fA fB fS fW sk pg ye ys yt yg yp tk gF gA gB gS gW yk (((xs (nI i + 1).toNatClampNeg).toInt64 <<< ((32 : Int32).toInt64 &&& 63)) ||| ((xs (nI i + 2).toNatClampNeg).toInt64 &&& 4294967295)) ha hz H.size) (cwV 1 hts (xgV wd_502 wd_503 wd_504 wd_22 wd_505) rfl rfl rfl (by decide +kernel) ⟨Nat.le_of_ble_eq_true rfl, Nat.le_of_ble_eq_true rfl⟩) (xpreV (q0 := 0) hKM hN hZ hA hS (xPr (wr := wsG ad ck rf n fr a (exFA a ar z (((xs (nI i + 1).toNatClampNeg).toInt64 <<< ((32 : Int32).toInt64 &&& 63)) ||| ((xs (nI i + 2).toNatClampNeg).toInt64 &&& 4294967295))) (exFZ a z (((xs (nI i + 1).toNatClampNeg).toInt64 <<< ((32 : Int32).toInt64 &&& 63)) ||| ((xs (nI i + 2).toNatClampNeg).toInt64 &&& 4294967295))) pc pe pt pp pf ic ie ip iz ia st rt pb) hP) (xDr (wr := wsG ad ck rf n fr a (exFA a ar z (((xs (nI i + 1).toNatClampNeg).toInt64 <<< ((32 : Int32).toInt64 &&& 63)) ||| ((xs (nI i + 2).toNatClampNeg).toInt64 &&& 4294967295))) (exFZ a z (((xs (nI i + 1).toNatClampNeg).toInt64 <<< ((32 : Int32).toInt64 &&& 63)) ||| ((xs (nI i + 2).toNatClampNeg).toInt64 &&& 4294967295))) pc pe pt pp pf ic ie ip iz ia st rt pb) hD) rfl rfl) rfl rfl hl.1 rfl (lv_room (Nat.le_of_ble_eq_true rfl)) d_LW_333 ⟨Nat.le_of_ble_eq_true rfl, Nat.le_of_ble_eq_true rfl⟩) hP hD hS hA (fun rM H locs hM hP hD hS => ?_)
  have hP := xPperm List.perm_append_comm hP
  have hD := xDperm List.perm_append_comm hD
  refine lv_icmp_eq (tgt := 457) hx hb d_LW_336 (by decide) (fun c9 => ?_) (fun c9 => absurd (by rw [hG9, hM]) c9)
  exact hGo rf n fr a (exFA a ar z (((xs (nI i + 1).toNatClampNeg).toInt64 <<< ((32 : Int32).toInt64 &&& 63)) ||| ((xs (nI i + 2).toNatClampNeg).toInt64 &&& 4294967295))) (exFZ a z (((xs (nI i + 1).toNatClampNeg).toInt64 <<< ((32 : Int32).toInt64 &&& 63)) ||| ((xs (nI i + 2).toNatClampNeg).toInt64 &&& 4294967295))) pc pe pt pp pf ic ie ip iz ia st rt pb 0 (mxFA a le z (((xs (nI i + 1).toNatClampNeg).toInt64 <<< ((32 : Int32).toInt64 &&& 63)) ||| ((xs (nI i + 2).toNatClampNeg).toInt64 &&& 4294967295))) fo en fF fA fB fS fW sk pg ye ys yt yg yp tk gF gA gB gS gW yk ⟨hn, ha, (AL_letters _ hz ha hAL).2, hFr, exFA_fit hAr, mxFA_fit hLe, hSk, (AL_letters _ hz ha hAL).1⟩ hRM H locs hP hD hS ls hl
set_option maxHeartbeats 4000000 in
set_option maxRecDepth 100000 in
theorem law_7 {p : Program} {l : Launch} {e : Env} {s : State} {m : MethodId} {below : List Frame} {meth : Method} {c : Code} {b L : Nat} {xs : Nat → Int32} {dC : Nat → ClassId} {dI : Nat → Nat → Nat} {ad bd : Nat → Nat} {ck cm : Nat → ClassId} {i : Nat} (C : LC p s m meth c b L xs dC dI ck cm) (hi : i + 6 ≤ L) (hGo : LI p l e s m below meth c b dC dI ad bd ck cm 457 i) : LI p l e s m below meth c b dC dI ad bd ck cm 341 i := by
  intro rf n fr a ar z pc pe pt pp pf ic ie ip iz ia st rt pb th le fo en fF fA fB fS fW sk pg ye ys yt yg yp tk gF gA gB gS gW yk hLR hRM H locs hP hD hS ls hl
  obtain ⟨⟨hx, hb, hr, hml, hown, hts0, hX, hbl, hlocks, hgv⟩, hL, hKG, hKM, hN, hZ⟩ := C
  have hts : ∀ w ∈ T0, w.before #[Value.ref b] s = true := fun w h => hts0 w (List.mem_filter.mp h).1
  have hA : ∀ q : Nat, s.heap.size ≤ q → (fun q : Nat => s.heap.size ≤ q) q := fun _ h => h
  have hbA : ¬ (fun q : Nat => s.heap.size ≤ q) b := Nat.not_le.mpr hbl
  obtain ⟨hn, ha, hz, hFr, hAr, hLe, hSk, hAL⟩ := id hLR
  obtain ⟨rAt, rFl, rAb, hic, hyp, hgs, hgf, hpg, hyt, hyt2⟩ := id hRM
  have hin1 : vp_in (nI i + 1) L := law_in 1 (by decide) hi hL
  have hin2 : vp_in (nI i + 2) L := law_in 2 (by decide) hi hL
  have hin3 : vp_in (nI i + 3) L := law_in 3 (by decide) hi hL
  have hin4 : vp_in (nI i + 4) L := law_in 4 (by decide) hi hL
  have hin5 : vp_in (nI i + 5) L := law_in 5 (by decide) hi hL
  refine lv_aload_n hx hb d_LW_341 rfl (lv_at hl 2 rfl) ?_
  refine zcallv (wr := wsM bd cm th n fr a z le rf fo en fF fA fB fS fW sk pg ye ys yt yg yp tk gF gA gB gS gW yk) (va_runV (As := []) (rest := []) ⟨hx, hb, hml, hown, hts⟩ (c_gt_forget l dC dI ad ck rf n fr a ar z pc pe pt pp pf ic ie ip iz ia st rt pb  H.size) (cwV 0 hts (xgV wd_251 wd_252 wd_253 wd_15 wd_254) rfl rfl rfl (by decide +kernel) ⟨Nat.le_of_ble_eq_true rfl, Nat.le_of_ble_eq_true rfl⟩) (xpreV (q0 := 0) hKG hN hZ hA hS (xPr (wr := wsM bd cm th n fr a z le rf fo en fF fA fB fS fW sk pg ye ys yt yg yp tk gF gA gB gS gW yk) hP) (xDr (wr := wsM bd cm th n fr a z le rf fo en fF fA fB fS fW sk pg ye ys yt yg yp tk gF gA gB gS gW yk) hD) rfl rfl) rfl rfl hl.1 rfl (lv_room (Nat.le_of_ble_eq_true rfl)) d_LW_342 ⟨Nat.le_of_ble_eq_true rfl, Nat.le_of_ble_eq_true rfl⟩) hP hD hS hA (fun H locs hP hD hS => ?_)
  have hP := xPperm List.perm_append_comm hP
  have hD := xDperm List.perm_append_comm hD
  refine lv_aload_n hx hb d_LW_345 rfl (lv_at hl 1 rfl) ?_
  refine zcallv (wr := wsG ad ck rf n fr 0 ar z pc pe pt pp pf ic ie ip iz ia st rt pb) (va_runV (As := []) (rest := []) ⟨hx, hb, hml, hown, hts⟩ (m_forget l dC dI bd cm th n fr a z le rf fo en fF fA fB fS fW sk pg ye ys yt yg yp tk gF gA gB gS gW yk  H.size) (cwV 0 hts (xgV wd_507 wd_508 wd_509 wd_22 wd_510) rfl rfl rfl (by decide +kernel) ⟨Nat.le_of_ble_eq_true rfl, Nat.le_of_ble_eq_true rfl⟩) (xpreV (q0 := 0) hKM hN hZ hA hS (xPr (wr := wsG ad ck rf n fr 0 ar z pc pe pt pp pf ic ie ip iz ia st rt pb) hP) (xDr (wr := wsG ad ck rf n fr 0 ar z pc pe pt pp pf ic ie ip iz ia st rt pb) hD) rfl rfl) rfl rfl hl.1 rfl (lv_room (Nat.le_of_ble_eq_true rfl)) d_LW_346 ⟨Nat.le_of_ble_eq_true rfl, Nat.le_of_ble_eq_true rfl⟩) hP hD hS hA (fun H locs hP hD hS => ?_)
  have hP := xPperm List.perm_append_comm hP
  have hD := xDperm List.perm_append_comm hD
  refine lv_goto (tgt := 457) hx hb d_LW_349 (by decide) ?_
  exact hGo rf n fr 0 ar z pc pe pt pp pf ic ie ip iz ia st rt pb 0 le fo en fF fA fB fS fW sk pg ye ys yt yg yp tk gF gA gB gS gW yk ⟨hn, Nat.zero_le _, hz, hFr, hAr, hLe, hSk, hAL⟩ hRM H locs hP hD hS ls hl
set_option maxHeartbeats 4000000 in
set_option maxRecDepth 100000 in
theorem law_9 {p : Program} {l : Launch} {e : Env} {s : State} {m : MethodId} {below : List Frame} {meth : Method} {c : Code} {b L : Nat} {xs : Nat → Int32} {dC : Nat → ClassId} {dI : Nat → Nat → Nat} {ad bd : Nat → Nat} {ck cm : Nat → ClassId} {i : Nat} (C : LC p s m meth c b L xs dC dI ck cm) (hi : i + 6 ≤ L) (hGo : LI p l e s m below meth c b dC dI ad bd ck cm 457 i) : LI p l e s m below meth c b dC dI ad bd ck cm 375 i := by
  intro rf n fr a ar z pc pe pt pp pf ic ie ip iz ia st rt pb th le fo en fF fA fB fS fW sk pg ye ys yt yg yp tk gF gA gB gS gW yk hLR hRM H locs hP hD hS ls hl
  obtain ⟨⟨hx, hb, hr, hml, hown, hts0, hX, hbl, hlocks, hgv⟩, hL, hKG, hKM, hN, hZ⟩ := C
  have hts : ∀ w ∈ T0, w.before #[Value.ref b] s = true := fun w h => hts0 w (List.mem_filter.mp h).1
  have hA : ∀ q : Nat, s.heap.size ≤ q → (fun q : Nat => s.heap.size ≤ q) q := fun _ h => h
  have hbA : ¬ (fun q : Nat => s.heap.size ≤ q) b := Nat.not_le.mpr hbl
  obtain ⟨hn, ha, hz, hFr, hAr, hLe, hSk, hAL⟩ := id hLR
  obtain ⟨rAt, rFl, rAb, hic, hyp, hgs, hgf, hpg, hyt, hyt2⟩ := id hRM
  have hin1 : vp_in (nI i + 1) L := law_in 1 (by decide) hi hL
  have hin2 : vp_in (nI i + 2) L := law_in 2 (by decide) hi hL
  have hin3 : vp_in (nI i + 3) L := law_in 3 (by decide) hi hL
  have hin4 : vp_in (nI i + 4) L := law_in 4 (by decide) hi hL
  have hin5 : vp_in (nI i + 5) L := law_in 5 (by decide) hi hL
  refine lv_aload_n hx hb d_LW_375 rfl (lv_at hl 2 rfl) ?_
  refine zcalli (wr := wsM bd cm th n fr a z le rf fo en fF fA fB fS fW sk pg ye ys yt yg yp tk gF gA gB gS gW yk) (va_runV (As := []) (rest := []) ⟨hx, hb, hml, hown, hts⟩ (c_gt_why l dC dI ad ck rf n fr a ar z pc pe pt pp pf ic ie ip iz ia st rt pb  H.size) (cwV 0 hts (xgV wd_361 wd_362 wd_363 wd_15 wd_364) rfl rfl rfl (by decide +kernel) ⟨Nat.le_of_ble_eq_true rfl, Nat.le_of_ble_eq_true rfl⟩) (xpreV (q0 := 0) hKG hN hZ hA hS (xPr (wr := wsM bd cm th n fr a z le rf fo en fF fA fB fS fW sk pg ye ys yt yg yp tk gF gA gB gS gW yk) hP) (xDr (wr := wsM bd cm th n fr a z le rf fo en fF fA fB fS fW sk pg ye ys yt yg yp tk gF gA gB gS gW yk) hD) rfl rfl) rfl rfl hl.1 rfl (lv_room (Nat.le_of_ble_eq_true rfl)) d_LW_376 ⟨Nat.le_of_ble_eq_true rfl, Nat.le_of_ble_eq_true rfl⟩) hP hD hS hA (fun rG H locs hG hP hD hS => ?_)
  have hG9 := hG
  have hP := xPperm List.perm_append_comm hP
  have hD := xDperm List.perm_append_comm hD
  refine lv_aload_n hx hb d_LW_379 rfl (lv_at hl 1 rfl) ?_
  refine zcalli (wr := wsG ad ck rf n fr a ar z pc pe pt pp pf ic ie ip iz ia st rt pb) (va_runV (As := []) (rest := [.int rG]) ⟨hx, hb, hml, hown, hts⟩ (m_why l dC dI bd cm th n fr a z le rf fo en fF fA fB fS fW sk pg ye ys yt yg yp tk gF gA gB gS gW yk  H.size) (cwV 0 hts (xgV wd_565 wd_566 wd_567 wd_22 wd_568) rfl rfl rfl (by decide +kernel) ⟨Nat.le_of_ble_eq_true rfl, Nat.le_of_ble_eq_true rfl⟩) (xpreV (q0 := 0) hKM hN hZ hA hS (xPr (wr := wsG ad ck rf n fr a ar z pc pe pt pp pf ic ie ip iz ia st rt pb) hP) (xDr (wr := wsG ad ck rf n fr a ar z pc pe pt pp pf ic ie ip iz ia st rt pb) hD) rfl rfl) rfl rfl hl.1 rfl (lv_room (Nat.le_of_ble_eq_true rfl)) d_LW_380 ⟨Nat.le_of_ble_eq_true rfl, Nat.le_of_ble_eq_true rfl⟩) hP hD hS hA (fun rM H locs hM hP hD hS => ?_)
  have hP := xPperm List.perm_append_comm hP
  have hD := xDperm List.perm_append_comm hD
  refine lv_icmp_eq (tgt := 457) hx hb d_LW_383 (by decide) (fun c9 => ?_) (fun c9 => absurd (by rw [hG9, hM]) c9)
  exact hGo rf n fr a ar z pc pe pt pp pf ic ie ip iz ia st rt pb 0 le fo en fF fA fB fS fW sk pg ye ys yt yg yp tk gF gA gB gS gW yk hLR hRM H locs hP hD hS ls hl
set_option maxHeartbeats 4000000 in
set_option maxRecDepth 100000 in
theorem law_10 {p : Program} {l : Launch} {e : Env} {s : State} {m : MethodId} {below : List Frame} {meth : Method} {c : Code} {b L : Nat} {xs : Nat → Int32} {dC : Nat → ClassId} {dI : Nat → Nat → Nat} {ad bd : Nat → Nat} {ck cm : Nat → ClassId} {i : Nat} (C : LC p s m meth c b L xs dC dI ck cm) (hi : i + 6 ≤ L) (hGo : LI p l e s m below meth c b dC dI ad bd ck cm 457 i) : LI p l e s m below meth c b dC dI ad bd ck cm 388 i := by
  intro rf n fr a ar z pc pe pt pp pf ic ie ip iz ia st rt pb th le fo en fF fA fB fS fW sk pg ye ys yt yg yp tk gF gA gB gS gW yk hLR hRM H locs hP hD hS ls hl
  obtain ⟨⟨hx, hb, hr, hml, hown, hts0, hX, hbl, hlocks, hgv⟩, hL, hKG, hKM, hN, hZ⟩ := C
  have hts : ∀ w ∈ T0, w.before #[Value.ref b] s = true := fun w h => hts0 w (List.mem_filter.mp h).1
  have hA : ∀ q : Nat, s.heap.size ≤ q → (fun q : Nat => s.heap.size ≤ q) q := fun _ h => h
  have hbA : ¬ (fun q : Nat => s.heap.size ≤ q) b := Nat.not_le.mpr hbl
  obtain ⟨hn, ha, hz, hFr, hAr, hLe, hSk, hAL⟩ := id hLR
  obtain ⟨rAt, rFl, rAb, hic, hyp, hgs, hgf, hpg, hyt, hyt2⟩ := id hRM
  have hin1 : vp_in (nI i + 1) L := law_in 1 (by decide) hi hL
  have hin2 : vp_in (nI i + 2) L := law_in 2 (by decide) hi hL
  have hin3 : vp_in (nI i + 3) L := law_in 3 (by decide) hi hL
  have hin4 : vp_in (nI i + 4) L := law_in 4 (by decide) hi hL
  have hin5 : vp_in (nI i + 5) L := law_in 5 (by decide) hi hL
  refine lv_aload_n hx hb d_LW_388 rfl (lv_at hl 2 rfl) ?_
  refine lv_aload_n hx hb d_LW_389 rfl (lv_at hl 3 rfl) ?_
  refine lv_iload_n hx hb d_LW_390 rfl (lv_at hl 0 rfl) ?_
  refine lv_iconst (v := 1) hx hb d_LW_391 (by decide) ?_
  refine lv_iadd hx hb d_LW_392 ?_
  refine va_sld hx hb hX hbl hbA hS hin1 d_LW_393 ?_
  refine zcalli (wr := wsM bd cm th n fr a z le rf fo en fF fA fB fS fW sk pg ye ys yt yg yp tk gF gA gB gS gW yk) (va_runV (As := [.int (xs (nI i + 1).toNatClampNeg)]) (rest := []) ⟨hx, hb, hml, hown, hts⟩ (c_gt_about l dC dI ad ck rf n fr a ar z pc pe pt pp pf ic ie ip iz ia st rt pb (xs (nI i + 1).toNatClampNeg) H.size) (cwV 1 hts (xgV wd_365 wd_366 wd_367 wd_15 wd_368) rfl rfl rfl (by decide +kernel) ⟨Nat.le_of_ble_eq_true rfl, Nat.le_of_ble_eq_true rfl⟩) (xpreV (q0 := 0) hKG hN hZ hA hS (xPr (wr := wsM bd cm th n fr a z le rf fo en fF fA fB fS fW sk pg ye ys yt yg yp tk gF gA gB gS gW yk) hP) (xDr (wr := wsM bd cm th n fr a z le rf fo en fF fA fB fS fW sk pg ye ys yt yg yp tk gF gA gB gS gW yk) hD) rfl rfl) rfl rfl hl.1 rfl (lv_room (Nat.le_of_ble_eq_true rfl)) d_LW_394 ⟨Nat.le_of_ble_eq_true rfl, Nat.le_of_ble_eq_true rfl⟩) hP hD hS hA (fun rG H locs hG hP hD hS => ?_)
  have hG9 := hG
  have hP := xPperm List.perm_append_comm hP
  have hD := xDperm List.perm_append_comm hD
  refine lv_aload_n hx hb d_LW_397 rfl (lv_at hl 1 rfl) ?_
  refine lv_aload_n hx hb d_LW_398 rfl (lv_at hl 3 rfl) ?_
  refine lv_iload_n hx hb d_LW_399 rfl (lv_at hl 0 rfl) ?_
  refine lv_iconst (v := 1) hx hb d_LW_400 (by decide) ?_
  refine lv_iadd hx hb d_LW_401 ?_
  refine va_sld hx hb hX hbl hbA hS hin1 d_LW_402 ?_
  refine zcalli (wr := wsG ad ck rf n fr a ar z pc pe pt pp pf ic ie ip iz ia st rt pb) (va_runV (As := [.int (xs (nI i + 1).toNatClampNeg)]) (rest := [.int rG]) ⟨hx, hb, hml, hown, hts⟩ (m_about l dC dI bd cm th n fr a z le rf fo en fF fA fB fS fW sk pg ye ys yt yg yp tk gF gA gB gS gW yk (xs (nI i + 1).toNatClampNeg) hpg H.size) (cwV 1 hts (xgV wd_569 wd_570 wd_571 wd_22 wd_572) rfl rfl rfl (by decide +kernel) ⟨Nat.le_of_ble_eq_true rfl, Nat.le_of_ble_eq_true rfl⟩) (xpreV (q0 := 0) hKM hN hZ hA hS (xPr (wr := wsG ad ck rf n fr a ar z pc pe pt pp pf ic ie ip iz ia st rt pb) hP) (xDr (wr := wsG ad ck rf n fr a ar z pc pe pt pp pf ic ie ip iz ia st rt pb) hD) rfl rfl) rfl rfl hl.1 rfl (lv_room (Nat.le_of_ble_eq_true rfl)) d_LW_403 ⟨Nat.le_of_ble_eq_true rfl, Nat.le_of_ble_eq_true rfl⟩) hP hD hS hA (fun rM H locs hM hP hD hS => ?_)
  have hP := xPperm List.perm_append_comm hP
  have hD := xDperm List.perm_append_comm hD
  refine lv_icmp_eq (tgt := 457) hx hb d_LW_406 (by decide) (fun c9 => ?_) (fun c9 => absurd (by rw [hG9, hM]; exact rAb _) c9)
  exact hGo rf n fr a ar z pc pe pt pp pf ic ie ip iz ia st rt pb 0 le fo en fF fA fB fS fW sk pg ye ys yt yg yp tk gF gA gB gS gW yk hLR hRM H locs hP hD hS ls hl
set_option maxHeartbeats 4000000 in
set_option maxRecDepth 100000 in
theorem law_11 {p : Program} {l : Launch} {e : Env} {s : State} {m : MethodId} {below : List Frame} {meth : Method} {c : Code} {b L : Nat} {xs : Nat → Int32} {dC : Nat → ClassId} {dI : Nat → Nat → Nat} {ad bd : Nat → Nat} {ck cm : Nat → ClassId} {i : Nat} (C : LC p s m meth c b L xs dC dI ck cm) (hi : i + 6 ≤ L) (hGo : LI p l e s m below meth c b dC dI ad bd ck cm 457 i) : LI p l e s m below meth c b dC dI ad bd ck cm 411 i := by
  intro rf n fr a ar z pc pe pt pp pf ic ie ip iz ia st rt pb th le fo en fF fA fB fS fW sk pg ye ys yt yg yp tk gF gA gB gS gW yk hLR hRM H locs hP hD hS ls hl
  obtain ⟨⟨hx, hb, hr, hml, hown, hts0, hX, hbl, hlocks, hgv⟩, hL, hKG, hKM, hN, hZ⟩ := C
  have hts : ∀ w ∈ T0, w.before #[Value.ref b] s = true := fun w h => hts0 w (List.mem_filter.mp h).1
  have hA : ∀ q : Nat, s.heap.size ≤ q → (fun q : Nat => s.heap.size ≤ q) q := fun _ h => h
  have hbA : ¬ (fun q : Nat => s.heap.size ≤ q) b := Nat.not_le.mpr hbl
  obtain ⟨hn, ha, hz, hFr, hAr, hLe, hSk, hAL⟩ := id hLR
  obtain ⟨rAt, rFl, rAb, hic, hyp, hgs, hgf, hpg, hyt, hyt2⟩ := id hRM
  have hin1 : vp_in (nI i + 1) L := law_in 1 (by decide) hi hL
  have hin2 : vp_in (nI i + 2) L := law_in 2 (by decide) hi hL
  have hin3 : vp_in (nI i + 3) L := law_in 3 (by decide) hi hL
  have hin4 : vp_in (nI i + 4) L := law_in 4 (by decide) hi hL
  have hin5 : vp_in (nI i + 5) L := law_in 5 (by decide) hi hL
  refine lv_aload_n hx hb d_LW_411 rfl (lv_at hl 2 rfl) ?_
  refine lv_aload_n hx hb d_LW_412 rfl (lv_at hl 3 rfl) ?_
  refine lv_iload_n hx hb d_LW_413 rfl (lv_at hl 0 rfl) ?_
  refine lv_iconst (v := 1) hx hb d_LW_414 (by decide) ?_
  refine lv_iadd hx hb d_LW_415 ?_
  refine va_sld hx hb hX hbl hbA hS hin1 d_LW_416 ?_
  refine zcalli (wr := wsM bd cm th n fr a z le rf fo en fF fA fB fS fW sk pg ye ys yt yg yp tk gF gA gB gS gW yk) (va_runV (As := [.int (xs (nI i + 1).toNatClampNeg)]) (rest := []) ⟨hx, hb, hml, hown, hts⟩ (c_gt_at l dC dI ad ck rf n fr a ar z pc pe pt pp pf ic ie ip iz ia st rt pb (xs (nI i + 1).toNatClampNeg) hic H.size) (cwV 1 hts (xgV wd_369 wd_370 wd_371 wd_15 wd_372) rfl rfl rfl (by decide +kernel) ⟨Nat.le_of_ble_eq_true rfl, Nat.le_of_ble_eq_true rfl⟩) (xpreV (q0 := 0) hKG hN hZ hA hS (xPr (wr := wsM bd cm th n fr a z le rf fo en fF fA fB fS fW sk pg ye ys yt yg yp tk gF gA gB gS gW yk) hP) (xDr (wr := wsM bd cm th n fr a z le rf fo en fF fA fB fS fW sk pg ye ys yt yg yp tk gF gA gB gS gW yk) hD) rfl rfl) rfl rfl hl.1 rfl (lv_room (Nat.le_of_ble_eq_true rfl)) d_LW_417 ⟨Nat.le_of_ble_eq_true rfl, Nat.le_of_ble_eq_true rfl⟩) hP hD hS hA (fun rG H locs hG hP hD hS => ?_)
  have hG9 := hG
  have hP := xPperm List.perm_append_comm hP
  have hD := xDperm List.perm_append_comm hD
  refine lv_aload_n hx hb d_LW_420 rfl (lv_at hl 1 rfl) ?_
  refine lv_aload_n hx hb d_LW_421 rfl (lv_at hl 3 rfl) ?_
  refine lv_iload_n hx hb d_LW_422 rfl (lv_at hl 0 rfl) ?_
  refine lv_iconst (v := 1) hx hb d_LW_423 (by decide) ?_
  refine lv_iadd hx hb d_LW_424 ?_
  refine va_sld hx hb hX hbl hbA hS hin1 d_LW_425 ?_
  refine zcalli (wr := wsG ad ck rf n fr a ar z pc pe pt pp pf ic ie ip iz ia st rt pb) (va_runV (As := [.int (xs (nI i + 1).toNatClampNeg)]) (rest := [.int rG]) ⟨hx, hb, hml, hown, hts⟩ (m_at l dC dI bd cm th n fr a z le rf fo en fF fA fB fS fW sk pg ye ys yt yg yp tk gF gA gB gS gW yk (xs (nI i + 1).toNatClampNeg) hyp hgs hgf hpg hyt hyt2 H.size) (cwV 1 hts (xgV wd_573 wd_574 wd_575 wd_22 wd_576) rfl rfl rfl (by decide +kernel) ⟨Nat.le_of_ble_eq_true rfl, Nat.le_of_ble_eq_true rfl⟩) (xpreV (q0 := 0) hKM hN hZ hA hS (xPr (wr := wsG ad ck rf n fr a ar z pc pe pt pp pf ic ie ip iz ia st rt pb) hP) (xDr (wr := wsG ad ck rf n fr a ar z pc pe pt pp pf ic ie ip iz ia st rt pb) hD) rfl rfl) rfl rfl hl.1 rfl (lv_room (Nat.le_of_ble_eq_true rfl)) d_LW_426 ⟨Nat.le_of_ble_eq_true rfl, Nat.le_of_ble_eq_true rfl⟩) hP hD hS hA (fun rM H locs hM hP hD hS => ?_)
  have hP := xPperm List.perm_append_comm hP
  have hD := xDperm List.perm_append_comm hD
  refine lv_icmp_eq (tgt := 457) hx hb d_LW_429 (by decide) (fun c9 => ?_) (fun c9 => absurd (by rw [hG9, hM]; exact rAt _) c9)
  exact hGo rf n fr a ar z pc pe pt pp pf ic ie ip iz ia st rt pb 0 le fo en fF fA fB fS fW sk pg ye ys yt yg yp tk gF gA gB gS gW yk hLR hRM H locs hP hD hS ls hl
set_option maxHeartbeats 4000000 in
set_option maxRecDepth 100000 in
theorem law_12 {p : Program} {l : Launch} {e : Env} {s : State} {m : MethodId} {below : List Frame} {meth : Method} {c : Code} {b L : Nat} {xs : Nat → Int32} {dC : Nat → ClassId} {dI : Nat → Nat → Nat} {ad bd : Nat → Nat} {ck cm : Nat → ClassId} {i : Nat} (C : LC p s m meth c b L xs dC dI ck cm) (hi : i + 6 ≤ L) (hGo : LI p l e s m below meth c b dC dI ad bd ck cm 457 i) : LI p l e s m below meth c b dC dI ad bd ck cm 434 i := by
  intro rf n fr a ar z pc pe pt pp pf ic ie ip iz ia st rt pb th le fo en fF fA fB fS fW sk pg ye ys yt yg yp tk gF gA gB gS gW yk hLR hRM H locs hP hD hS ls hl
  obtain ⟨⟨hx, hb, hr, hml, hown, hts0, hX, hbl, hlocks, hgv⟩, hL, hKG, hKM, hN, hZ⟩ := C
  have hts : ∀ w ∈ T0, w.before #[Value.ref b] s = true := fun w h => hts0 w (List.mem_filter.mp h).1
  have hA : ∀ q : Nat, s.heap.size ≤ q → (fun q : Nat => s.heap.size ≤ q) q := fun _ h => h
  have hbA : ¬ (fun q : Nat => s.heap.size ≤ q) b := Nat.not_le.mpr hbl
  obtain ⟨hn, ha, hz, hFr, hAr, hLe, hSk, hAL⟩ := id hLR
  obtain ⟨rAt, rFl, rAb, hic, hyp, hgs, hgf, hpg, hyt, hyt2⟩ := id hRM
  have hin1 : vp_in (nI i + 1) L := law_in 1 (by decide) hi hL
  have hin2 : vp_in (nI i + 2) L := law_in 2 (by decide) hi hL
  have hin3 : vp_in (nI i + 3) L := law_in 3 (by decide) hi hL
  have hin4 : vp_in (nI i + 4) L := law_in 4 (by decide) hi hL
  have hin5 : vp_in (nI i + 5) L := law_in 5 (by decide) hi hL
  refine lv_aload_n hx hb d_LW_434 rfl (lv_at hl 2 rfl) ?_
  refine lv_aload_n hx hb d_LW_435 rfl (lv_at hl 3 rfl) ?_
  refine lv_iload_n hx hb d_LW_436 rfl (lv_at hl 0 rfl) ?_
  refine lv_iconst (v := 1) hx hb d_LW_437 (by decide) ?_
  refine lv_iadd hx hb d_LW_438 ?_
  refine va_sld hx hb hX hbl hbA hS hin1 d_LW_439 ?_
  refine zcalli (wr := wsM bd cm th n fr a z le rf fo en fF fA fB fS fW sk pg ye ys yt yg yp tk gF gA gB gS gW yk) (va_runV (As := [.int (xs (nI i + 1).toNatClampNeg)]) (rest := []) ⟨hx, hb, hml, hown, hts⟩ (c_gt_flags l dC dI ad ck rf n fr a ar z pc pe pt pp pf ic ie ip iz ia st rt pb (xs (nI i + 1).toNatClampNeg) hic H.size) (cwV 1 hts (xgV wd_381 wd_382 wd_383 wd_15 wd_384) rfl rfl rfl (by decide +kernel) ⟨Nat.le_of_ble_eq_true rfl, Nat.le_of_ble_eq_true rfl⟩) (xpreV (q0 := 0) hKG hN hZ hA hS (xPr (wr := wsM bd cm th n fr a z le rf fo en fF fA fB fS fW sk pg ye ys yt yg yp tk gF gA gB gS gW yk) hP) (xDr (wr := wsM bd cm th n fr a z le rf fo en fF fA fB fS fW sk pg ye ys yt yg yp tk gF gA gB gS gW yk) hD) rfl rfl) rfl rfl hl.1 rfl (lv_room (Nat.le_of_ble_eq_true rfl)) d_LW_440 ⟨Nat.le_of_ble_eq_true rfl, Nat.le_of_ble_eq_true rfl⟩) hP hD hS hA (fun rG H locs hG hP hD hS => ?_)
  have hG9 := hG
  have hP := xPperm List.perm_append_comm hP
  have hD := xDperm List.perm_append_comm hD
  refine lv_aload_n hx hb d_LW_443 rfl (lv_at hl 1 rfl) ?_
  refine lv_aload_n hx hb d_LW_444 rfl (lv_at hl 3 rfl) ?_
  refine lv_iload_n hx hb d_LW_445 rfl (lv_at hl 0 rfl) ?_
  refine lv_iconst (v := 1) hx hb d_LW_446 (by decide) ?_
  refine lv_iadd hx hb d_LW_447 ?_
  refine va_sld hx hb hX hbl hbA hS hin1 d_LW_448 ?_
  refine zcalli (wr := wsG ad ck rf n fr a ar z pc pe pt pp pf ic ie ip iz ia st rt pb) (va_runV (As := [.int (xs (nI i + 1).toNatClampNeg)]) (rest := [.int rG]) ⟨hx, hb, hml, hown, hts⟩ (m_flags l dC dI bd cm th n fr a z le rf fo en fF fA fB fS fW sk pg ye ys yt yg yp tk gF gA gB gS gW yk (xs (nI i + 1).toNatClampNeg) hyp hgs hgf hpg hyt hyt2 H.size) (cwV 1 hts (xgV wd_585 wd_586 wd_587 wd_22 wd_588) rfl rfl rfl (by decide +kernel) ⟨Nat.le_of_ble_eq_true rfl, Nat.le_of_ble_eq_true rfl⟩) (xpreV (q0 := 0) hKM hN hZ hA hS (xPr (wr := wsG ad ck rf n fr a ar z pc pe pt pp pf ic ie ip iz ia st rt pb) hP) (xDr (wr := wsG ad ck rf n fr a ar z pc pe pt pp pf ic ie ip iz ia st rt pb) hD) rfl rfl) rfl rfl hl.1 rfl (lv_room (Nat.le_of_ble_eq_true rfl)) d_LW_449 ⟨Nat.le_of_ble_eq_true rfl, Nat.le_of_ble_eq_true rfl⟩) hP hD hS hA (fun rM H locs hM hP hD hS => ?_)
  have hP := xPperm List.perm_append_comm hP
  have hD := xDperm List.perm_append_comm hD
  refine lv_icmp_eq (tgt := 457) hx hb d_LW_452 (by decide) (fun c9 => ?_) (fun c9 => absurd (by rw [hG9, hM]; exact rFl _) c9)
  exact hGo rf n fr a ar z pc pe pt pp pf ic ie ip iz ia st rt pb 0 le fo en fF fA fB fS fW sk pg ye ys yt yg yp tk gF gA gB gS gW yk hLR hRM H locs hP hD hS ls hl
