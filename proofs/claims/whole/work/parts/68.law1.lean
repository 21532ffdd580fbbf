/-! THE LAW: what is fixed, what holds at its loop's head, a call on one half of the world -/
def LC (p : Program) (s : State) (m : MethodId) (meth : Method) (c : Code) (b L : Nat) (xs : Nat → Int32) (dC : Nat → ClassId) (dI : Nat → Nat → Nat) (ck cm : Nat → ClassId) : Prop := lw_At p s m meth c b L xs ∧ L ≤ 3072 ∧ va_K (dC, dI) vwCl (tyG ck) s ∧ va_K (dC, dI) vwCl (tyM cm) s ∧ xNest s ∧ xZ (fun q : Nat => s.heap.size ≤ q) s s.heap
def LI (p : Program) (l : Launch) (e : Env) (s : State) (m : MethodId) (below : List Frame) (meth : Method) (c : Code) (b : Nat) (dC : Nat → ClassId) (dI : Nat → Nat → Nat) (ad bd : Nat → Nat) (ck cm : Nat → ClassId) (pc9 i : Nat) : Prop := ∀ (rf : Int32) (n : Nat) (fr : Nat → Int32) (a : Nat) (ar : Nat → Int32) (z : Nat → Nat) (pc : Nat) (pe : Int32) (pt : Nat) (pp : Nat) (pf : Nat → Nat → Int32) (ic : Nat) (ie : Int32) (ip : Int32) (iz : Int32) (ia : Int32) (st : Nat → Int32) (rt : Nat → Int32) (pb : Nat → Nat → Int32) (th : Int32) (le : Nat → Int32) (fo : Nat) (en : Nat) (fF : Nat → Nat) (fA : Nat → Nat) (fB : Nat → Nat) (fS : Nat → Nat) (fW : Nat → Int32) (sk : Nat → Int32) (pg : Nat) (ye : Int32) (ys : Int32) (yt : Nat) (yg : Nat) (yp : Nat) (tk : Nat → Int32) (gF : Nat → Nat) (gA : Nat → Nat) (gB : Nat → Nat) (gS : Nat → Nat) (gW : Nat → Int32) (yk : Nat → Int32), LR n a fr ar le sk z → RIM ic ie ip iz ia st rt pb pg ye ys yt yg yp tk gF gA gB gS gW yk → ∀ (H : Heap) (locs : List Loc), va_P (dC, dI) vwCl (wsM bd cm th n fr a z le rf fo en fF fA fB fS fW sk pg ye ys yt yg yp tk gF gA gB gS gW yk ++ wsG ad ck rf n fr a ar z pc pe pt pp pf ic ie ip iz ia st rt pb) H → va_D (fun q : Nat => s.heap.size ≤ q) (wsM bd cm th n fr a z le rf fo en fF fA fB fS fW sk pg ye ys yt yg yp tk gF gA gB gS gW yk ++ wsG ad ck rf n fr a ar z pc pe pt pp pf ic ie ip iz ia st rt pb) → va_S (fun q : Nat => s.heap.size ≤ q) s.heap H locs → ∀ ls : Array Slot, lv_has ls 4 [(3, .int (nI i)), (2, .ref (bd 0)), (1, .ref (ad 0)), (0, .ref b)] → W p l e room_1 s m #[Value.ref b] below meth c H locs 99 344401 (lw_Z below #[Value.ref b] s) (F0 m pc9 ls [])
section XL
variable {p : Program} {l : Launch} {e : Env} {R : Room} {s : State} {m : MethodId} {args : Array Value} {below : List Frame} {meth : Method} {c : Code} {H : Heap} {locs : List Loc} {cells slots : Nat} {Q : State → Prop}
variable {pc : Nat} {ls : Array Slot} {rest st0 : List Value} {D : va_G} {A : Nat → Prop} {tys : List (ClassId × FieldType)} {wr wc wc1 : va_W} {H0 : Heap} {mc ms : Nat} {a : Array Value}
theorem zcalli {P : Int32 → Prop} (hr : va_Run p l e R s m args below meth c H locs cells slots mc ms (F0 m pc ls st0) rest (xQi D tys (va_A wc H.size) wc1 P a) (va_A wc H.size)) (hP : va_P D vwCl (wr ++ wc) H) (hD : va_D A (wr ++ wc)) (hS : va_S A H0 H locs) (hA : ∀ q, H0.size ≤ q → A q)
    (kk : ∀ (r : Int32) (H1 : Heap) (locs1 : List Loc), P r → va_P D vwCl (wr ++ wc1) H1 → va_D A (wr ++ wc1) → va_S A H0 H1 locs1 → W p l e R s m args below meth c H1 locs1 (cells + mc) (slots + ms) Q (F0 m (pc + 3) ls (.int r :: rest))) : W p l e R s m args below meth c H locs cells slots Q (F0 m pc ls st0) := by
  have hF := xfreeR hD hS hA
  refine va_calli hr hS (fun q _ h => hF q h) hF (fun r u t H1 locs1 ht hvm hw hB hz hk hS1 => ?_)
  obtain ⟨hP1, hK1, hD1⟩ := hB
  rw [ht] at hP1
  obtain ⟨h1, h2⟩ := xjoinL hP hD hk hF hP1 hD1
  exact kk r H1 locs1 hw h1 h2 hS1
theorem zcallv (hr : va_Run p l e R s m args below meth c H locs cells slots mc ms (F0 m pc ls st0) rest (xQv D tys (va_A wc H.size) wc1 a) (va_A wc H.size)) (hP : va_P D vwCl (wr ++ wc) H) (hD : va_D A (wr ++ wc)) (hS : va_S A H0 H locs) (hA : ∀ q, H0.size ≤ q → A q)
    (kk : ∀ (H1 : Heap) (locs1 : List Loc), va_P D vwCl (wr ++ wc1) H1 → va_D A (wr ++ wc1) → va_S A H0 H1 locs1 → W p l e R s m args below meth c H1 locs1 (cells + mc) (slots + ms) Q (F0 m (pc + 3) ls rest)) : W p l e R s m args below meth c H locs cells slots Q (F0 m pc ls st0) := by
  have hF := xfreeR hD hS hA
  refine va_callv hr hS (fun q _ h => hF q h) hF (fun u t H1 locs1 ht hvm hw hB hz hk hS1 => ?_)
  obtain ⟨hP1, hK1, hD1⟩ := hB
  rw [ht] at hP1
  obtain ⟨h1, h2⟩ := xjoinL hP hD hk hF hP1 hD1
  exact kk H1 locs1 h1 h2 hS1
end XL
theorem law_in {i L : Nat} (k : Nat) (hk : k < 6) (hi : i + 6 ≤ L) (hL : L ≤ 3072) : vp_in (nI i + nI k) L := by
  rw [nI_add]
  exact vp_in_nI (by omega) (by omega)
