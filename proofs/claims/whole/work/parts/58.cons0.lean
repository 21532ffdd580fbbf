/-! MAKING THE OBJECTS: worlds in another order, a call on the last part of a world, new cells -/
theorem xPperm {D : va_G} {cl : List vw_C} {a b : va_W} {H : Heap} (h : List.Perm a b) (hP : va_P D cl a H) : va_P D cl b H := by
  intro k q hk
  obtain ⟨i, hi⟩ := List.getElem?_of_mem (h.mem_iff.mpr (List.mem_of_getElem? hk))
  exact hP i q hi
theorem xDnd {A : Nat → Prop} {ws : va_W} (h : va_D A ws) : (ws.map (fun q => q.1)).Nodup ∧ ∀ q ∈ ws, A q.1 := by
  refine ⟨List.pairwise_iff_getElem.mpr (fun i j hi hj hij he => ?_), fun q hq => ?_⟩
  · have hj' : j < ws.length := by simpa using hj
    have hi' : i < ws.length := Nat.lt_trans hij hj'
    rw [List.getElem_map, List.getElem_map] at he
    have := h.1 i j _ _ (List.getElem?_eq_getElem hi') (List.getElem?_eq_getElem hj') he
    omega
  · obtain ⟨i, hi⟩ := List.getElem?_of_mem hq
    exact h.2 i q hi
theorem xDof {A : Nat → Prop} {ws : va_W} (h : (ws.map (fun q => q.1)).Nodup) (h2 : ∀ q ∈ ws, A q.1) : va_D A ws := by
  refine ⟨fun i j p q hi hj e => ?_, fun k q hk => h2 q (List.mem_of_getElem? hk)⟩
  have hi' : i < (ws.map (fun q => q.1)).length := by simpa using (List.getElem?_eq_some_iff.mp hi).1
  refine (List.getElem?_inj hi' h).mp ?_
  rw [List.getElem?_map, List.getElem?_map, hi, hj]
  exact congrArg some e
theorem xDperm {A : Nat → Prop} {a b : va_W} (h : List.Perm a b) (hD : va_D A a) : va_D A b := by
  obtain ⟨h1, h2⟩ := xDnd hD
  exact xDof ((h.map (fun q => q.1)).nodup_iff.mp h1) (fun q hq => h2 q (h.mem_iff.mpr hq))
theorem xPr {D : va_G} {cl : List vw_C} {wr wc : va_W} {H : Heap} (hP : va_P D cl (wr ++ wc) H) : va_P D cl wc H := by
  intro k q hk
  refine hP (wr.length + k) q ?_
  rw [List.getElem?_append_right (Nat.le_add_right _ _), Nat.add_sub_cancel_left]
  exact hk
theorem xDr {A : Nat → Prop} {wr wc : va_W} (hD : va_D A (wr ++ wc)) : va_D A wc := by
  have key : ∀ (k : Nat) (q : Nat × va_E), wc[k]? = some q → (wr ++ wc)[wr.length + k]? = some q := by
    intro k q hk
    rw [List.getElem?_append_right (Nat.le_add_right _ _), Nat.add_sub_cancel_left]
    exact hk
  refine ⟨fun i j p q hi hj e => ?_, fun k q hk => hD.2 _ q (key k q hk)⟩
  have := hD.1 _ _ p q (key i p hi) (key j q hj) e
  omega
theorem xjoinL {A0 : Nat → Prop} {D : va_G} {cl : List vw_C} {wr wc w1 : va_W} {H H1 : Heap} (hP : va_P D cl (wr ++ wc) H) (hD : va_D A0 (wr ++ wc))
    (hk : ∀ q : Nat, q < H.size → ¬ va_A wc H.size q → H1[q]? = H[q]?) (hF : ∀ q, va_A wc H.size q → A0 q) (hP1 : va_P D cl w1 H1) (hD1 : va_D (va_A wc H.size) w1) : va_P D cl (wr ++ w1) H1 ∧ va_D A0 (wr ++ w1) := by
  have inl : ∀ (k : Nat) (q : Nat × va_E), wr[k]? = some q → (wr ++ wc)[k]? = some q := by
    intro k q hk
    rw [List.getElem?_append_left (List.getElem?_eq_some_iff.mp hk).1]
    exact hk
  have apart : ∀ (k : Nat) (q : Nat × va_E), wr[k]? = some q → q.1 < H.size ∧ ¬ va_A wc H.size q.1 := by
    intro k q hq
    have h2 := inl k q hq
    have hl := (hP k q h2).lt
    refine ⟨hl, fun h => ?_⟩
    rcases h with ⟨k2, e, h⟩ | h
    · have h3 : (wr ++ wc)[wr.length + k2]? = some (q.1, e) := by
        rw [List.getElem?_append_right (Nat.le_add_right _ _), Nat.add_sub_cancel_left]
        exact h
      have := hD.1 _ _ q (q.1, e) h2 h3 rfl
      have := (List.getElem?_eq_some_iff.mp hq).1
      omega
    · omega
  have hDl : va_D A0 wr := ⟨fun i j p q hi hj e => hD.1 i j p q (inl i p hi) (inl j q hj) e, fun k q hk => hD.2 k q (inl k q hk)⟩
  refine ⟨va_P.app (fun k q hq => ?_) hP1, va_D.app hDl (hD1.weaken (fun k q _ h => hF q.1 h)) (fun i j x y hx hy hxy => ?_)⟩
  · obtain ⟨g1, g2⟩ := apart k q hq
    exact (hP k q (inl k q hq)).kept (hk q.1 g1 g2)
  · exact (apart i x hx).2 (by rw [hxy]; exact hD1.2 j y hy)
/-- an array of references whose places below its length are the same -/
theorem xPrefs {D : va_G} {cl : List vw_C} {ws : va_W} {H : Heap} {k b n : Nat} {cA : ClassId} {f g : Nat → Option Nat} (hP : va_P D cl ws H) (h : ws[k]? = some (b, .inl (cA, n, .inr (.inr (.inr (.inr f)))))) (hfg : ∀ i, i < n → f i = g i) : va_P D cl (ws.set k (b, .inl (cA, n, .inr (.inr (.inr (.inr g)))))) H := by
  have hl := (List.getElem?_eq_some_iff.mp h).1
  have hc : vp_cell cA (n, .inr (.inr (.inr (.inr f)))) = vp_cell cA (n, .inr (.inr (.inr (.inr g)))) := by
    rw [vp_cell_q, vp_cell_q]
    unfold arrV
    congr 1
    apply Array.ext_getElem?
    intro i
    by_cases hi : i < n
    · simp [hi, hfg i hi]
    · simp [hi]
  intro j q hj
  by_cases e : j = k
  · subst e
    rw [List.getElem?_set_self hl] at hj
    cases hj
    show H[b]? = some (vp_cell _ _)
    rw [← hc]
    exact hP j _ h
  · rw [List.getElem?_set_ne (Ne.symm e)] at hj
    exact hP j q hj
def xAO (U : State) : Prop := va_AO "ImageGate$Part" U ∧ va_AO "ImageGate$Page" U
theorem xAO.go {u U : State} (hvm : u.vm.Alike U.vm) (h : xAO u) : xAO U := ⟨h.1.moved hvm, h.2.moved hvm⟩
def xP3 (D : va_G) (tys : List (ClassId × FieldType)) (ws : va_W) (sz : Nat) (U : State) : Prop := xP D tys ws sz U ∧ xAO U
/-- the end of a constructor: the cells that it made have addresses of their own -/
def xQc {S : Type} (D : va_G) (tys : List (ClassId × FieldType)) (A : Nat → Prop) (ww : S → va_W) : Array Value → State → Outcome → State → Prop := va_Qv (S := S) (fun _ => True) (fun u => xB D tys A (ww u)) A
theorem xof3 {l : Launch} {y : MethodName} {w : List Cond} {rm : Room} {cc : ByteArray} {maxL : Nat} {ret : Option FieldType} {own : String} {D : va_G} {tys : List (ClassId × FieldType)} {argl : List Value} {ws : va_W} {Qc : (Nat → Prop) → Array Value → State → Outcome → State → Prop} {mc ms : Nat}
    (hy : plainName y.cls = true) (hw : w = Cond.code y cc maxL ret :: T0) (hyo : y.cls = own) (hle : (lg_sl argl).length ≤ maxL)
    (body : ∀ (p : Program) (e : Env) (s : State) (m : MethodId) (below : List Frame) (meth : Method) (c : Code) (A : Nat → Prop), xC p s m meth c argl.toArray cc maxL own T0 ret → (meth.name = y.name) → va_K D vwCl tys s → va_P D vwCl ws s.heap → va_D A ws → (∀ q : Nat, s.heap.size ≤ q → A q) → xNest s → xZ A s s.heap → xAO s → va_S A s.heap s.heap [] → ∀ ls : Array Slot, lv_has ls maxL (lv_args 0 argl) →
      W p l e rm s m argl.toArray below meth c s.heap [] 0 0 (MQ below (Qc A) argl.toArray s mc ms A) (F0 m 0 ls [])) (sz : Nat) :
    Met l y w rm (va_Pc argl (xP3 D tys ws sz)) (Qc (va_A ws sz)) mc ms (va_A ws sz) := by
  refine Met.ofW (cc := cc) (maxL := maxL) (ret := ret) hy hw ?_
  intro p e s m args below meth c s₁ B hml hv
  obtain ⟨rfl, ⟨hsz, hP, hK, hD0, hN, hZ⟩, hAO⟩ := hv
  subst hsz
  rw [lg_entry_eq]
  exact body p e s m below meth c (va_A ws s.heap.size) ⟨B.exec, B.bytes, B.returns, hml, by rw [← hyo]; exact findClass_of_methodNamed B.named, fun w9 h9 => atoms_spec (ws := w) B.pre w9 (by rw [hw]; exact List.mem_cons_of_mem _ h9), B.notSynchronized⟩ (name_of_methodNamed B.named B.method).1 hK hP hD0.self (fun q h => Or.inr h) hN hZ hAO va_S.rf _ (lv_entry argl hle)
theorem xgI {y : MethodName} {b : ByteArray} {n : Nat} {r : Option FieldType} (h5 : Cond.code y b n r ∈ T0) : GoodIn T0 (Cond.code y b n r :: T0) := by
  intro w hw
  rcases List.mem_cons.mp hw with rfl | hw
  · exact gT0 _ h5
  · exact gT0 _ hw
section XI
variable {p : Program} {l : Launch} {e : Env} {R : Room} {s : State} {m : MethodId} {args : Array Value} {below : List Frame} {meth : Method} {c : Code} {H : Heap} {locs : List Loc} {cells slots : Nat} {Q : State → Prop}
variable {cc : ByteArray} {pc : Nat} {ls : Array Slot} {rest st0 : List Value} {D : va_G} {A : Nat → Prop} {tys : List (ClassId × FieldType)} {ws wr wc : va_W} {H0 : Heap} {mc ms : Nat} {a : Array Value}
theorem xblind3 {argl : List Value} {sz : Nat} : FrameBlind (va_Pc argl (xP3 D tys ws sz)) := fun a U g mk q => by
  obtain ⟨q0, q1, q2⟩ := q
  exact ⟨q0, (xblind (D := D) (tys := tys) (ws := ws) (argl := argl) (sz := sz) a U g mk ⟨q0, q1⟩).2, q2.go (u := U) (U := U.calling g mk a) (Vm.Alike.refl U.vm)⟩
theorem xpre3 {As : List Value} (hK : va_K D vwCl tys s) (hN : xNest s) (hZ : xZ A s s.heap) (hAO : xAO s) (hA : ∀ q : Nat, s.heap.size ≤ q → A q) (hS : va_S A s.heap H locs) (hP : va_P D vwCl (wr ++ wc) H) (hD : va_D A (wr ++ wc)) : PreS s H (va_Pc As (xP3 D tys wc H.size)) As :=
  ⟨xblind3, fun U hU hW => ⟨rfl, ((xpreS (As := As) hK hN hZ hA hS (xPr hP) (xDr hD)).2 U hU hW).2, hAO.go hW.alike⟩⟩
theorem xfreeR (hD : va_D A (wr ++ wc)) (hS : va_S A H0 H locs) (hA : ∀ q, H0.size ≤ q → A q) : ∀ q, va_A wc H.size q → A q := xfree (xDr hD) hS hA
theorem xcallc {S : Type} {ww : S → va_W} (hr : va_Run p l e R s m args below meth c H locs cells slots mc ms (F0 m pc ls st0) rest (xQc D tys (va_A wc H.size) ww a) (va_A wc H.size)) (hP : va_P D vwCl (wr ++ wc) H) (hD : va_D A (wr ++ wc)) (hS : va_S A H0 H locs) (hA : ∀ q, H0.size ≤ q → A q)
    (kk : ∀ (u : S) (H1 : Heap) (locs1 : List Loc), va_P D vwCl (wr ++ ww u) H1 → va_D A (wr ++ ww u) → va_S A H0 H1 locs1 → W p l e R s m args below meth c H1 locs1 (cells + mc) (slots + ms) Q (F0 m (pc + 3) ls rest)) : W p l e R s m args below meth c H locs cells slots Q (F0 m pc ls st0) := by
  have hF := xfreeR hD hS hA
  refine va_callv hr hS (fun q _ h => hF q h) hF (fun u t H1 locs1 ht hvm hw hB hz hk hS1 => ?_)
  obtain ⟨hP1, hK1, hD1⟩ := hB
  rw [ht] at hP1
  obtain ⟨h1, h2⟩ := xjoinL hP hD hk hF hP1 hD1
  exact kk u H1 locs1 h1 h2 hS1
theorem xretc {S : Type} {ww : S → va_W} {k n : Nat} (u : S) (hx : p.tables.exec = Jvm.exec) (hb : c.code = cc) (hr : meth.sig.returnType = none) (hlocks : meth.locks = false) (hK : va_K D vwCl tys s) (hP : va_P D vwCl (ww u) H) (hD : va_D A (ww u)) (hS : va_S A s.heap H locs) (h1 : cells ≤ k) (h2 : slots ≤ n) (hdg : decode cc pc = .ok (.return_, 1)) :
    W p l e R s m args below meth c H locs cells slots (MQ below (xQc D tys A ww) args s k n A) (F0 m pc ls []) := by
  refine W.widen (k := k) (n := n) h1 h2 ?_
  exact W.vret hx hb hr (fun t ht hW => ⟨⟨u, rfl, trivial, by rw [ht]; exact hP, va_K.moved hW.alike hK, hD⟩, hS.F ht⟩) hS.2.2 hdg hlocks
theorem xnewb (hx : p.tables.exec = Jvm.exec) (hb : c.code = cc) (harr : (Cond.arrayClass .byte).before args s = true) (hK : va_K D vwCl tys s) (hP : va_P D vwCl ws H) (hD : va_D A ws) (hS : va_S A H0 H locs) (hA : ∀ q, H0.size ≤ q → A q) (t0 : Nat) {cA : ClassId} (ht : tys[t0]? = some (cA, .byte)) {n : Int32} {N : Nat} (hN : n = nI N) (hN2 : N ≤ 65536) (hcells : cells + 1 ≤ R.cells) (hslots : slots + N ≤ R.slots) (hdg : decode cc pc = .ok (.newarray .byte, 2))
    (kk : ∀ (q : Nat) (H1 : Heap), va_P D vwCl (ws ++ [(q, .inl (cA, N, .inl (fun _ => 0)))]) H1 → va_D A (ws ++ [(q, .inl (cA, N, .inl (fun _ => 0)))]) → va_S A H0 H1 locs → W p l e R s m args below meth c H1 locs (cells + 1) (slots + N) Q (F0 m (pc + 2) ls (.ref q :: rest))) : W p l e R s m args below meth c H locs cells slots Q (F0 m pc ls (.int n :: rest)) := by
  subst hN
  have hb1 : componentBytes FieldType.byte = 1 := rfl
  refine va_newa (atype := .byte) (ty := .byte) (N' := N) (a0 := (N, .inl (fun _ => 0))) hx hb harr rfl hK hP hD hS hA (fun _ => rfl) (nI_pos (by omega)) (nI_clamp (by omega)) (by rw [hb1]; omega) hcells hslots hdg (fun q cB H1 hK1 hP1 hD1 hS1 => ?_)
  have h1 : va_RA s cB .byte := (hK1.2 tys.length (cB, .byte) (by simp)).2
  have h2 : va_RA s cA .byte := (hK.2 t0 _ ht).2
  have h3 : cB = cA := Option.some.inj ((show s.vm.findClass ("[" ++ FieldType.byte.toString) = some cB from h1).symm.trans h2)
  subst h3
  exact kk q H1 hP1 hD1 hS1
theorem xnewi (hx : p.tables.exec = Jvm.exec) (hb : c.code = cc) (harr : (Cond.arrayClass .int).before args s = true) (hK : va_K D vwCl tys s) (hP : va_P D vwCl ws H) (hD : va_D A ws) (hS : va_S A H0 H locs) (hA : ∀ q, H0.size ≤ q → A q) (t0 : Nat) {cA : ClassId} (ht : tys[t0]? = some (cA, .int)) {n : Int32} {N : Nat} (hN : n = nI N) (hN2 : N ≤ 65536) (hcells : cells + 1 ≤ R.cells) (hslots : slots + N ≤ R.slots) (hdg : decode cc pc = .ok (.newarray .int, 2))
    (kk : ∀ (q : Nat) (H1 : Heap), va_P D vwCl (ws ++ [(q, .inl (cA, N, .inl (fun _ => 0)))]) H1 → va_D A (ws ++ [(q, .inl (cA, N, .inl (fun _ => 0)))]) → va_S A H0 H1 locs → W p l e R s m args below meth c H1 locs (cells + 1) (slots + N) Q (F0 m (pc + 2) ls (.ref q :: rest))) : W p l e R s m args below meth c H locs cells slots Q (F0 m pc ls (.int n :: rest)) := by
  subst hN
  have hb1 : componentBytes FieldType.int = 4 := rfl
  refine va_newa (atype := .int) (ty := .int) (N' := N) (a0 := (N, .inl (fun _ => 0))) hx hb harr rfl hK hP hD hS hA (fun _ => rfl) (nI_pos (by omega)) (nI_clamp (by omega)) (by rw [hb1]; omega) hcells hslots hdg (fun q cB H1 hK1 hP1 hD1 hS1 => ?_)
  have h1 : va_RA s cB .int := (hK1.2 tys.length (cB, .int) (by simp)).2
  have h2 : va_RA s cA .int := (hK.2 t0 _ ht).2
  have h3 : cB = cA := Option.some.inj ((show s.vm.findClass ("[" ++ FieldType.int.toString) = some cB from h1).symm.trans h2)
  subst h3
  exact kk q H1 hP1 hD1 hS1
theorem xnewq {own C : String} {index : Nat} (hx : p.tables.exec = Jvm.exec) (hb : c.code = cc) (hown : s.vm.findClass own = some m.cls) (hclink : (Cond.classLink own index C).before args s = true) (hover : va_AO C s) (hK : va_K D vwCl tys s) (hP : va_P D vwCl ws H) (hD : va_D A ws) (hS : va_S A H0 H locs) (hA : ∀ q, H0.size ≤ q → A q) (t0 : Nat) {cA : ClassId} (ht : tys[t0]? = some (cA, .object C)) {n : Int32} {N : Nat} (hN : n = nI N) (hN2 : N ≤ 65536) (hcells : cells + 1 ≤ R.cells) (hslots : slots + N ≤ R.slots) (hdg : decode cc pc = .ok (.anewarray index, 3))
    (kk : ∀ (q : Nat) (H1 : Heap), va_P D vwCl (ws ++ [(q, .inl (cA, N, .inr (.inr (.inr (.inr (fun _ => none))))))]) H1 → va_D A (ws ++ [(q, .inl (cA, N, .inr (.inr (.inr (.inr (fun _ => none))))))]) → va_S A H0 H1 locs → W p l e R s m args below meth c H1 locs (cells + 1) (slots + N) Q (F0 m (pc + 3) ls (.ref q :: rest))) : W p l e R s m args below meth c H locs cells slots Q (F0 m pc ls (.int n :: rest)) := by
  subst hN
  refine va_newq (C := C) (N' := N) hx hb hown hclink hover hK hP hD hS hA (nI_pos (by omega)) (nI_clamp (by omega)) (by omega) hcells hslots hdg (fun q cB H1 hK1 hP1 hD1 hS1 => ?_)
  obtain ⟨_, _, _, _, _, h1⟩ : va_RA s cB (.object C) := (hK1.2 tys.length (cB, .object C) (by simp)).2
  obtain ⟨_, _, _, _, _, h2⟩ : va_RA s cA (.object C) := (hK.2 t0 _ ht).2
  have h3 : cB = cA := Option.some.inj (h1.symm.trans h2)
  subst h3
  exact kk q H1 hP1 hD1 hS1
end XI
theorem ml_get {α : Type} (F : Nat → α) {n i : Nat} (h : i < n) : ((List.range n).map F)[i]? = some (F i) := by simp [h]
theorem va_up_k {pa : Nat → Nat} {k q : Nat} : va_up (fun i => if i < k then some (pa i) else none) k (some q) = fun i => if i < k + 1 then some (upn pa k q i) else none := by
  funext i
  unfold va_up upn
  by_cases h : i = k
  · subst h
    simp
  · by_cases h2 : i < k
    · simp [h, h2, Nat.lt_succ_of_lt h2]
    · have h3 : ¬ i < k + 1 := by omega
      simp [h, h2, h3]
