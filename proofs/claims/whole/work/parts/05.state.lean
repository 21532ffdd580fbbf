/-! THE CLASS'S WORLD: ten cells, then its 8 parts, its 32 pages and their bytes. All that changes: v (numbers), fr (the file's row), ar, zs (the arguments' row and sizes), pf (the parts' fields), st, rt, pb (the pages' start, rights, bytes). -/
theorem bl_get {α : Type} (F : Nat → α) {n i : Nat} (h : i < n) (B : List α) : ((List.range n).map F ++ B)[i]? = some (F i) := by
  rw [List.getElem?_append_left (by simp; exact h)]
  simp [h]
theorem bl_skip {α : Type} (F : Nat → α) (n i : Nat) (B : List α) : ((List.range n).map F ++ B)[i + n]? = B[i]? := by
  rw [List.getElem?_append_right (by simp)]
  simp
theorem bl_set {α : Type} (F G : Nat → α) {n i : Nat} (h : i < n) (B : List α) {x : α} (hx : G i = x) (hG : ∀ j, j ≠ i → G j = F j) : ((List.range n).map F ++ B).set i x = (List.range n).map G ++ B := by
  apply List.ext_getElem?
  intro k
  rw [List.getElem?_set]
  by_cases hk : i = k
  · subst hk
    rw [bl_get G h, hx]
    simp
    omega
  · simp only [hk, if_false]
    by_cases hn : k < n
    · rw [bl_get F hn, bl_get G hn, hG k (fun e => hk e.symm)]
    · obtain ⟨d, rfl⟩ : ∃ d, k = d + n := ⟨k - n, by omega⟩
      rw [bl_skip, bl_skip]
theorem bl_setR {α : Type} (F : Nat → α) {n i : Nat} (B : List α) {x : α} : ((List.range n).map F ++ B).set (i + n) x = (List.range n).map F ++ B.set i x := by
  rw [List.set_append_right _ _ (by simp)]
  simp
def upp (pf : Nat → Nat → Int32) (i k : Nat) (x : Int32) : Nat → Nat → Int32 := fun j => if j = i then upd (pf i) k x else pf j
def upr (pb : Nat → Nat → Int32) (i : Nat) (f : Nat → Int32) : Nat → Nat → Int32 := fun j => if j = i then f else pb j
def gPart (ad : Nat → Nat) (pf : Nat → Nat → Int32) (i : Nat) : Nat × va_E := (ad (i + 10), .inr (ciPart, [.int (pf i 0), .int (pf i 1), .int (pf i 2), .int (pf i 3), .int (pf i 4)]))
def gPage (ad : Nat → Nat) (st rt : Nat → Int32) (i : Nat) : Nat × va_E := (ad (i + 20), .inr (ciPage, [.ref (ad (i + 60)), .int (st i), .int (rt i)]))
def gPb (ad : Nat → Nat) (ck : Nat → ClassId) (pb : Nat → Nat → Int32) (i : Nat) : Nat × va_E := (ad (i + 60), .inl (ck 0, 4096, .inl (pb i)))
def wsG (ad : Nat → Nat) (ck : Nat → ClassId) (rf : Int32) (n : Nat) (fr : Nat → Int32) (a : Nat) (ar : Nat → Int32) (z : Nat → Nat) (pc : Nat) (pe : Int32) (pt pp : Nat) (pf : Nat → Nat → Int32) (ic : Nat) (ie ip iz ia : Int32) (st rt : Nat → Int32) (pb : Nat → Nat → Int32) : va_W :=
  (ad 0, .inr (ciGate, [.ref (ad 1), .ref (ad 3), .ref (ad 6), .ref (ad 8), .int rf])) ::
  (ad 1, .inr (ciFile, [.ref (ad 2), .int (nI n)])) ::
  (ad 2, .inl (ck 0, 65536, .inl fr)) ::
  (ad 3, .inr (ciArgs, [.ref (ad 4), .ref (ad 5), .int (nI a)])) ::
  (ad 4, .inl (ck 0, 4064, .inl ar)) ::
  (ad 5, .inl (ck 1, 32, .inl (fun j => nI (z j)))) ::
  (ad 6, .inr (ciPlan, [.ref (ad 7), .int (nI pc), .int pe, .int (nI pt), .int (nI pp)])) ::
  (ad 7, .inl (ck 2, 8, .inr (.inr (.inr (.inr (fun i => some (ad (i + 10)))))))) ::
  (ad 8, .inr (ciImage, [.ref (ad 9), .int (nI ic), .int ie, .int ip, .int iz, .int ia])) ::
  (ad 9, .inl (ck 3, 32, .inr (.inr (.inr (.inr (fun i => some (ad (i + 20)))))))) ::
  ((List.range 8).map (gPart ad pf) ++ ((List.range 32).map (gPage ad st rt) ++ ((List.range 32).map (gPb ad ck pb) ++ [])))
abbrev tyG (ck : Nat → ClassId) : List (ClassId × FieldType) := [(ck 0, .byte), (ck 1, .int), (ck 2, .object "ImageGate$Part"), (ck 3, .object "ImageGate$Page")]
section XG
variable {ad : Nat → Nat} {ck : Nat → ClassId} {rf : Int32} {n : Nat} {fr : Nat → Int32} {a : Nat} {ar : Nat → Int32} {z : Nat → Nat} {pc : Nat} {pe : Int32} {pt pp : Nat} {pf : Nat → Nat → Int32} {ic : Nat} {ie ip iz ia : Int32} {st rt : Nat → Int32} {pb : Nat → Nat → Int32} {i : Nat}
theorem wsG_part (h : i < 8) : (wsG ad ck rf n fr a ar z pc pe pt pp pf ic ie ip iz ia st rt pb)[i + 10]? = some (gPart ad pf i) := bl_get _ h _
theorem wsG_page (h : i < 32) : (wsG ad ck rf n fr a ar z pc pe pt pp pf ic ie ip iz ia st rt pb)[i + 18]? = some (gPage ad st rt i) := (bl_skip _ 8 i _).trans (bl_get _ h _)
theorem wsG_pb (h : i < 32) : (wsG ad ck rf n fr a ar z pc pe pt pp pf ic ie ip iz ia st rt pb)[i + 50]? = some (gPb ad ck pb i) := (bl_skip _ 8 (i + 32) _).trans ((bl_skip _ 32 i _).trans (bl_get _ h _))
theorem wsG_setP {pf2 : Nat → Nat → Int32} (h : i < 8) (hG : ∀ j, j ≠ i → pf2 j = pf j) : (wsG ad ck rf n fr a ar z pc pe pt pp pf ic ie ip iz ia st rt pb).set (i + 10) (gPart ad pf2 i) = wsG ad ck rf n fr a ar z pc pe pt pp pf2 ic ie ip iz ia st rt pb := by
  show _ :: _ :: _ :: _ :: _ :: _ :: _ :: _ :: _ :: _ :: (List.set _ i _) = _
  rw [bl_set (gPart ad pf) (gPart ad pf2) h _ rfl (fun j hj => by simp only [gPart, hG j hj])]
  rfl
theorem wsG_setQ {st2 rt2 : Nat → Int32} (h : i < 32) (hG : ∀ j, j ≠ i → st2 j = st j) (hR : ∀ j, j ≠ i → rt2 j = rt j) : (wsG ad ck rf n fr a ar z pc pe pt pp pf ic ie ip iz ia st rt pb).set (i + 18) (gPage ad st2 rt2 i) = wsG ad ck rf n fr a ar z pc pe pt pp pf ic ie ip iz ia st2 rt2 pb := by
  show _ :: _ :: _ :: _ :: _ :: _ :: _ :: _ :: _ :: _ :: (List.set _ (i + 8) _) = _
  rw [bl_setR, bl_set (gPage ad st rt) (gPage ad st2 rt2) h _ rfl (fun j hj => by simp only [gPage, hG j hj, hR j hj])]
  rfl
theorem wsG_setB {pb2 : Nat → Nat → Int32} (h : i < 32) (hG : ∀ j, j ≠ i → pb2 j = pb j) : (wsG ad ck rf n fr a ar z pc pe pt pp pf ic ie ip iz ia st rt pb).set (i + 50) (gPb ad ck pb2 i) = wsG ad ck rf n fr a ar z pc pe pt pp pf ic ie ip iz ia st rt pb2 := by
  show _ :: _ :: _ :: _ :: _ :: _ :: _ :: _ :: _ :: _ :: (List.set _ (i + 32 + 8) _) = _
  rw [bl_setR, bl_setR, bl_set (gPb ad ck pb) (gPb ad ck pb2) h _ rfl (fun j hj => by simp only [gPb, hG j hj])]
  rfl
end XG
/-- a boolean answer -/
def bI (b : Prop) [Decidable b] : Int32 := if b then 1 else 0
theorem bI_t {b : Prop} [Decidable b] (h : ¬ bI b = 0) : b := by
  by_cases hb : b
  · exact hb
  · exact absurd (by simp [bI, hb]) h
theorem bI_f {b : Prop} [Decidable b] (h : bI b = 0) : ¬ b := fun hb => by simp [bI, hb] at h
theorem bI_1 {b : Prop} [Decidable b] (h : b) : (1 : Int32) = bI b := by simp [bI, h]
theorem bI_0 {b : Prop} [Decidable b] (h : ¬ b) : (0 : Int32) = bI b := by simp [bI, h]
theorem bI_n {b : Prop} [Decidable b] : narrow .boolean (.int (bI b)) = .int (bI b) := by
  by_cases hb : b <;> simp [bI, hb] <;> rfl
section XH
variable {ad : Nat → Nat} {ck : Nat → ClassId} {rf : Int32} {n : Nat} {fr : Nat → Int32} {a : Nat} {ar : Nat → Int32} {z : Nat → Nat} {pc : Nat} {pe : Int32} {pt pp : Nat} {pf : Nat → Nat → Int32} {ic : Nat} {ie ip iz ia : Int32} {st rt : Nat → Int32} {pb : Nat → Nat → Int32} {i : Nat} {x : Int32}
theorem upp_ne {k j : Nat} (h : j ≠ i) : upp pf i k x j = pf j := by simp [upp, h]
theorem upr_ne {f : Nat → Int32} {j : Nat} (h : j ≠ i) : upr pb i f j = pb j := by simp [upr, h]
theorem upr_eq {f : Nat → Int32} : upr pb i f i = f := by simp [upr]
theorem wsG_putP0 (h : i < 8) : (wsG ad ck rf n fr a ar z pc pe pt pp pf ic ie ip iz ia st rt pb).set (i + 10) (ad (i + 10), .inr (ciPart, ([.int (pf i 0), .int (pf i 1), .int (pf i 2), .int (pf i 3), .int (pf i 4)] : List Value).set 0 (.int x))) = wsG ad ck rf n fr a ar z pc pe pt pp (upp pf i 0 x) ic ie ip iz ia st rt pb := by
  rw [← wsG_setP (pf := pf) (pf2 := upp pf i 0 x) h (fun j hj => upp_ne hj)]
  simp [gPart, upp, upd]
theorem wsG_putP1 (h : i < 8) : (wsG ad ck rf n fr a ar z pc pe pt pp pf ic ie ip iz ia st rt pb).set (i + 10) (ad (i + 10), .inr (ciPart, ([.int (pf i 0), .int (pf i 1), .int (pf i 2), .int (pf i 3), .int (pf i 4)] : List Value).set 1 (.int x))) = wsG ad ck rf n fr a ar z pc pe pt pp (upp pf i 1 x) ic ie ip iz ia st rt pb := by
  rw [← wsG_setP (pf := pf) (pf2 := upp pf i 1 x) h (fun j hj => upp_ne hj)]
  simp [gPart, upp, upd]
theorem wsG_putP2 (h : i < 8) : (wsG ad ck rf n fr a ar z pc pe pt pp pf ic ie ip iz ia st rt pb).set (i + 10) (ad (i + 10), .inr (ciPart, ([.int (pf i 0), .int (pf i 1), .int (pf i 2), .int (pf i 3), .int (pf i 4)] : List Value).set 2 (.int x))) = wsG ad ck rf n fr a ar z pc pe pt pp (upp pf i 2 x) ic ie ip iz ia st rt pb := by
  rw [← wsG_setP (pf := pf) (pf2 := upp pf i 2 x) h (fun j hj => upp_ne hj)]
  simp [gPart, upp, upd]
theorem wsG_putP3 (h : i < 8) : (wsG ad ck rf n fr a ar z pc pe pt pp pf ic ie ip iz ia st rt pb).set (i + 10) (ad (i + 10), .inr (ciPart, ([.int (pf i 0), .int (pf i 1), .int (pf i 2), .int (pf i 3), .int (pf i 4)] : List Value).set 3 (.int x))) = wsG ad ck rf n fr a ar z pc pe pt pp (upp pf i 3 x) ic ie ip iz ia st rt pb := by
  rw [← wsG_setP (pf := pf) (pf2 := upp pf i 3 x) h (fun j hj => upp_ne hj)]
  simp [gPart, upp, upd]
theorem wsG_putP4 (h : i < 8) : (wsG ad ck rf n fr a ar z pc pe pt pp pf ic ie ip iz ia st rt pb).set (i + 10) (ad (i + 10), .inr (ciPart, ([.int (pf i 0), .int (pf i 1), .int (pf i 2), .int (pf i 3), .int (pf i 4)] : List Value).set 4 (.int x))) = wsG ad ck rf n fr a ar z pc pe pt pp (upp pf i 4 x) ic ie ip iz ia st rt pb := by
  rw [← wsG_setP (pf := pf) (pf2 := upp pf i 4 x) h (fun j hj => upp_ne hj)]
  simp [gPart, upp, upd]
theorem wsG_putQ1 (h : i < 32) : (wsG ad ck rf n fr a ar z pc pe pt pp pf ic ie ip iz ia st rt pb).set (i + 18) (ad (i + 20), .inr (ciPage, ([.ref (ad (i + 60)), .int (st i), .int (rt i)] : List Value).set 1 (.int x))) = wsG ad ck rf n fr a ar z pc pe pt pp pf ic ie ip iz ia (upd st i x) rt pb := by
  rw [← wsG_setQ (st := st) (rt := rt) (st2 := upd st i x) (rt2 := rt) h (fun j hj => pk_un hj) (fun _ _ => rfl)]
  simp [gPage, upd]
theorem wsG_putQ2 (h : i < 32) : (wsG ad ck rf n fr a ar z pc pe pt pp pf ic ie ip iz ia st rt pb).set (i + 18) (ad (i + 20), .inr (ciPage, ([.ref (ad (i + 60)), .int (st i), .int (rt i)] : List Value).set 2 (.int x))) = wsG ad ck rf n fr a ar z pc pe pt pp pf ic ie ip iz ia st (upd rt i x) pb := by
  rw [← wsG_setQ (st := st) (rt := rt) (st2 := st) (rt2 := upd rt i x) h (fun _ _ => rfl) (fun j hj => pk_un hj)]
  simp [gPage, upd]
theorem wsG_putB {f : Nat → Int32} (h : i < 32) : (wsG ad ck rf n fr a ar z pc pe pt pp pf ic ie ip iz ia st rt pb).set (i + 50) (ad (i + 60), .inl (ck 0, 4096, .inl f)) = wsG ad ck rf n fr a ar z pc pe pt pp pf ic ie ip iz ia st rt (upr pb i f) := by
  rw [← wsG_setB (pb := pb) (pb2 := upr pb i f) h (fun j hj => upr_ne hj)]
  simp [gPb, upr]
end XH
def upn (z : Nat → Nat) (k x : Nat) : Nat → Nat := fun j => if j = k then x else z j
theorem upd_z (z : Nat → Nat) (k x : Nat) : upd (fun j => nI (z j)) k (nI x) = fun j => nI (upn z k x j) := by
  funext j
  by_cases h : j = k <;> simp [upd, upn, h]
theorem wsG_putZ {ad : Nat → Nat} {ck : Nat → ClassId} {rf : Int32} {n : Nat} {fr : Nat → Int32} {a : Nat} {ar : Nat → Int32} {z : Nat → Nat} {pc : Nat} {pe : Int32} {pt pp : Nat} {pf : Nat → Nat → Int32} {ic : Nat} {ie ip iz ia : Int32} {st rt : Nat → Int32} {pb : Nat → Nat → Int32} {k x : Nat} : (wsG ad ck rf n fr a ar z pc pe pt pp pf ic ie ip iz ia st rt pb).set 5 (ad 5, .inl (ck 1, 32, .inl (upd (fun j => nI (z j)) k (nI x)))) = wsG ad ck rf n fr a ar (upn z k x) pc pe pt pp pf ic ie ip iz ia st rt pb := by
  rw [upd_z]
  rfl
