/-! THE REFERENCE'S WORLD: its object and sixteen arrays -/
def wsM (bd : Nat → Nat) (cm : Nat → ClassId) (th : Int32) (n : Nat) (fr : Nat → Int32) (a : Nat) (z : Nat → Nat) (le : Nat → Int32) (wy : Int32) (fo : Nat) (en : Nat) (fF : Nat → Nat) (fA : Nat → Nat) (fB : Nat → Nat) (fS : Nat → Nat) (fW : Nat → Int32) (sk : Nat → Int32) (pg : Nat) (ye : Int32) (ys : Int32) (yt : Nat) (yg : Nat) (yp : Nat) (tk : Nat → Int32) (gF : Nat → Nat) (gA : Nat → Nat) (gB : Nat → Nat) (gS : Nat → Nat) (gW : Nat → Int32) (yk : Nat → Int32) : va_W :=
  (bd 0, .inr (ciModel, [.int th, .int (nI n), .ref (bd 1), .int (nI a), .ref (bd 2), .ref (bd 3), .int wy, .int (nI fo), .long (lN en), .ref (bd 4), .ref (bd 5), .ref (bd 6), .ref (bd 7), .ref (bd 8), .ref (bd 9), .int (nI pg), .int ye, .int ys, .int (nI yt), .int (nI yg), .int (nI yp), .ref (bd 10), .ref (bd 11), .ref (bd 12), .ref (bd 13), .ref (bd 14), .ref (bd 15), .ref (bd 16)])) ::
  (bd 1, .inl (cm 0, 65536, .inl fr)) ::
  (bd 2, .inl (cm 1, 32, .inl (fun j => nI (z j)))) ::
  (bd 3, .inl (cm 0, 4096, .inl le)) ::
  (bd 4, .inl (cm 1, 8, .inl (fun j => nI (fF j)))) ::
  (bd 5, .inl (cm 1, 8, .inl (fun j => nI (fA j)))) ::
  (bd 6, .inl (cm 1, 8, .inl (fun j => nI (fB j)))) ::
  (bd 7, .inl (cm 1, 8, .inl (fun j => nI (fS j)))) ::
  (bd 8, .inl (cm 1, 8, .inl fW)) ::
  (bd 9, .inl (cm 0, 4096, .inl sk)) ::
  (bd 10, .inl (cm 0, 65536, .inl tk)) ::
  (bd 11, .inl (cm 1, 8, .inl (fun j => nI (gF j)))) ::
  (bd 12, .inl (cm 1, 8, .inl (fun j => nI (gA j)))) ::
  (bd 13, .inl (cm 1, 8, .inl (fun j => nI (gB j)))) ::
  (bd 14, .inl (cm 1, 8, .inl (fun j => nI (gS j)))) ::
  (bd 15, .inl (cm 1, 8, .inl gW)) ::
  (bd 16, .inl (cm 0, 4096, .inl yk)) ::
  []
abbrev tyM (cm : Nat → ClassId) : List (ClassId × FieldType) := [(cm 0, .byte), (cm 1, .int)]
theorem wsM_put_gA {bd : Nat → Nat} {cm : Nat → ClassId} {th : Int32} {n : Nat} {fr : Nat → Int32} {a : Nat} {z : Nat → Nat} {le : Nat → Int32} {wy : Int32} {fo : Nat} {en : Nat} {fF : Nat → Nat} {fA : Nat → Nat} {fB : Nat → Nat} {fS : Nat → Nat} {fW : Nat → Int32} {sk : Nat → Int32} {pg : Nat} {ye : Int32} {ys : Int32} {yt : Nat} {yg : Nat} {yp : Nat} {tk : Nat → Int32} {gF : Nat → Nat} {gA : Nat → Nat} {gB : Nat → Nat} {gS : Nat → Nat} {gW : Nat → Int32} {yk : Nat → Int32} {k x : Nat} : (wsM bd cm th n fr a z le wy fo en fF fA fB fS fW sk pg ye ys yt yg yp tk gF gA gB gS gW yk).set 12 (bd 12, .inl (cm 1, 8, .inl (upd (fun j => nI (gA j)) k (nI x)))) = wsM bd cm th n fr a z le wy fo en fF fA fB fS fW sk pg ye ys yt yg yp tk gF (upn gA k x) gB gS gW yk := by
  rw [upd_z]
  rfl
theorem wsM_put_fB {bd : Nat → Nat} {cm : Nat → ClassId} {th : Int32} {n : Nat} {fr : Nat → Int32} {a : Nat} {z : Nat → Nat} {le : Nat → Int32} {wy : Int32} {fo : Nat} {en : Nat} {fF : Nat → Nat} {fA : Nat → Nat} {fB : Nat → Nat} {fS : Nat → Nat} {fW : Nat → Int32} {sk : Nat → Int32} {pg : Nat} {ye : Int32} {ys : Int32} {yt : Nat} {yg : Nat} {yp : Nat} {tk : Nat → Int32} {gF : Nat → Nat} {gA : Nat → Nat} {gB : Nat → Nat} {gS : Nat → Nat} {gW : Nat → Int32} {yk : Nat → Int32} {k x : Nat} : (wsM bd cm th n fr a z le wy fo en fF fA fB fS fW sk pg ye ys yt yg yp tk gF gA gB gS gW yk).set 6 (bd 6, .inl (cm 1, 8, .inl (upd (fun j => nI (fB j)) k (nI x)))) = wsM bd cm th n fr a z le wy fo en fF fA (upn fB k x) fS fW sk pg ye ys yt yg yp tk gF gA gB gS gW yk := by
  rw [upd_z]
  rfl
theorem wsM_put_gS {bd : Nat → Nat} {cm : Nat → ClassId} {th : Int32} {n : Nat} {fr : Nat → Int32} {a : Nat} {z : Nat → Nat} {le : Nat → Int32} {wy : Int32} {fo : Nat} {en : Nat} {fF : Nat → Nat} {fA : Nat → Nat} {fB : Nat → Nat} {fS : Nat → Nat} {fW : Nat → Int32} {sk : Nat → Int32} {pg : Nat} {ye : Int32} {ys : Int32} {yt : Nat} {yg : Nat} {yp : Nat} {tk : Nat → Int32} {gF : Nat → Nat} {gA : Nat → Nat} {gB : Nat → Nat} {gS : Nat → Nat} {gW : Nat → Int32} {yk : Nat → Int32} {k x : Nat} : (wsM bd cm th n fr a z le wy fo en fF fA fB fS fW sk pg ye ys yt yg yp tk gF gA gB gS gW yk).set 14 (bd 14, .inl (cm 1, 8, .inl (upd (fun j => nI (gS j)) k (nI x)))) = wsM bd cm th n fr a z le wy fo en fF fA fB fS fW sk pg ye ys yt yg yp tk gF gA gB (upn gS k x) gW yk := by
  rw [upd_z]
  rfl
theorem wsM_put_fS {bd : Nat → Nat} {cm : Nat → ClassId} {th : Int32} {n : Nat} {fr : Nat → Int32} {a : Nat} {z : Nat → Nat} {le : Nat → Int32} {wy : Int32} {fo : Nat} {en : Nat} {fF : Nat → Nat} {fA : Nat → Nat} {fB : Nat → Nat} {fS : Nat → Nat} {fW : Nat → Int32} {sk : Nat → Int32} {pg : Nat} {ye : Int32} {ys : Int32} {yt : Nat} {yg : Nat} {yp : Nat} {tk : Nat → Int32} {gF : Nat → Nat} {gA : Nat → Nat} {gB : Nat → Nat} {gS : Nat → Nat} {gW : Nat → Int32} {yk : Nat → Int32} {k x : Nat} : (wsM bd cm th n fr a z le wy fo en fF fA fB fS fW sk pg ye ys yt yg yp tk gF gA gB gS gW yk).set 7 (bd 7, .inl (cm 1, 8, .inl (upd (fun j => nI (fS j)) k (nI x)))) = wsM bd cm th n fr a z le wy fo en fF fA fB (upn fS k x) fW sk pg ye ys yt yg yp tk gF gA gB gS gW yk := by
  rw [upd_z]
  rfl
theorem wsM_put_z {bd : Nat → Nat} {cm : Nat → ClassId} {th : Int32} {n : Nat} {fr : Nat → Int32} {a : Nat} {z : Nat → Nat} {le : Nat → Int32} {wy : Int32} {fo : Nat} {en : Nat} {fF : Nat → Nat} {fA : Nat → Nat} {fB : Nat → Nat} {fS : Nat → Nat} {fW : Nat → Int32} {sk : Nat → Int32} {pg : Nat} {ye : Int32} {ys : Int32} {yt : Nat} {yg : Nat} {yp : Nat} {tk : Nat → Int32} {gF : Nat → Nat} {gA : Nat → Nat} {gB : Nat → Nat} {gS : Nat → Nat} {gW : Nat → Int32} {yk : Nat → Int32} {k x : Nat} : (wsM bd cm th n fr a z le wy fo en fF fA fB fS fW sk pg ye ys yt yg yp tk gF gA gB gS gW yk).set 2 (bd 2, .inl (cm 1, 32, .inl (upd (fun j => nI (z j)) k (nI x)))) = wsM bd cm th n fr a (upn z k x) le wy fo en fF fA fB fS fW sk pg ye ys yt yg yp tk gF gA gB gS gW yk := by
  rw [upd_z]
  rfl
theorem wsM_put_gF {bd : Nat → Nat} {cm : Nat → ClassId} {th : Int32} {n : Nat} {fr : Nat → Int32} {a : Nat} {z : Nat → Nat} {le : Nat → Int32} {wy : Int32} {fo : Nat} {en : Nat} {fF : Nat → Nat} {fA : Nat → Nat} {fB : Nat → Nat} {fS : Nat → Nat} {fW : Nat → Int32} {sk : Nat → Int32} {pg : Nat} {ye : Int32} {ys : Int32} {yt : Nat} {yg : Nat} {yp : Nat} {tk : Nat → Int32} {gF : Nat → Nat} {gA : Nat → Nat} {gB : Nat → Nat} {gS : Nat → Nat} {gW : Nat → Int32} {yk : Nat → Int32} {k x : Nat} : (wsM bd cm th n fr a z le wy fo en fF fA fB fS fW sk pg ye ys yt yg yp tk gF gA gB gS gW yk).set 11 (bd 11, .inl (cm 1, 8, .inl (upd (fun j => nI (gF j)) k (nI x)))) = wsM bd cm th n fr a z le wy fo en fF fA fB fS fW sk pg ye ys yt yg yp tk (upn gF k x) gA gB gS gW yk := by
  rw [upd_z]
  rfl
theorem wsM_put_fF {bd : Nat → Nat} {cm : Nat → ClassId} {th : Int32} {n : Nat} {fr : Nat → Int32} {a : Nat} {z : Nat → Nat} {le : Nat → Int32} {wy : Int32} {fo : Nat} {en : Nat} {fF : Nat → Nat} {fA : Nat → Nat} {fB : Nat → Nat} {fS : Nat → Nat} {fW : Nat → Int32} {sk : Nat → Int32} {pg : Nat} {ye : Int32} {ys : Int32} {yt : Nat} {yg : Nat} {yp : Nat} {tk : Nat → Int32} {gF : Nat → Nat} {gA : Nat → Nat} {gB : Nat → Nat} {gS : Nat → Nat} {gW : Nat → Int32} {yk : Nat → Int32} {k x : Nat} : (wsM bd cm th n fr a z le wy fo en fF fA fB fS fW sk pg ye ys yt yg yp tk gF gA gB gS gW yk).set 4 (bd 4, .inl (cm 1, 8, .inl (upd (fun j => nI (fF j)) k (nI x)))) = wsM bd cm th n fr a z le wy fo en (upn fF k x) fA fB fS fW sk pg ye ys yt yg yp tk gF gA gB gS gW yk := by
  rw [upd_z]
  rfl
theorem wsM_put_fA {bd : Nat → Nat} {cm : Nat → ClassId} {th : Int32} {n : Nat} {fr : Nat → Int32} {a : Nat} {z : Nat → Nat} {le : Nat → Int32} {wy : Int32} {fo : Nat} {en : Nat} {fF : Nat → Nat} {fA : Nat → Nat} {fB : Nat → Nat} {fS : Nat → Nat} {fW : Nat → Int32} {sk : Nat → Int32} {pg : Nat} {ye : Int32} {ys : Int32} {yt : Nat} {yg : Nat} {yp : Nat} {tk : Nat → Int32} {gF : Nat → Nat} {gA : Nat → Nat} {gB : Nat → Nat} {gS : Nat → Nat} {gW : Nat → Int32} {yk : Nat → Int32} {k x : Nat} : (wsM bd cm th n fr a z le wy fo en fF fA fB fS fW sk pg ye ys yt yg yp tk gF gA gB gS gW yk).set 5 (bd 5, .inl (cm 1, 8, .inl (upd (fun j => nI (fA j)) k (nI x)))) = wsM bd cm th n fr a z le wy fo en fF (upn fA k x) fB fS fW sk pg ye ys yt yg yp tk gF gA gB gS gW yk := by
  rw [upd_z]
  rfl
theorem wsM_put_gB {bd : Nat → Nat} {cm : Nat → ClassId} {th : Int32} {n : Nat} {fr : Nat → Int32} {a : Nat} {z : Nat → Nat} {le : Nat → Int32} {wy : Int32} {fo : Nat} {en : Nat} {fF : Nat → Nat} {fA : Nat → Nat} {fB : Nat → Nat} {fS : Nat → Nat} {fW : Nat → Int32} {sk : Nat → Int32} {pg : Nat} {ye : Int32} {ys : Int32} {yt : Nat} {yg : Nat} {yp : Nat} {tk : Nat → Int32} {gF : Nat → Nat} {gA : Nat → Nat} {gB : Nat → Nat} {gS : Nat → Nat} {gW : Nat → Int32} {yk : Nat → Int32} {k x : Nat} : (wsM bd cm th n fr a z le wy fo en fF fA fB fS fW sk pg ye ys yt yg yp tk gF gA gB gS gW yk).set 13 (bd 13, .inl (cm 1, 8, .inl (upd (fun j => nI (gB j)) k (nI x)))) = wsM bd cm th n fr a z le wy fo en fF fA fB fS fW sk pg ye ys yt yg yp tk gF gA (upn gB k x) gS gW yk := by
  rw [upd_z]
  rfl
