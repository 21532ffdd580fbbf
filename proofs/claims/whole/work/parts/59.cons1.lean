theorem d_PG_init_0 : decode b_PG_init 0 = .ok (.aload_n 0, 1) := by decide +kernel
theorem d_PG_init_1 : decode b_PG_init 1 = .ok (.invokespecial 3, 3) := by decide +kernel
theorem d_PG_init_4 : decode b_PG_init 4 = .ok (.aload_n 0, 1) := by decide +kernel
theorem d_PG_init_5 : decode b_PG_init 5 = .ok (.sipush 4096, 3) := by decide +kernel
theorem d_PG_init_8 : decode b_PG_init 8 = .ok (.newarray .byte, 2) := by decide +kernel
theorem d_PG_init_10 : decode b_PG_init 10 = .ok (.putfield 9, 3) := by decide +kernel
theorem d_PG_init_13 : decode b_PG_init 13 = .ok (.return_, 1) := by decide +kernel
theorem d_FB_init_0 : decode b_FB_init 0 = .ok (.aload_n 0, 1) := by decide +kernel
theorem d_FB_init_1 : decode b_FB_init 1 = .ok (.invokespecial 3, 3) := by decide +kernel
theorem d_FB_init_4 : decode b_FB_init 4 = .ok (.aload_n 0, 1) := by decide +kernel
theorem d_FB_init_5 : decode b_FB_init 5 = .ok (.ldc 9, 2) := by decide +kernel
theorem d_FB_init_7 : decode b_FB_init 7 = .ok (.newarray .byte, 2) := by decide +kernel
theorem d_FB_init_9 : decode b_FB_init 9 = .ok (.putfield 10, 3) := by decide +kernel
theorem d_FB_init_12 : decode b_FB_init 12 = .ok (.return_, 1) := by decide +kernel
theorem d_AG_init_0 : decode b_AG_init 0 = .ok (.aload_n 0, 1) := by decide +kernel
theorem d_AG_init_1 : decode b_AG_init 1 = .ok (.invokespecial 3, 3) := by decide +kernel
theorem d_AG_init_4 : decode b_AG_init 4 = .ok (.aload_n 0, 1) := by decide +kernel
theorem d_AG_init_5 : decode b_AG_init 5 = .ok (.sipush 4064, 3) := by decide +kernel
theorem d_AG_init_8 : decode b_AG_init 8 = .ok (.newarray .byte, 2) := by decide +kernel
theorem d_AG_init_10 : decode b_AG_init 10 = .ok (.putfield 9, 3) := by decide +kernel
theorem d_AG_init_13 : decode b_AG_init 13 = .ok (.aload_n 0, 1) := by decide +kernel
theorem d_AG_init_14 : decode b_AG_init 14 = .ok (.bipush 32, 2) := by decide +kernel
theorem d_AG_init_16 : decode b_AG_init 16 = .ok (.newarray .int, 2) := by decide +kernel
theorem d_AG_init_18 : decode b_AG_init 18 = .ok (.putfield 15, 3) := by decide +kernel
theorem d_AG_init_21 : decode b_AG_init 21 = .ok (.return_, 1) := by decide +kernel
theorem d_PT_init_0 : decode b_PT_init 0 = .ok (.aload_n 0, 1) := by decide +kernel
theorem d_PT_init_1 : decode b_PT_init 1 = .ok (.invokespecial 1, 3) := by decide +kernel
theorem d_PT_init_4 : decode b_PT_init 4 = .ok (.return_, 1) := by decide +kernel
theorem d_PL_init_0 : decode b_PL_init 0 = .ok (.aload_n 0, 1) := by decide +kernel
theorem d_PL_init_1 : decode b_PL_init 1 = .ok (.invokespecial 3, 3) := by decide +kernel
theorem d_PL_init_4 : decode b_PL_init 4 = .ok (.aload_n 0, 1) := by decide +kernel
theorem d_PL_init_5 : decode b_PL_init 5 = .ok (.bipush 8, 2) := by decide +kernel
theorem d_PL_init_7 : decode b_PL_init 7 = .ok (.anewarray 9, 3) := by decide +kernel
theorem d_PL_init_10 : decode b_PL_init 10 = .ok (.putfield 11, 3) := by decide +kernel
theorem d_PL_init_13 : decode b_PL_init 13 = .ok (.iconst 0, 1) := by decide +kernel
theorem d_PL_init_14 : decode b_PL_init 14 = .ok (.istore_n 1, 1) := by decide +kernel
theorem d_PL_init_15 : decode b_PL_init 15 = .ok (.iload_n 1, 1) := by decide +kernel
theorem d_PL_init_16 : decode b_PL_init 16 = .ok (.aload_n 0, 1) := by decide +kernel
theorem d_PL_init_17 : decode b_PL_init 17 = .ok (.getfield 11, 3) := by decide +kernel
theorem d_PL_init_20 : decode b_PL_init 20 = .ok (.arraylength, 1) := by decide +kernel
theorem d_PL_init_21 : decode b_PL_init 21 = .ok (.if_icmp .ge 22, 3) := by decide +kernel
theorem d_PL_init_24 : decode b_PL_init 24 = .ok (.aload_n 0, 1) := by decide +kernel
theorem d_PL_init_25 : decode b_PL_init 25 = .ok (.getfield 11, 3) := by decide +kernel
theorem d_PL_init_28 : decode b_PL_init 28 = .ok (.iload_n 1, 1) := by decide +kernel
theorem d_PL_init_29 : decode b_PL_init 29 = .ok (.new 9, 3) := by decide +kernel
theorem d_PL_init_32 : decode b_PL_init 32 = .ok (.dup, 1) := by decide +kernel
theorem d_PL_init_33 : decode b_PL_init 33 = .ok (.invokespecial 17, 3) := by decide +kernel
theorem d_PL_init_36 : decode b_PL_init 36 = .ok (.aastore, 1) := by decide +kernel
theorem d_PL_init_37 : decode b_PL_init 37 = .ok (.iinc 1 1, 3) := by decide +kernel
theorem d_PL_init_40 : decode b_PL_init 40 = .ok (.goto (-25), 3) := by decide +kernel
theorem d_PL_init_43 : decode b_PL_init 43 = .ok (.return_, 1) := by decide +kernel
theorem d_IM_init_0 : decode b_IM_init 0 = .ok (.aload_n 0, 1) := by decide +kernel
theorem d_IM_init_1 : decode b_IM_init 1 = .ok (.invokespecial 3, 3) := by decide +kernel
theorem d_IM_init_4 : decode b_IM_init 4 = .ok (.aload_n 0, 1) := by decide +kernel
theorem d_IM_init_5 : decode b_IM_init 5 = .ok (.bipush 32, 2) := by decide +kernel
theorem d_IM_init_7 : decode b_IM_init 7 = .ok (.anewarray 9, 3) := by decide +kernel
theorem d_IM_init_10 : decode b_IM_init 10 = .ok (.putfield 11, 3) := by decide +kernel
theorem d_IM_init_13 : decode b_IM_init 13 = .ok (.iconst 0, 1) := by decide +kernel
theorem d_IM_init_14 : decode b_IM_init 14 = .ok (.istore_n 1, 1) := by decide +kernel
theorem d_IM_init_15 : decode b_IM_init 15 = .ok (.iload_n 1, 1) := by decide +kernel
theorem d_IM_init_16 : decode b_IM_init 16 = .ok (.aload_n 0, 1) := by decide +kernel
theorem d_IM_init_17 : decode b_IM_init 17 = .ok (.getfield 11, 3) := by decide +kernel
theorem d_IM_init_20 : decode b_IM_init 20 = .ok (.arraylength, 1) := by decide +kernel
theorem d_IM_init_21 : decode b_IM_init 21 = .ok (.if_icmp .ge 22, 3) := by decide +kernel
theorem d_IM_init_24 : decode b_IM_init 24 = .ok (.aload_n 0, 1) := by decide +kernel
theorem d_IM_init_25 : decode b_IM_init 25 = .ok (.getfield 11, 3) := by decide +kernel
theorem d_IM_init_28 : decode b_IM_init 28 = .ok (.iload_n 1, 1) := by decide +kernel
theorem d_IM_init_29 : decode b_IM_init 29 = .ok (.new 9, 3) := by decide +kernel
theorem d_IM_init_32 : decode b_IM_init 32 = .ok (.dup, 1) := by decide +kernel
theorem d_IM_init_33 : decode b_IM_init 33 = .ok (.invokespecial 17, 3) := by decide +kernel
theorem d_IM_init_36 : decode b_IM_init 36 = .ok (.aastore, 1) := by decide +kernel
theorem d_IM_init_37 : decode b_IM_init 37 = .ok (.iinc 1 1, 3) := by decide +kernel
theorem d_IM_init_40 : decode b_IM_init 40 = .ok (.goto (-25), 3) := by decide +kernel
theorem d_IM_init_43 : decode b_IM_init 43 = .ok (.return_, 1) := by decide +kernel
theorem d_GT_init_0 : decode b_GT_init 0 = .ok (.aload_n 0, 1) := by decide +kernel
theorem d_GT_init_1 : decode b_GT_init 1 = .ok (.invokespecial 1, 3) := by decide +kernel
theorem d_GT_init_4 : decode b_GT_init 4 = .ok (.aload_n 0, 1) := by decide +kernel
theorem d_GT_init_5 : decode b_GT_init 5 = .ok (.new 7, 3) := by decide +kernel
theorem d_GT_init_8 : decode b_GT_init 8 = .ok (.dup, 1) := by decide +kernel
theorem d_GT_init_9 : decode b_GT_init 9 = .ok (.invokespecial 9, 3) := by decide +kernel
theorem d_GT_init_12 : decode b_GT_init 12 = .ok (.putfield 10, 3) := by decide +kernel
theorem d_GT_init_15 : decode b_GT_init 15 = .ok (.aload_n 0, 1) := by decide +kernel
theorem d_GT_init_16 : decode b_GT_init 16 = .ok (.new 16, 3) := by decide +kernel
theorem d_GT_init_19 : decode b_GT_init 19 = .ok (.dup, 1) := by decide +kernel
theorem d_GT_init_20 : decode b_GT_init 20 = .ok (.invokespecial 18, 3) := by decide +kernel
theorem d_GT_init_23 : decode b_GT_init 23 = .ok (.putfield 19, 3) := by decide +kernel
theorem d_GT_init_26 : decode b_GT_init 26 = .ok (.aload_n 0, 1) := by decide +kernel
theorem d_GT_init_27 : decode b_GT_init 27 = .ok (.new 23, 3) := by decide +kernel
theorem d_GT_init_30 : decode b_GT_init 30 = .ok (.dup, 1) := by decide +kernel
theorem d_GT_init_31 : decode b_GT_init 31 = .ok (.invokespecial 25, 3) := by decide +kernel
theorem d_GT_init_34 : decode b_GT_init 34 = .ok (.putfield 26, 3) := by decide +kernel
theorem d_GT_init_37 : decode b_GT_init 37 = .ok (.aload_n 0, 1) := by decide +kernel
theorem d_GT_init_38 : decode b_GT_init 38 = .ok (.new 30, 3) := by decide +kernel
theorem d_GT_init_41 : decode b_GT_init 41 = .ok (.dup, 1) := by decide +kernel
theorem d_GT_init_42 : decode b_GT_init 42 = .ok (.invokespecial 32, 3) := by decide +kernel
theorem d_GT_init_45 : decode b_GT_init 45 = .ok (.putfield 33, 3) := by decide +kernel
theorem d_GT_init_48 : decode b_GT_init 48 = .ok (.aload_n 0, 1) := by decide +kernel
theorem d_GT_init_49 : decode b_GT_init 49 = .ok (.iconst 0, 1) := by decide +kernel
theorem d_GT_init_50 : decode b_GT_init 50 = .ok (.putfield 37, 3) := by decide +kernel
theorem d_GT_init_53 : decode b_GT_init 53 = .ok (.return_, 1) := by decide +kernel
theorem d_MD_init_0 : decode b_MD_init 0 = .ok (.aload_n 0, 1) := by decide +kernel
theorem d_MD_init_1 : decode b_MD_init 1 = .ok (.invokespecial 1, 3) := by decide +kernel
theorem d_MD_init_4 : decode b_MD_init 4 = .ok (.aload_n 0, 1) := by decide +kernel
theorem d_MD_init_5 : decode b_MD_init 5 = .ok (.ldc 7, 2) := by decide +kernel
theorem d_MD_init_7 : decode b_MD_init 7 = .ok (.newarray .byte, 2) := by decide +kernel
theorem d_MD_init_9 : decode b_MD_init 9 = .ok (.putfield 8, 3) := by decide +kernel
theorem d_MD_init_12 : decode b_MD_init 12 = .ok (.aload_n 0, 1) := by decide +kernel
theorem d_MD_init_13 : decode b_MD_init 13 = .ok (.bipush 32, 2) := by decide +kernel
theorem d_MD_init_15 : decode b_MD_init 15 = .ok (.newarray .int, 2) := by decide +kernel
theorem d_MD_init_17 : decode b_MD_init 17 = .ok (.putfield 14, 3) := by decide +kernel
theorem d_MD_init_20 : decode b_MD_init 20 = .ok (.aload_n 0, 1) := by decide +kernel
theorem d_MD_init_21 : decode b_MD_init 21 = .ok (.sipush 4096, 3) := by decide +kernel
theorem d_MD_init_24 : decode b_MD_init 24 = .ok (.newarray .byte, 2) := by decide +kernel
theorem d_MD_init_26 : decode b_MD_init 26 = .ok (.putfield 18, 3) := by decide +kernel
theorem d_MD_init_29 : decode b_MD_init 29 = .ok (.aload_n 0, 1) := by decide +kernel
theorem d_MD_init_30 : decode b_MD_init 30 = .ok (.bipush 8, 2) := by decide +kernel
theorem d_MD_init_32 : decode b_MD_init 32 = .ok (.newarray .int, 2) := by decide +kernel
theorem d_MD_init_34 : decode b_MD_init 34 = .ok (.putfield 21, 3) := by decide +kernel
theorem d_MD_init_37 : decode b_MD_init 37 = .ok (.aload_n 0, 1) := by decide +kernel
theorem d_MD_init_38 : decode b_MD_init 38 = .ok (.bipush 8, 2) := by decide +kernel
theorem d_MD_init_40 : decode b_MD_init 40 = .ok (.newarray .int, 2) := by decide +kernel
theorem d_MD_init_42 : decode b_MD_init 42 = .ok (.putfield 24, 3) := by decide +kernel
theorem d_MD_init_45 : decode b_MD_init 45 = .ok (.aload_n 0, 1) := by decide +kernel
theorem d_MD_init_46 : decode b_MD_init 46 = .ok (.bipush 8, 2) := by decide +kernel
theorem d_MD_init_48 : decode b_MD_init 48 = .ok (.newarray .int, 2) := by decide +kernel
theorem d_MD_init_50 : decode b_MD_init 50 = .ok (.putfield 27, 3) := by decide +kernel
theorem d_MD_init_53 : decode b_MD_init 53 = .ok (.aload_n 0, 1) := by decide +kernel
theorem d_MD_init_54 : decode b_MD_init 54 = .ok (.bipush 8, 2) := by decide +kernel
theorem d_MD_init_56 : decode b_MD_init 56 = .ok (.newarray .int, 2) := by decide +kernel
theorem d_MD_init_58 : decode b_MD_init 58 = .ok (.putfield 30, 3) := by decide +kernel
theorem d_MD_init_61 : decode b_MD_init 61 = .ok (.aload_n 0, 1) := by decide +kernel
theorem d_MD_init_62 : decode b_MD_init 62 = .ok (.bipush 8, 2) := by decide +kernel
theorem d_MD_init_64 : decode b_MD_init 64 = .ok (.newarray .int, 2) := by decide +kernel
theorem d_MD_init_66 : decode b_MD_init 66 = .ok (.putfield 33, 3) := by decide +kernel
theorem d_MD_init_69 : decode b_MD_init 69 = .ok (.aload_n 0, 1) := by decide +kernel
theorem d_MD_init_70 : decode b_MD_init 70 = .ok (.sipush 4096, 3) := by decide +kernel
theorem d_MD_init_73 : decode b_MD_init 73 = .ok (.newarray .byte, 2) := by decide +kernel
theorem d_MD_init_75 : decode b_MD_init 75 = .ok (.putfield 36, 3) := by decide +kernel
theorem d_MD_init_78 : decode b_MD_init 78 = .ok (.aload_n 0, 1) := by decide +kernel
theorem d_MD_init_79 : decode b_MD_init 79 = .ok (.ldc 7, 2) := by decide +kernel
theorem d_MD_init_81 : decode b_MD_init 81 = .ok (.newarray .byte, 2) := by decide +kernel
theorem d_MD_init_83 : decode b_MD_init 83 = .ok (.putfield 39, 3) := by decide +kernel
theorem d_MD_init_86 : decode b_MD_init 86 = .ok (.aload_n 0, 1) := by decide +kernel
theorem d_MD_init_87 : decode b_MD_init 87 = .ok (.bipush 8, 2) := by decide +kernel
theorem d_MD_init_89 : decode b_MD_init 89 = .ok (.newarray .int, 2) := by decide +kernel
theorem d_MD_init_91 : decode b_MD_init 91 = .ok (.putfield 42, 3) := by decide +kernel
theorem d_MD_init_94 : decode b_MD_init 94 = .ok (.aload_n 0, 1) := by decide +kernel
theorem d_MD_init_95 : decode b_MD_init 95 = .ok (.bipush 8, 2) := by decide +kernel
theorem d_MD_init_97 : decode b_MD_init 97 = .ok (.newarray .int, 2) := by decide +kernel
theorem d_MD_init_99 : decode b_MD_init 99 = .ok (.putfield 45, 3) := by decide +kernel
theorem d_MD_init_102 : decode b_MD_init 102 = .ok (.aload_n 0, 1) := by decide +kernel
theorem d_MD_init_103 : decode b_MD_init 103 = .ok (.bipush 8, 2) := by decide +kernel
theorem d_MD_init_105 : decode b_MD_init 105 = .ok (.newarray .int, 2) := by decide +kernel
theorem d_MD_init_107 : decode b_MD_init 107 = .ok (.putfield 48, 3) := by decide +kernel
theorem d_MD_init_110 : decode b_MD_init 110 = .ok (.aload_n 0, 1) := by decide +kernel
theorem d_MD_init_111 : decode b_MD_init 111 = .ok (.bipush 8, 2) := by decide +kernel
theorem d_MD_init_113 : decode b_MD_init 113 = .ok (.newarray .int, 2) := by decide +kernel
theorem d_MD_init_115 : decode b_MD_init 115 = .ok (.putfield 51, 3) := by decide +kernel
theorem d_MD_init_118 : decode b_MD_init 118 = .ok (.aload_n 0, 1) := by decide +kernel
theorem d_MD_init_119 : decode b_MD_init 119 = .ok (.bipush 8, 2) := by decide +kernel
theorem d_MD_init_121 : decode b_MD_init 121 = .ok (.newarray .int, 2) := by decide +kernel
theorem d_MD_init_123 : decode b_MD_init 123 = .ok (.putfield 54, 3) := by decide +kernel
theorem d_MD_init_126 : decode b_MD_init 126 = .ok (.aload_n 0, 1) := by decide +kernel
theorem d_MD_init_127 : decode b_MD_init 127 = .ok (.sipush 4096, 3) := by decide +kernel
theorem d_MD_init_130 : decode b_MD_init 130 = .ok (.newarray .byte, 2) := by decide +kernel
theorem d_MD_init_132 : decode b_MD_init 132 = .ok (.putfield 57, 3) := by decide +kernel
theorem d_MD_init_135 : decode b_MD_init 135 = .ok (.return_, 1) := by decide +kernel
set_option maxHeartbeats 4000000 in
set_option maxRecDepth 100000 in
theorem j_PG (l : Launch) (dC : Nat → ClassId) (dI : Nat → Nat → Nat) (ck : Nat → ClassId) (a : Nat) (sz : Nat) : Met l y_PG_init w_PG_init { frames := 1, cells := 1, slots := 4096, locals := 12 } (va_Pc [.ref a] (xP3 (dC, dI) (tyG ck) [(a, .inr (3, [.null, .int 0, .int 0]))] sz)) (xQc (S := Nat) (dC, dI) (tyG ck) (va_A [(a, .inr (3, [.null, .int 0, .int 0]))] sz) (fun b : Nat => [(a, .inr (3, [.ref b, .int 0, .int 0])), (b, .inl (ck 0, 4096, .inl (fun _ => 0)))])) 1 4096 (va_A [(a, .inr (3, [.null, .int 0, .int 0]))] sz) := by
  refine xof3 (cc := b_PG_init) (maxL := 1) (ret := none) (own := R_PG) (Qc := fun A => (xQc (S := Nat) (dC, dI) (tyG ck) A (fun b : Nat => [(a, .inr (3, [.ref b, .int 0, .int 0])), (b, .inl (ck 0, 4096, .inl (fun _ => 0)))]))) (by decide) rfl rfl (Nat.le_of_ble_eq_true rfl) ?_ sz
  intro p e s m below meth c A C hnm hK hP hD hA hN hZ hAO hS ls hl
  obtain ⟨hx, hb, hr, hml, hown, hts, hlocks⟩ := C
  have hl : lv_has ls 1 [(0, .ref a)] := hl
  refine lv_aload_n hx hb d_PG_init_0 rfl (lv_at hl 0 rfl) ?_
  refine W.objInit hx hb hown (hts _ wd_136) (hts _ wd_32) (hts _ wd_33) rfl (by rw [hml]; exact hl.1) rfl d_PG_init_1 (Nat.le_of_ble_eq_true rfl) (Nat.le_of_ble_eq_true rfl) ?_
  refine W.eq (g2 := F0 m 4 ls []) rfl ?_
  refine lv_aload_n hx hb d_PG_init_4 rfl (lv_at hl 0 rfl) ?_
  refine lv_sipush (v := 4096) hx hb d_PG_init_5 (by decide) ?_
  refine xnewb (N := 4096) hx hb (hts _ wd_49) hK hP hD hS hA 0 rfl rfl (by decide) (Nat.le_of_ble_eq_true rfl) (Nat.le_of_ble_eq_true rfl) d_PG_init_8 (fun q1 H hP hD hS => ?_)
  have hP : va_P (dC, dI) vwCl [(a, .inr (3, [.null, .int 0, .int 0])), (q1, .inl (ck 0, 4096, .inl (fun _ => 0)))] H := hP
  have hD : va_D A [(a, .inr (3, [.null, .int 0, .int 0])), (q1, .inl (ck 0, 4096, .inl (fun _ => 0)))] := hD
  refine va_putF (D := (dC, dI)) (ci := 3) (v := .ref q1) (ty := (.array .byte)) (C := R_PG) (T := T_PG) (N := 3) hx hb hts i_PG t_PG k_PG n_PG hown hK hP hD hS 0 rfl rfl 0 (by decide) (hts _ wd_137) (fun _ h9 => h9) rfl hnm rfl (by decide +kernel) rfl rfl (Nat.le_of_ble_eq_true rfl) d_PG_init_10 (fun H locs hP hD hS => ?_)
  have hP : va_P (dC, dI) vwCl [(a, .inr (3, [.ref q1, .int 0, .int 0])), (q1, .inl (ck 0, 4096, .inl (fun _ => 0)))] H := hP
  have hD : va_D A [(a, .inr (3, [.ref q1, .int 0, .int 0])), (q1, .inl (ck 0, 4096, .inl (fun _ => 0)))] := hD
  exact xretc (ww := (fun b : Nat => [(a, .inr (3, [.ref b, .int 0, .int 0])), (b, .inl (ck 0, 4096, .inl (fun _ => 0)))])) q1 hx hb hr hlocks hK hP hD hS (Nat.le_of_ble_eq_true rfl) (Nat.le_of_ble_eq_true rfl) d_PG_init_13
set_option maxHeartbeats 4000000 in
set_option maxRecDepth 100000 in
theorem j_FB (l : Launch) (dC : Nat → ClassId) (dI : Nat → Nat → Nat) (ck : Nat → ClassId) (a : Nat) (sz : Nat) : Met l y_FB_init w_FB_init { frames := 1, cells := 1, slots := 65536, locals := 12 } (va_Pc [.ref a] (xP3 (dC, dI) (tyG ck) [(a, .inr (1, [.null, .int 0]))] sz)) (xQc (S := Nat) (dC, dI) (tyG ck) (va_A [(a, .inr (1, [.null, .int 0]))] sz) (fun b : Nat => [(a, .inr (1, [.ref b, .int 0])), (b, .inl (ck 0, 65536, .inl (fun _ => 0)))])) 1 65536 (va_A [(a, .inr (1, [.null, .int 0]))] sz) := by
  refine xof3 (cc := b_FB_init) (maxL := 1) (ret := none) (own := R_FB) (Qc := fun A => (xQc (S := Nat) (dC, dI) (tyG ck) A (fun b : Nat => [(a, .inr (1, [.ref b, .int 0])), (b, .inl (ck 0, 65536, .inl (fun _ => 0)))]))) (by decide) rfl rfl (Nat.le_of_ble_eq_true rfl) ?_ sz
  intro p e s m below meth c A C hnm hK hP hD hA hN hZ hAO hS ls hl
  obtain ⟨hx, hb, hr, hml, hown, hts, hlocks⟩ := C
  have hl : lv_has ls 1 [(0, .ref a)] := hl
  refine lv_aload_n hx hb d_FB_init_0 rfl (lv_at hl 0 rfl) ?_
  refine W.objInit hx hb hown (hts _ wd_39) (hts _ wd_32) (hts _ wd_33) rfl (by rw [hml]; exact hl.1) rfl d_FB_init_1 (Nat.le_of_ble_eq_true rfl) (Nat.le_of_ble_eq_true rfl) ?_
  refine W.eq (g2 := F0 m 4 ls []) rfl ?_
  refine lv_aload_n hx hb d_FB_init_4 rfl (lv_at hl 0 rfl) ?_
  refine lv_ldc (v := 65536) hx hb hown (hts _ wd_40) d_FB_init_5 ?_
  refine xnewb (N := 65536) hx hb (hts _ wd_49) hK hP hD hS hA 0 rfl rfl (by decide) (Nat.le_of_ble_eq_true rfl) (Nat.le_of_ble_eq_true rfl) d_FB_init_7 (fun q1 H hP hD hS => ?_)
  have hP : va_P (dC, dI) vwCl [(a, .inr (1, [.null, .int 0])), (q1, .inl (ck 0, 65536, .inl (fun _ => 0)))] H := hP
  have hD : va_D A [(a, .inr (1, [.null, .int 0])), (q1, .inl (ck 0, 65536, .inl (fun _ => 0)))] := hD
  refine va_putF (D := (dC, dI)) (ci := 1) (v := .ref q1) (ty := (.array .byte)) (C := R_FB) (T := T_FB) (N := 2) hx hb hts i_FB t_FB k_FB n_FB hown hK hP hD hS 0 rfl rfl 0 (by decide) (hts _ wd_41) (fun _ h9 => h9) rfl hnm rfl (by decide +kernel) rfl rfl (Nat.le_of_ble_eq_true rfl) d_FB_init_9 (fun H locs hP hD hS => ?_)
  have hP : va_P (dC, dI) vwCl [(a, .inr (1, [.ref q1, .int 0])), (q1, .inl (ck 0, 65536, .inl (fun _ => 0)))] H := hP
  have hD : va_D A [(a, .inr (1, [.ref q1, .int 0])), (q1, .inl (ck 0, 65536, .inl (fun _ => 0)))] := hD
  exact xretc (ww := (fun b : Nat => [(a, .inr (1, [.ref b, .int 0])), (b, .inl (ck 0, 65536, .inl (fun _ => 0)))])) q1 hx hb hr hlocks hK hP hD hS (Nat.le_of_ble_eq_true rfl) (Nat.le_of_ble_eq_true rfl) d_FB_init_12
set_option maxHeartbeats 4000000 in
set_option maxRecDepth 100000 in
theorem j_AG (l : Launch) (dC : Nat → ClassId) (dI : Nat → Nat → Nat) (ck : Nat → ClassId) (a : Nat) (sz : Nat) : Met l y_AG_init w_AG_init { frames := 1, cells := 2, slots := 4096, locals := 12 } (va_Pc [.ref a] (xP3 (dC, dI) (tyG ck) [(a, .inr (0, [.null, .null, .int 0]))] sz)) (xQc (S := Nat × Nat) (dC, dI) (tyG ck) (va_A [(a, .inr (0, [.null, .null, .int 0]))] sz) (fun b : Nat × Nat => [(a, .inr (0, [.ref b.1, .ref b.2, .int 0])), (b.1, .inl (ck 0, 4064, .inl (fun _ => 0))), (b.2, .inl (ck 1, 32, .inl (fun _ => 0)))])) 2 4096 (va_A [(a, .inr (0, [.null, .null, .int 0]))] sz) := by
  refine xof3 (cc := b_AG_init) (maxL := 1) (ret := none) (own := R_AG) (Qc := fun A => (xQc (S := Nat × Nat) (dC, dI) (tyG ck) A (fun b : Nat × Nat => [(a, .inr (0, [.ref b.1, .ref b.2, .int 0])), (b.1, .inl (ck 0, 4064, .inl (fun _ => 0))), (b.2, .inl (ck 1, 32, .inl (fun _ => 0)))]))) (by decide) rfl rfl (Nat.le_of_ble_eq_true rfl) ?_ sz
  intro p e s m below meth c A C hnm hK hP hD hA hN hZ hAO hS ls hl
  obtain ⟨hx, hb, hr, hml, hown, hts, hlocks⟩ := C
  have hl : lv_has ls 1 [(0, .ref a)] := hl
  refine lv_aload_n hx hb d_AG_init_0 rfl (lv_at hl 0 rfl) ?_
  refine W.objInit hx hb hown (hts _ wd_55) (hts _ wd_32) (hts _ wd_33) rfl (by rw [hml]; exact hl.1) rfl d_AG_init_1 (Nat.le_of_ble_eq_true rfl) (Nat.le_of_ble_eq_true rfl) ?_
  refine W.eq (g2 := F0 m 4 ls []) rfl ?_
  refine lv_aload_n hx hb d_AG_init_4 rfl (lv_at hl 0 rfl) ?_
  refine lv_sipush (v := 4064) hx hb d_AG_init_5 (by decide) ?_
  refine xnewb (N := 4064) hx hb (hts _ wd_49) hK hP hD hS hA 0 rfl rfl (by decide) (Nat.le_of_ble_eq_true rfl) (Nat.le_of_ble_eq_true rfl) d_AG_init_8 (fun q1 H hP hD hS => ?_)
  have hP : va_P (dC, dI) vwCl [(a, .inr (0, [.null, .null, .int 0])), (q1, .inl (ck 0, 4064, .inl (fun _ => 0)))] H := hP
  have hD : va_D A [(a, .inr (0, [.null, .null, .int 0])), (q1, .inl (ck 0, 4064, .inl (fun _ => 0)))] := hD
  refine va_putF (D := (dC, dI)) (ci := 0) (v := .ref q1) (ty := (.array .byte)) (C := R_AG) (T := T_AG) (N := 3) hx hb hts i_AG t_AG k_AG n_AG hown hK hP hD hS 0 rfl rfl 0 (by decide) (hts _ wd_56) (fun _ h9 => h9) rfl hnm rfl (by decide +kernel) rfl rfl (Nat.le_of_ble_eq_true rfl) d_AG_init_10 (fun H locs hP hD hS => ?_)
  have hP : va_P (dC, dI) vwCl [(a, .inr (0, [.ref q1, .null, .int 0])), (q1, .inl (ck 0, 4064, .inl (fun _ => 0)))] H := hP
  have hD : va_D A [(a, .inr (0, [.ref q1, .null, .int 0])), (q1, .inl (ck 0, 4064, .inl (fun _ => 0)))] := hD
  refine lv_aload_n hx hb d_AG_init_13 rfl (lv_at hl 0 rfl) ?_
  refine lv_bipush (v := 32) hx hb d_AG_init_14 (by decide) ?_
  refine xnewi (N := 32) hx hb (hts _ wd_68) hK hP hD hS hA 1 rfl rfl (by decide) (Nat.le_of_ble_eq_true rfl) (Nat.le_of_ble_eq_true rfl) d_AG_init_16 (fun q2 H hP hD hS => ?_)
  have hP : va_P (dC, dI) vwCl [(a, .inr (0, [.ref q1, .null, .int 0])), (q1, .inl (ck 0, 4064, .inl (fun _ => 0))), (q2, .inl (ck 1, 32, .inl (fun _ => 0)))] H := hP
  have hD : va_D A [(a, .inr (0, [.ref q1, .null, .int 0])), (q1, .inl (ck 0, 4064, .inl (fun _ => 0))), (q2, .inl (ck 1, 32, .inl (fun _ => 0)))] := hD
  refine va_putF (D := (dC, dI)) (ci := 0) (v := .ref q2) (ty := (.array .int)) (C := R_AG) (T := T_AG) (N := 3) hx hb hts i_AG t_AG k_AG n_AG hown hK hP hD hS 0 rfl rfl 1 (by decide) (hts _ wd_57) (fun _ h9 => h9) rfl hnm rfl (by decide +kernel) rfl rfl (Nat.le_of_ble_eq_true rfl) d_AG_init_18 (fun H locs hP hD hS => ?_)
  have hP : va_P (dC, dI) vwCl [(a, .inr (0, [.ref q1, .ref q2, .int 0])), (q1, .inl (ck 0, 4064, .inl (fun _ => 0))), (q2, .inl (ck 1, 32, .inl (fun _ => 0)))] H := hP
  have hD : va_D A [(a, .inr (0, [.ref q1, .ref q2, .int 0])), (q1, .inl (ck 0, 4064, .inl (fun _ => 0))), (q2, .inl (ck 1, 32, .inl (fun _ => 0)))] := hD
  exact xretc (ww := (fun b : Nat × Nat => [(a, .inr (0, [.ref b.1, .ref b.2, .int 0])), (b.1, .inl (ck 0, 4064, .inl (fun _ => 0))), (b.2, .inl (ck 1, 32, .inl (fun _ => 0)))])) (q1, q2) hx hb hr hlocks hK hP hD hS (Nat.le_of_ble_eq_true rfl) (Nat.le_of_ble_eq_true rfl) d_AG_init_21
set_option maxHeartbeats 4000000 in
set_option maxRecDepth 100000 in
theorem j_PT (l : Launch) (dC : Nat → ClassId) (dI : Nat → Nat → Nat) (ck : Nat → ClassId) (a : Nat) (sz : Nat) : Met l y_PT_init w_PT_init { frames := 1, cells := 0, slots := 0, locals := 12 } (va_Pc [.ref a] (xP3 (dC, dI) (tyG ck) [(a, .inr (4, [.int 0, .int 0, .int 0, .int 0, .int 0]))] sz)) (xQc (S := Unit) (dC, dI) (tyG ck) (va_A [(a, .inr (4, [.int 0, .int 0, .int 0, .int 0, .int 0]))] sz) (fun _ : Unit => [(a, .inr (4, [.int 0, .int 0, .int 0, .int 0, .int 0]))])) 0 0 (va_A [(a, .inr (4, [.int 0, .int 0, .int 0, .int 0, .int 0]))] sz) := by
  refine xof3 (cc := b_PT_init) (maxL := 1) (ret := none) (own := R_PT) (Qc := fun A => (xQc (S := Unit) (dC, dI) (tyG ck) A (fun _ : Unit => [(a, .inr (4, [.int 0, .int 0, .int 0, .int 0, .int 0]))]))) (by decide) rfl rfl (Nat.le_of_ble_eq_true rfl) ?_ sz
  intro p e s m below meth c A C hnm hK hP hD hA hN hZ hAO hS ls hl
  obtain ⟨hx, hb, hr, hml, hown, hts, hlocks⟩ := C
  have hl : lv_has ls 1 [(0, .ref a)] := hl
  refine lv_aload_n hx hb d_PT_init_0 rfl (lv_at hl 0 rfl) ?_
  refine W.objInit hx hb hown (hts _ wd_81) (hts _ wd_32) (hts _ wd_33) rfl (by rw [hml]; exact hl.1) rfl d_PT_init_1 (Nat.le_of_ble_eq_true rfl) (Nat.le_of_ble_eq_true rfl) ?_
  refine W.eq (g2 := F0 m 4 ls []) rfl ?_
  exact xretc (ww := (fun _ : Unit => [(a, .inr (4, [.int 0, .int 0, .int 0, .int 0, .int 0]))])) () hx hb hr hlocks hK hP hD hS (Nat.le_of_ble_eq_true rfl) (Nat.le_of_ble_eq_true rfl) d_PT_init_4
def zPart (pa : Nat → Nat) (i : Nat) : Nat × va_E := (pa i, .inr (4, [.int 0, .int 0, .int 0, .int 0, .int 0]))
def zPage (pa pb : Nat → Nat) (i : Nat) : Nat × va_E := (pa i, .inr (3, [.ref (pb i), .int 0, .int 0]))
def zPb (ck : Nat → ClassId) (pb : Nat → Nat) (i : Nat) : Nat × va_E := (pb i, .inl (ck 0, 4096, .inl (fun _ => 0)))
abbrev wPl (ck : Nat → ClassId) (a b : Nat) (fa : Nat → Option Nat) (pa : Nat → Nat) (k : Nat) : va_W := (a, .inr (5, [.ref b, .int 0, .int 0, .int 0, .int 0])) :: (b, .inl (ck 2, 8, .inr (.inr (.inr (.inr fa))))) :: (List.range k).map (zPart pa)
abbrev wIm (ck : Nat → ClassId) (a b : Nat) (fa : Nat → Option Nat) (pa pb : Nat → Nat) (k : Nat) : va_W := (a, .inr (2, [.ref b, .int 0, .int 0, .int 0, .int 0, .int 0])) :: (b, .inl (ck 3, 32, .inr (.inr (.inr (.inr fa))))) :: ((List.range k).map (zPage pa pb) ++ (List.range k).map (zPb ck pb))
abbrev faK (pa : Nat → Nat) (k : Nat) : Nat → Option Nat := fun i => if i < k then some (pa i) else none
theorem faK0 (pa : Nat → Nat) : faK pa 0 = fun _ => none := by
  funext i
  simp [faK]
theorem zPart_s (pa : Nat → Nat) (k q : Nat) : (List.range (k + 1)).map (zPart (upn pa k q)) = (List.range k).map (zPart pa) ++ [zPart (fun _ => q) 0] := by
  rw [List.range_succ, List.map_append]
  congr 1
  · exact List.map_congr_left (fun i hi => by
      have := List.mem_range.mp hi
      unfold zPart
      rw [upn_ne _ _ (show i ≠ k from by omega)])
  · simp [zPart, upn_eq]
theorem zPage_s (pa pb : Nat → Nat) (k q r : Nat) : (List.range (k + 1)).map (zPage (upn pa k q) (upn pb k r)) = (List.range k).map (zPage pa pb) ++ [zPage (fun _ => q) (fun _ => r) 0] := by
  rw [List.range_succ, List.map_append]
  congr 1
  · exact List.map_congr_left (fun i hi => by
      have := List.mem_range.mp hi
      unfold zPage
      rw [upn_ne _ _ (show i ≠ k from by omega), upn_ne _ _ (show i ≠ k from by omega)])
  · simp [zPage, upn_eq]
theorem zPb_s (ck : Nat → ClassId) (pb : Nat → Nat) (k r : Nat) : (List.range (k + 1)).map (zPb ck (upn pb k r)) = (List.range k).map (zPb ck pb) ++ [zPb ck (fun _ => r) 0] := by
  rw [List.range_succ, List.map_append]
  congr 1
  · exact List.map_congr_left (fun i hi => by
      have := List.mem_range.mp hi
      unfold zPb
      rw [upn_ne _ _ (show i ≠ k from by omega)])
  · simp [zPb, upn_eq]
theorem zPerm {α : Type} (A B : List α) (x y : α) : List.Perm ((A ++ B) ++ [x, y]) ((A ++ [x]) ++ (B ++ [y])) := by
  rw [List.append_assoc, List.append_assoc]
  refine List.Perm.append_left A ?_
  exact List.perm_middle
set_option maxHeartbeats 4000000 in
set_option maxRecDepth 100000 in
theorem j_PL (l : Launch) (dC : Nat → ClassId) (dI : Nat → Nat → Nat) (ck : Nat → ClassId) (a : Nat) (sz : Nat) : Met l y_PL_init w_PL_init { frames := 2, cells := 9, slots := 48, locals := 32 } (va_Pc [.ref a] (xP3 (dC, dI) (tyG ck) [(a, .inr (5, [.null, .int 0, .int 0, .int 0, .int 0]))] sz)) (xQc (S := Nat × (Nat → Nat)) (dC, dI) (tyG ck) (va_A [(a, .inr (5, [.null, .int 0, .int 0, .int 0, .int 0]))] sz) (fun u : Nat × (Nat → Nat) => wPl ck a u.1 (faK u.2 8) u.2 8)) 9 48 (va_A [(a, .inr (5, [.null, .int 0, .int 0, .int 0, .int 0]))] sz) := by
  refine xof3 (cc := b_PL_init) (maxL := 2) (ret := none) (own := R_PL) (Qc := fun A => (xQc (S := Nat × (Nat → Nat)) (dC, dI) (tyG ck) A (fun u : Nat × (Nat → Nat) => wPl ck a u.1 (faK u.2 8) u.2 8))) (by decide) rfl rfl (Nat.le_of_ble_eq_true rfl) ?_ sz
  intro p e s m below meth c A C hnm hK hP hD hA hN hZ hAO hS ls hl
  obtain ⟨hx, hb, hr, hml, hown, hts, hlocks⟩ := C
  have hl : lv_has ls 2 [(0, .ref a)] := hl
  refine lv_aload_n hx hb d_PL_init_0 rfl (lv_at hl 0 rfl) ?_
  refine W.objInit hx hb hown (hts _ wd_74) (hts _ wd_32) (hts _ wd_33) rfl (by rw [hml]; exact hl.1) rfl d_PL_init_1 (Nat.le_of_ble_eq_true rfl) (Nat.le_of_ble_eq_true rfl) ?_
  refine W.eq (g2 := F0 m 4 ls []) rfl ?_
  refine lv_aload_n hx hb d_PL_init_4 rfl (lv_at hl 0 rfl) ?_
  refine lv_bipush (v := 8) hx hb d_PL_init_5 (by decide) ?_
  refine xnewq (C := R_PT) (N := 8) hx hb hown (hts _ wd_75) hAO.1 hK hP hD hS hA 2 rfl rfl (by decide) (Nat.le_of_ble_eq_true rfl) (Nat.le_of_ble_eq_true rfl) d_PL_init_7 (fun b H hP hD hS => ?_)
  have hP : va_P (dC, dI) vwCl [(a, .inr (5, [.null, .int 0, .int 0, .int 0, .int 0])), (b, .inl (ck 2, 8, .inr (.inr (.inr (.inr (fun _ => none))))))] H := hP
  have hD : va_D A [(a, .inr (5, [.null, .int 0, .int 0, .int 0, .int 0])), (b, .inl (ck 2, 8, .inr (.inr (.inr (.inr (fun _ => none))))))] := hD
  refine va_putF (D := (dC, dI)) (ci := 5) (v := .ref b) (ty := (.array (.object "ImageGate$Part"))) (C := R_PL) (T := T_PL) (N := 5) hx hb hts i_PL t_PL k_PL n_PL hown hK hP hD hS 0 rfl rfl 0 (by decide) (hts _ wd_103) (fun _ h9 => h9) rfl hnm rfl (by decide +kernel) rfl rfl (Nat.le_of_ble_eq_true rfl) d_PL_init_10 (fun H locs hP hD hS => ?_)
  have hP : va_P (dC, dI) vwCl [(a, .inr (5, [.ref b, .int 0, .int 0, .int 0, .int 0])), (b, .inl (ck 2, 8, .inr (.inr (.inr (.inr (fun _ => none))))))] H := hP
  have hD : va_D A [(a, .inr (5, [.ref b, .int 0, .int 0, .int 0, .int 0])), (b, .inl (ck 2, 8, .inr (.inr (.inr (.inr (fun _ => none))))))] := hD
  refine lv_iconst (v := 0) hx hb d_PL_init_13 (by decide) ?_
  refine lv_istore_n hx hb d_PL_init_14 rfl hl (by decide) rfl (fun ls hl => ?_)
  have hl : lv_has ls 2 [(1, .int (nI 0)), (0, .ref a)] := hl
  have lp : ∀ (d k : Nat) (pa : Nat → Nat), k + d = 8 → ∀ (H : Heap) (locs : List Loc), va_P (dC, dI) vwCl (wPl ck a b (faK pa k) pa k) H → va_D A (wPl ck a b (faK pa k) pa k) → va_S A s.heap H locs → ∀ ls : Array Slot, lv_has ls 2 [(1, .int (nI k)), (0, .ref a)] → W p l e { frames := 2, cells := 9, slots := 48, locals := 32 } s m [Value.ref a].toArray below meth c H locs (1 + k) (8 + 5 * k) (MQ below (xQc (S := Nat × (Nat → Nat)) (dC, dI) (tyG ck) A (fun u : Nat × (Nat → Nat) => wPl ck a u.1 (faK u.2 8) u.2 8)) [Value.ref a].toArray s 9 48 A) (F0 m 15 ls []) := by
    intro d
    induction d with
    | zero =>
      intro k pa hkd H locs hP hD hS ls hl
      refine lv_iload_n hx hb d_PL_init_15 rfl (lv_at hl 0 rfl) ?_
      refine lv_aload_n hx hb d_PL_init_16 rfl (lv_at hl 1 rfl) ?_
      refine va_get (D := (dC, dI)) (ci := 5) (v := .ref b) (C := R_PL) (T := T_PL) (N := 5) hx hb hts i_PL hown hK hP 0 rfl rfl 0 (by decide) (hts _ wd_103) (fun _ h9 => h9) rfl d_PL_init_17 ?_
      refine va_alen (v := 8) hx hb hK hP 1 2 rfl rfl rfl d_PL_init_20 ?_
      refine lv_icmp_ge (tgt := 43) hx hb d_PL_init_21 (by decide) (fun c1 => ?_) (fun c1 => ?_)
      · obtain rfl : k = 8 := by omega
        exact xretc (ww := (fun u : Nat × (Nat → Nat) => wPl ck a u.1 (faK u.2 8) u.2 8)) (b, pa) hx hb hr hlocks hK hP hD hS (Nat.le_of_ble_eq_true rfl) (Nat.le_of_ble_eq_true rfl) d_PL_init_43
      · exact absurd (show nI 8 ≤ nI k from nI_le (by omega) (by omega)) c1
    | succ d ih =>
      intro k pa hkd H locs hP hD hS ls hl
      refine lv_iload_n hx hb d_PL_init_15 rfl (lv_at hl 0 rfl) ?_
      refine lv_aload_n hx hb d_PL_init_16 rfl (lv_at hl 1 rfl) ?_
      refine va_get (D := (dC, dI)) (ci := 5) (v := .ref b) (C := R_PL) (T := T_PL) (N := 5) hx hb hts i_PL hown hK hP 0 rfl rfl 0 (by decide) (hts _ wd_103) (fun _ h9 => h9) rfl d_PL_init_17 ?_
      refine va_alen (v := 8) hx hb hK hP 1 2 rfl rfl rfl d_PL_init_20 ?_
      refine lv_icmp_ge (tgt := 43) hx hb d_PL_init_21 (by decide) (fun c1 => ?_) (fun c1 => ?_)
      · exact absurd c1 (show ¬ nI 8 ≤ nI k from nI_ge (by omega) (by omega))
      · skip
        refine lv_aload_n hx hb d_PL_init_24 rfl (lv_at hl 1 rfl) ?_
        refine va_get (D := (dC, dI)) (ci := 5) (v := .ref b) (C := R_PL) (T := T_PL) (N := 5) hx hb hts i_PL hown hK hP 0 rfl rfl 0 (by decide) (hts _ wd_103) (fun _ h9 => h9) rfl d_PL_init_25 ?_
        refine lv_iload_n hx hb d_PL_init_28 rfl (lv_at hl 0 rfl) ?_
        refine va_new (ci := 4) (fs := [.int 0, .int 0, .int 0, .int 0, .int 0]) (C := R_PT) (T := T_PT) (N := 5) hx hb hts i_PT t_PT k_PT hown (hts _ wd_75) (hts _ wd_77) (hts _ wd_19) hK hP hD hS hA rfl (fun j hj => by rcases (show j = 0 ∨ j = 1 ∨ j = 2 ∨ j = 3 ∨ j = 4 by omega) with rfl | rfl | rfl | rfl | rfl <;> rfl) (show (1 + k) + 1 ≤ 9 by omega) (show (8 + 5 * k) + 5 ≤ 48 by omega) d_PL_init_29 (fun q H hP hD hS => ?_)
        refine lv_dup hx hb d_PL_init_32 rfl ?_
        refine xcallc (wr := (wPl ck a b (faK pa k) pa k)) (wc := [(q, .inr (4, [.int 0, .int 0, .int 0, .int 0, .int 0]))]) (va_runIN (As := []) (rest := [.ref q, .int (nI k), .ref b]) ⟨hx, hb, hml, hown, hts⟩ (j_PT l dC dI ck q H.size) ⟨va_cnB 0 hts (xgI wd_80) rfl rfl rfl (hN _ wd_78) (hts _ wd_19) (by decide +kernel) ⟨Nat.le_of_ble_eq_true rfl, Nat.le_of_ble_eq_true rfl⟩, rfl, hts _ wd_79⟩ (xpre3 (wr := (wPl ck a b (faK pa k) pa k)) hK hN hZ hAO hA hS hP hD) rfl rfl hl.1 rfl (lv_room (Nat.le_of_ble_eq_true rfl)) d_PL_init_33 ⟨show (1 + k) + 1 + 0 ≤ 9 by omega, show (8 + 5 * k) + 5 + 0 ≤ 48 by omega⟩) hP hD hS hA (fun u H locs hP hD hS => ?_)
        have ew : (wPl ck a b (faK pa k) pa k) ++ [(q, .inr (4, [.int 0, .int 0, .int 0, .int 0, .int 0]))] = (wPl ck a b (faK pa k) (upn pa k q) (k + 1)) := by
          show _ :: _ :: (_ ++ _) = _
          rw [wPl, zPart_s]
          rfl
        rw [ew] at hP hD
        refine va_astq (r := (R_PT, T_PT, 5)) hx hb hK hP hD hS 1 2 (k + 2) 4 rfl rfl (show ((wPl ck a b (faK pa k) (upn pa k q) (k + 1)))[k + 2]? = some (q, _) from (show (List.map _ _)[k]? = _ from ml_get _ (Nat.lt_succ_self k)).trans (by rw [zPart, upn_eq])) rfl (vp_in_nI (n := k) (by omega) (by decide)) d_PL_init_36 (fun H locs hP hD hS => ?_)
        have hf : va_up (faK pa k) (nI k).toNatClampNeg (some q) = faK (upn pa k q) (k + 1) := by rw [nI_clamp (by omega)]; exact va_up_k
        have hP : va_P (dC, dI) vwCl (wPl ck a b (faK (upn pa k q) (k + 1)) (upn pa k q) (k + 1)) H := by rw [hf] at hP; exact hP
        have hD : va_D A (wPl ck a b (faK (upn pa k q) (k + 1)) (upn pa k q) (k + 1)) := by rw [hf] at hD; exact hD
        refine lv_iinc (v := nI (k + 1)) hx hb d_PL_init_37 hl (k := 0) rfl (nI_succ k).symm (by decide) rfl (fun ls hl => ?_)
        refine lv_goto (tgt := 15) hx hb d_PL_init_40 (by decide) ?_
        refine W.widen (k := (1 + (k + 1))) (n := (8 + 5 * (k + 1))) (show (1 + k) + 1 + 0 ≤ (1 + (k + 1)) by omega) (show (8 + 5 * k) + 5 + 0 ≤ (8 + 5 * (k + 1)) by omega) ?_
        exact ih (k + 1) (upn pa k q) (by omega) H locs hP hD hS ls hl
  exact lp 8 0 (fun _ => 0) rfl H locs (by rw [faK0]; exact hP) (by rw [faK0]; exact hD) hS ls hl
set_option maxHeartbeats 4000000 in
set_option maxRecDepth 100000 in
theorem j_IM (l : Launch) (dC : Nat → ClassId) (dI : Nat → Nat → Nat) (ck : Nat → ClassId) (a : Nat) (sz : Nat) : Met l y_IM_init w_IM_init { frames := 2, cells := 65, slots := 131200, locals := 32 } (va_Pc [.ref a] (xP3 (dC, dI) (tyG ck) [(a, .inr (2, [.null, .int 0, .int 0, .int 0, .int 0, .int 0]))] sz)) (xQc (S := Nat × (Nat → Nat) × (Nat → Nat)) (dC, dI) (tyG ck) (va_A [(a, .inr (2, [.null, .int 0, .int 0, .int 0, .int 0, .int 0]))] sz) (fun u : Nat × (Nat → Nat) × (Nat → Nat) => wIm ck a u.1 (faK u.2.1 32) u.2.1 u.2.2 32)) 65 131200 (va_A [(a, .inr (2, [.null, .int 0, .int 0, .int 0, .int 0, .int 0]))] sz) := by
  refine xof3 (cc := b_IM_init) (maxL := 2) (ret := none) (own := R_IM) (Qc := fun A => (xQc (S := Nat × (Nat → Nat) × (Nat → Nat)) (dC, dI) (tyG ck) A (fun u : Nat × (Nat → Nat) × (Nat → Nat) => wIm ck a u.1 (faK u.2.1 32) u.2.1 u.2.2 32))) (by decide) rfl rfl (Nat.le_of_ble_eq_true rfl) ?_ sz
  intro p e s m below meth c A C hnm hK hP hD hA hN hZ hAO hS ls hl
  obtain ⟨hx, hb, hr, hml, hown, hts, hlocks⟩ := C
  have hl : lv_has ls 2 [(0, .ref a)] := hl
  refine lv_aload_n hx hb d_IM_init_0 rfl (lv_at hl 0 rfl) ?_
  refine W.objInit hx hb hown (hts _ wd_129) (hts _ wd_32) (hts _ wd_33) rfl (by rw [hml]; exact hl.1) rfl d_IM_init_1 (Nat.le_of_ble_eq_true rfl) (Nat.le_of_ble_eq_true rfl) ?_
  refine W.eq (g2 := F0 m 4 ls []) rfl ?_
  refine lv_aload_n hx hb d_IM_init_4 rfl (lv_at hl 0 rfl) ?_
  refine lv_bipush (v := 32) hx hb d_IM_init_5 (by decide) ?_
  refine xnewq (C := R_PG) (N := 32) hx hb hown (hts _ wd_130) hAO.2 hK hP hD hS hA 3 rfl rfl (by decide) (Nat.le_of_ble_eq_true rfl) (Nat.le_of_ble_eq_true rfl) d_IM_init_7 (fun b H hP hD hS => ?_)
  have hP : va_P (dC, dI) vwCl [(a, .inr (2, [.null, .int 0, .int 0, .int 0, .int 0, .int 0])), (b, .inl (ck 3, 32, .inr (.inr (.inr (.inr (fun _ => none))))))] H := hP
  have hD : va_D A [(a, .inr (2, [.null, .int 0, .int 0, .int 0, .int 0, .int 0])), (b, .inl (ck 3, 32, .inr (.inr (.inr (.inr (fun _ => none))))))] := hD
  refine va_putF (D := (dC, dI)) (ci := 2) (v := .ref b) (ty := (.array (.object "ImageGate$Page"))) (C := R_IM) (T := T_IM) (N := 6) hx hb hts i_IM t_IM k_IM n_IM hown hK hP hD hS 0 rfl rfl 0 (by decide) (hts _ wd_152) (fun _ h9 => h9) rfl hnm rfl (by decide +kernel) rfl rfl (Nat.le_of_ble_eq_true rfl) d_IM_init_10 (fun H locs hP hD hS => ?_)
  have hP : va_P (dC, dI) vwCl [(a, .inr (2, [.ref b, .int 0, .int 0, .int 0, .int 0, .int 0])), (b, .inl (ck 3, 32, .inr (.inr (.inr (.inr (fun _ => none))))))] H := hP
  have hD : va_D A [(a, .inr (2, [.ref b, .int 0, .int 0, .int 0, .int 0, .int 0])), (b, .inl (ck 3, 32, .inr (.inr (.inr (.inr (fun _ => none))))))] := hD
  refine lv_iconst (v := 0) hx hb d_IM_init_13 (by decide) ?_
  refine lv_istore_n hx hb d_IM_init_14 rfl hl (by decide) rfl (fun ls hl => ?_)
  have hl : lv_has ls 2 [(1, .int (nI 0)), (0, .ref a)] := hl
  have lp : ∀ (d k : Nat) (pa pb : Nat → Nat), k + d = 32 → ∀ (H : Heap) (locs : List Loc), va_P (dC, dI) vwCl (wIm ck a b (faK pa k) pa pb k) H → va_D A (wIm ck a b (faK pa k) pa pb k) → va_S A s.heap H locs → ∀ ls : Array Slot, lv_has ls 2 [(1, .int (nI k)), (0, .ref a)] → W p l e { frames := 2, cells := 65, slots := 131200, locals := 32 } s m [Value.ref a].toArray below meth c H locs (1 + 2 * k) (32 + 4099 * k) (MQ below (xQc (S := Nat × (Nat → Nat) × (Nat → Nat)) (dC, dI) (tyG ck) A (fun u : Nat × (Nat → Nat) × (Nat → Nat) => wIm ck a u.1 (faK u.2.1 32) u.2.1 u.2.2 32)) [Value.ref a].toArray s 65 131200 A) (F0 m 15 ls []) := by
    intro d
    induction d with
    | zero =>
      intro k pa pb hkd H locs hP hD hS ls hl
      refine lv_iload_n hx hb d_IM_init_15 rfl (lv_at hl 0 rfl) ?_
      refine lv_aload_n hx hb d_IM_init_16 rfl (lv_at hl 1 rfl) ?_
      refine va_get (D := (dC, dI)) (ci := 2) (v := .ref b) (C := R_IM) (T := T_IM) (N := 6) hx hb hts i_IM hown hK hP 0 rfl rfl 0 (by decide) (hts _ wd_152) (fun _ h9 => h9) rfl d_IM_init_17 ?_
      refine va_alen (v := 32) hx hb hK hP 1 3 rfl rfl rfl d_IM_init_20 ?_
      refine lv_icmp_ge (tgt := 43) hx hb d_IM_init_21 (by decide) (fun c1 => ?_) (fun c1 => ?_)
      · obtain rfl : k = 32 := by omega
        exact xretc (ww := (fun u : Nat × (Nat → Nat) × (Nat → Nat) => wIm ck a u.1 (faK u.2.1 32) u.2.1 u.2.2 32)) (b, pa, pb) hx hb hr hlocks hK hP hD hS (Nat.le_of_ble_eq_true rfl) (Nat.le_of_ble_eq_true rfl) d_IM_init_43
      · exact absurd (show nI 32 ≤ nI k from nI_le (by omega) (by omega)) c1
    | succ d ih =>
      intro k pa pb hkd H locs hP hD hS ls hl
      refine lv_iload_n hx hb d_IM_init_15 rfl (lv_at hl 0 rfl) ?_
      refine lv_aload_n hx hb d_IM_init_16 rfl (lv_at hl 1 rfl) ?_
      refine va_get (D := (dC, dI)) (ci := 2) (v := .ref b) (C := R_IM) (T := T_IM) (N := 6) hx hb hts i_IM hown hK hP 0 rfl rfl 0 (by decide) (hts _ wd_152) (fun _ h9 => h9) rfl d_IM_init_17 ?_
      refine va_alen (v := 32) hx hb hK hP 1 3 rfl rfl rfl d_IM_init_20 ?_
      refine lv_icmp_ge (tgt := 43) hx hb d_IM_init_21 (by decide) (fun c1 => ?_) (fun c1 => ?_)
      · exact absurd c1 (show ¬ nI 32 ≤ nI k from nI_ge (by omega) (by omega))
      · skip
        refine lv_aload_n hx hb d_IM_init_24 rfl (lv_at hl 1 rfl) ?_
        refine va_get (D := (dC, dI)) (ci := 2) (v := .ref b) (C := R_IM) (T := T_IM) (N := 6) hx hb hts i_IM hown hK hP 0 rfl rfl 0 (by decide) (hts _ wd_152) (fun _ h9 => h9) rfl d_IM_init_25 ?_
        refine lv_iload_n hx hb d_IM_init_28 rfl (lv_at hl 0 rfl) ?_
        refine va_new (ci := 3) (fs := [.null, .int 0, .int 0]) (C := R_PG) (T := T_PG) (N := 3) hx hb hts i_PG t_PG k_PG hown (hts _ wd_130) (hts _ wd_132) (hts _ wd_21) hK hP hD hS hA rfl (fun j hj => by rcases (show j = 0 ∨ j = 1 ∨ j = 2 by omega) with rfl | rfl | rfl <;> rfl) (show (1 + 2 * k) + 1 ≤ 65 by omega) (show (32 + 4099 * k) + 3 ≤ 131200 by omega) d_IM_init_29 (fun q H hP hD hS => ?_)
        refine lv_dup hx hb d_IM_init_32 rfl ?_
        refine xcallc (wr := (wIm ck a b (faK pa k) pa pb k)) (wc := [(q, .inr (3, [.null, .int 0, .int 0]))]) (va_runIN (As := []) (rest := [.ref q, .int (nI k), .ref b]) ⟨hx, hb, hml, hown, hts⟩ (j_PG l dC dI ck q H.size) ⟨va_cnB 0 hts (xgI wd_135) rfl rfl rfl (hN _ wd_133) (hts _ wd_21) (by decide +kernel) ⟨Nat.le_of_ble_eq_true rfl, Nat.le_of_ble_eq_true rfl⟩, rfl, hts _ wd_134⟩ (xpre3 (wr := (wIm ck a b (faK pa k) pa pb k)) hK hN hZ hAO hA hS hP hD) rfl rfl hl.1 rfl (lv_room (Nat.le_of_ble_eq_true rfl)) d_IM_init_33 ⟨show (1 + 2 * k) + 1 + 1 ≤ 65 by omega, show (32 + 4099 * k) + 3 + 4096 ≤ 131200 by omega⟩) hP hD hS hA (fun u H locs hP hD hS => ?_)
        have ew : List.Perm ((wIm ck a b (faK pa k) pa pb k) ++ [(q, .inr (3, [.ref u, .int 0, .int 0])), (u, .inl (ck 0, 4096, .inl (fun _ => 0)))]) (wIm ck a b (faK pa k) (upn pa k q) (upn pb k u) (k + 1)) := by
          show List.Perm _ (_ :: _ :: (List.map (zPage (upn pa k q) (upn pb k u)) (List.range (k + 1)) ++ List.map (zPb ck (upn pb k u)) (List.range (k + 1))))
          rw [zPage_s, zPb_s]
          exact ((zPerm _ _ _ _).cons _).cons _
        have hP := xPperm ew hP
        have hD := xDperm ew hD
        refine va_astq (r := (R_PG, T_PG, 3)) hx hb hK hP hD hS 1 3 (k + 2) 3 rfl rfl (show ((wIm ck a b (faK pa k) (upn pa k q) (upn pb k u) (k + 1)))[k + 2]? = some (q, _) from (show (List.map _ _ ++ _)[k]? = _ from bl_get _ (Nat.lt_succ_self k) _).trans (by rw [zPage, upn_eq, upn_eq])) rfl (vp_in_nI (n := k) (by omega) (by decide)) d_IM_init_36 (fun H locs hP hD hS => ?_)
        have hf : va_up (faK pa k) (nI k).toNatClampNeg (some q) = faK (upn pa k q) (k + 1) := by rw [nI_clamp (by omega)]; exact va_up_k
        have hP : va_P (dC, dI) vwCl (wIm ck a b (faK (upn pa k q) (k + 1)) (upn pa k q) (upn pb k u) (k + 1)) H := by rw [hf] at hP; exact hP
        have hD : va_D A (wIm ck a b (faK (upn pa k q) (k + 1)) (upn pa k q) (upn pb k u) (k + 1)) := by rw [hf] at hD; exact hD
        refine lv_iinc (v := nI (k + 1)) hx hb d_IM_init_37 hl (k := 0) rfl (nI_succ k).symm (by decide) rfl (fun ls hl => ?_)
        refine lv_goto (tgt := 15) hx hb d_IM_init_40 (by decide) ?_
        refine W.widen (k := (1 + 2 * (k + 1))) (n := (32 + 4099 * (k + 1))) (show (1 + 2 * k) + 1 + 1 ≤ (1 + 2 * (k + 1)) by omega) (show (32 + 4099 * k) + 3 + 4096 ≤ (32 + 4099 * (k + 1)) by omega) ?_
        exact ih (k + 1) (upn pa k q) (upn pb k u) (by omega) H locs hP hD hS ls hl
  exact lp 32 0 (fun _ => 0) (fun _ => 0) rfl H locs (by rw [faK0]; exact hP) (by rw [faK0]; exact hD) hS ls hl
