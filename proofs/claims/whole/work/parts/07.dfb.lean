theorem d_FB_hasRoom_0 : decode b_FB_hasRoom 0 = .ok (.iload_n 1, 1) := by decide +kernel
theorem d_FB_hasRoom_1 : decode b_FB_hasRoom 1 = .ok (.aload_n 0, 1) := by decide +kernel
theorem d_FB_hasRoom_2 : decode b_FB_hasRoom 2 = .ok (.getfield 10, 3) := by decide +kernel
theorem d_FB_hasRoom_5 : decode b_FB_hasRoom 5 = .ok (.arraylength, 1) := by decide +kernel
theorem d_FB_hasRoom_6 : decode b_FB_hasRoom 6 = .ok (.aload_n 0, 1) := by decide +kernel
theorem d_FB_hasRoom_7 : decode b_FB_hasRoom 7 = .ok (.getfield 16, 3) := by decide +kernel
theorem d_FB_hasRoom_10 : decode b_FB_hasRoom 10 = .ok (.isub, 1) := by decide +kernel
theorem d_FB_hasRoom_11 : decode b_FB_hasRoom 11 = .ok (.if_icmp .gt 7, 3) := by decide +kernel
theorem d_FB_hasRoom_14 : decode b_FB_hasRoom 14 = .ok (.iconst 1, 1) := by decide +kernel
theorem d_FB_hasRoom_15 : decode b_FB_hasRoom 15 = .ok (.goto 4, 3) := by decide +kernel
theorem d_FB_hasRoom_18 : decode b_FB_hasRoom 18 = .ok (.iconst 0, 1) := by decide +kernel
theorem d_FB_hasRoom_19 : decode b_FB_hasRoom 19 = .ok (.ireturn, 1) := by decide +kernel
theorem d_FB_holds_0 : decode b_FB_holds 0 = .ok (.lload_n 1, 1) := by decide +kernel
theorem d_FB_holds_1 : decode b_FB_holds 1 = .ok (.lconst 0, 1) := by decide +kernel
theorem d_FB_holds_2 : decode b_FB_holds 2 = .ok (.lcmp, 1) := by decide +kernel
theorem d_FB_holds_3 : decode b_FB_holds 3 = .ok (.ifCond .lt 35, 3) := by decide +kernel
theorem d_FB_holds_6 : decode b_FB_holds 6 = .ok (.lload_n 3, 1) := by decide +kernel
theorem d_FB_holds_7 : decode b_FB_holds 7 = .ok (.lconst 0, 1) := by decide +kernel
theorem d_FB_holds_8 : decode b_FB_holds 8 = .ok (.lcmp, 1) := by decide +kernel
theorem d_FB_holds_9 : decode b_FB_holds 9 = .ok (.ifCond .lt 29, 3) := by decide +kernel
theorem d_FB_holds_12 : decode b_FB_holds 12 = .ok (.lload_n 1, 1) := by decide +kernel
theorem d_FB_holds_13 : decode b_FB_holds 13 = .ok (.aload_n 0, 1) := by decide +kernel
theorem d_FB_holds_14 : decode b_FB_holds 14 = .ok (.getfield 16, 3) := by decide +kernel
theorem d_FB_holds_17 : decode b_FB_holds 17 = .ok (.i2l, 1) := by decide +kernel
theorem d_FB_holds_18 : decode b_FB_holds 18 = .ok (.lcmp, 1) := by decide +kernel
theorem d_FB_holds_19 : decode b_FB_holds 19 = .ok (.ifCond .gt 19, 3) := by decide +kernel
theorem d_FB_holds_22 : decode b_FB_holds 22 = .ok (.lload_n 3, 1) := by decide +kernel
theorem d_FB_holds_23 : decode b_FB_holds 23 = .ok (.aload_n 0, 1) := by decide +kernel
theorem d_FB_holds_24 : decode b_FB_holds 24 = .ok (.getfield 16, 3) := by decide +kernel
theorem d_FB_holds_27 : decode b_FB_holds 27 = .ok (.i2l, 1) := by decide +kernel
theorem d_FB_holds_28 : decode b_FB_holds 28 = .ok (.lload_n 1, 1) := by decide +kernel
theorem d_FB_holds_29 : decode b_FB_holds 29 = .ok (.lsub, 1) := by decide +kernel
theorem d_FB_holds_30 : decode b_FB_holds 30 = .ok (.lcmp, 1) := by decide +kernel
theorem d_FB_holds_31 : decode b_FB_holds 31 = .ok (.ifCond .gt 7, 3) := by decide +kernel
theorem d_FB_holds_34 : decode b_FB_holds 34 = .ok (.iconst 1, 1) := by decide +kernel
theorem d_FB_holds_35 : decode b_FB_holds 35 = .ok (.goto 4, 3) := by decide +kernel
theorem d_FB_holds_38 : decode b_FB_holds 38 = .ok (.iconst 0, 1) := by decide +kernel
theorem d_FB_holds_39 : decode b_FB_holds 39 = .ok (.ireturn, 1) := by decide +kernel
theorem d_FB_append_0 : decode b_FB_append 0 = .ok (.bipush 24, 2) := by decide +kernel
theorem d_FB_append_2 : decode b_FB_append 2 = .ok (.istore_n 2, 1) := by decide +kernel
theorem d_FB_append_3 : decode b_FB_append 3 = .ok (.iload_n 2, 1) := by decide +kernel
theorem d_FB_append_4 : decode b_FB_append 4 = .ok (.ifCond .lt 44, 3) := by decide +kernel
theorem d_FB_append_7 : decode b_FB_append 7 = .ok (.aload_n 0, 1) := by decide +kernel
theorem d_FB_append_8 : decode b_FB_append 8 = .ok (.getfield 16, 3) := by decide +kernel
theorem d_FB_append_11 : decode b_FB_append 11 = .ok (.aload_n 0, 1) := by decide +kernel
theorem d_FB_append_12 : decode b_FB_append 12 = .ok (.getfield 10, 3) := by decide +kernel
theorem d_FB_append_15 : decode b_FB_append 15 = .ok (.arraylength, 1) := by decide +kernel
theorem d_FB_append_16 : decode b_FB_append 16 = .ok (.if_icmp .ge 26, 3) := by decide +kernel
theorem d_FB_append_19 : decode b_FB_append 19 = .ok (.aload_n 0, 1) := by decide +kernel
theorem d_FB_append_20 : decode b_FB_append 20 = .ok (.getfield 10, 3) := by decide +kernel
theorem d_FB_append_23 : decode b_FB_append 23 = .ok (.aload_n 0, 1) := by decide +kernel
theorem d_FB_append_24 : decode b_FB_append 24 = .ok (.getfield 16, 3) := by decide +kernel
theorem d_FB_append_27 : decode b_FB_append 27 = .ok (.iload_n 1, 1) := by decide +kernel
theorem d_FB_append_28 : decode b_FB_append 28 = .ok (.iload_n 2, 1) := by decide +kernel
theorem d_FB_append_29 : decode b_FB_append 29 = .ok (.ishr, 1) := by decide +kernel
theorem d_FB_append_30 : decode b_FB_append 30 = .ok (.i2b, 1) := by decide +kernel
theorem d_FB_append_31 : decode b_FB_append 31 = .ok (.bastore, 1) := by decide +kernel
theorem d_FB_append_32 : decode b_FB_append 32 = .ok (.aload_n 0, 1) := by decide +kernel
theorem d_FB_append_33 : decode b_FB_append 33 = .ok (.dup, 1) := by decide +kernel
theorem d_FB_append_34 : decode b_FB_append 34 = .ok (.getfield 16, 3) := by decide +kernel
theorem d_FB_append_37 : decode b_FB_append 37 = .ok (.iconst 1, 1) := by decide +kernel
theorem d_FB_append_38 : decode b_FB_append 38 = .ok (.iadd, 1) := by decide +kernel
theorem d_FB_append_39 : decode b_FB_append 39 = .ok (.putfield 16, 3) := by decide +kernel
theorem d_FB_append_42 : decode b_FB_append 42 = .ok (.iinc 2 (-8), 3) := by decide +kernel
theorem d_FB_append_45 : decode b_FB_append 45 = .ok (.goto (-42), 3) := by decide +kernel
theorem d_FB_append_48 : decode b_FB_append 48 = .ok (.return_, 1) := by decide +kernel
theorem d_FB_cut_0 : decode b_FB_cut 0 = .ok (.iload_n 1, 1) := by decide +kernel
theorem d_FB_cut_1 : decode b_FB_cut 1 = .ok (.ifCond .lt 11, 3) := by decide +kernel
theorem d_FB_cut_4 : decode b_FB_cut 4 = .ok (.iload_n 1, 1) := by decide +kernel
theorem d_FB_cut_5 : decode b_FB_cut 5 = .ok (.aload_n 0, 1) := by decide +kernel
theorem d_FB_cut_6 : decode b_FB_cut 6 = .ok (.getfield 16, 3) := by decide +kernel
theorem d_FB_cut_9 : decode b_FB_cut 9 = .ok (.if_icmp .le 5, 3) := by decide +kernel
theorem d_FB_cut_12 : decode b_FB_cut 12 = .ok (.iconst 0, 1) := by decide +kernel
theorem d_FB_cut_13 : decode b_FB_cut 13 = .ok (.ireturn, 1) := by decide +kernel
theorem d_FB_cut_14 : decode b_FB_cut 14 = .ok (.aload_n 0, 1) := by decide +kernel
theorem d_FB_cut_15 : decode b_FB_cut 15 = .ok (.iload_n 1, 1) := by decide +kernel
theorem d_FB_cut_16 : decode b_FB_cut 16 = .ok (.putfield 16, 3) := by decide +kernel
theorem d_FB_cut_19 : decode b_FB_cut 19 = .ok (.iconst 1, 1) := by decide +kernel
theorem d_FB_cut_20 : decode b_FB_cut 20 = .ok (.ireturn, 1) := by decide +kernel
theorem d_FB_write_0 : decode b_FB_write 0 = .ok (.aload_n 0, 1) := by decide +kernel
theorem d_FB_write_1 : decode b_FB_write 1 = .ok (.iload_n 1, 1) := by decide +kernel
theorem d_FB_write_2 : decode b_FB_write 2 = .ok (.i2l, 1) := by decide +kernel
theorem d_FB_write_3 : decode b_FB_write 3 = .ok (.iload_n 2, 1) := by decide +kernel
theorem d_FB_write_4 : decode b_FB_write 4 = .ok (.i2l, 1) := by decide +kernel
theorem d_FB_write_5 : decode b_FB_write 5 = .ok (.invokevirtual 20, 3) := by decide +kernel
theorem d_FB_write_8 : decode b_FB_write 8 = .ok (.ifCond .ne 5, 3) := by decide +kernel
theorem d_FB_write_11 : decode b_FB_write 11 = .ok (.iconst 0, 1) := by decide +kernel
theorem d_FB_write_12 : decode b_FB_write 12 = .ok (.ireturn, 1) := by decide +kernel
theorem d_FB_write_13 : decode b_FB_write 13 = .ok (.iconst 0, 1) := by decide +kernel
theorem d_FB_write_14 : decode b_FB_write 14 = .ok (.istore 4, 2) := by decide +kernel
theorem d_FB_write_16 : decode b_FB_write 16 = .ok (.iload 4, 2) := by decide +kernel
theorem d_FB_write_18 : decode b_FB_write 18 = .ok (.iload_n 2, 1) := by decide +kernel
theorem d_FB_write_19 : decode b_FB_write 19 = .ok (.if_icmp .ge 26, 3) := by decide +kernel
theorem d_FB_write_22 : decode b_FB_write 22 = .ok (.aload_n 0, 1) := by decide +kernel
theorem d_FB_write_23 : decode b_FB_write 23 = .ok (.getfield 10, 3) := by decide +kernel
theorem d_FB_write_26 : decode b_FB_write 26 = .ok (.iload_n 1, 1) := by decide +kernel
theorem d_FB_write_27 : decode b_FB_write 27 = .ok (.iload 4, 2) := by decide +kernel
theorem d_FB_write_29 : decode b_FB_write 29 = .ok (.iadd, 1) := by decide +kernel
theorem d_FB_write_30 : decode b_FB_write 30 = .ok (.iload_n 3, 1) := by decide +kernel
theorem d_FB_write_31 : decode b_FB_write 31 = .ok (.bipush 8, 2) := by decide +kernel
theorem d_FB_write_33 : decode b_FB_write 33 = .ok (.iload 4, 2) := by decide +kernel
theorem d_FB_write_35 : decode b_FB_write 35 = .ok (.imul, 1) := by decide +kernel
theorem d_FB_write_36 : decode b_FB_write 36 = .ok (.ishr, 1) := by decide +kernel
theorem d_FB_write_37 : decode b_FB_write 37 = .ok (.i2b, 1) := by decide +kernel
theorem d_FB_write_38 : decode b_FB_write 38 = .ok (.bastore, 1) := by decide +kernel
theorem d_FB_write_39 : decode b_FB_write 39 = .ok (.iinc 4 1, 3) := by decide +kernel
theorem d_FB_write_42 : decode b_FB_write 42 = .ok (.goto (-26), 3) := by decide +kernel
theorem d_FB_write_45 : decode b_FB_write 45 = .ok (.iconst 1, 1) := by decide +kernel
theorem d_FB_write_46 : decode b_FB_write 46 = .ok (.ireturn, 1) := by decide +kernel
theorem d_FB_number_0 : decode b_FB_number 0 = .ok (.aload_n 0, 1) := by decide +kernel
theorem d_FB_number_1 : decode b_FB_number 1 = .ok (.iload_n 1, 1) := by decide +kernel
theorem d_FB_number_2 : decode b_FB_number 2 = .ok (.i2l, 1) := by decide +kernel
theorem d_FB_number_3 : decode b_FB_number 3 = .ok (.iload_n 2, 1) := by decide +kernel
theorem d_FB_number_4 : decode b_FB_number 4 = .ok (.i2l, 1) := by decide +kernel
theorem d_FB_number_5 : decode b_FB_number 5 = .ok (.invokevirtual 20, 3) := by decide +kernel
theorem d_FB_number_8 : decode b_FB_number 8 = .ok (.ifCond .ne 5, 3) := by decide +kernel
theorem d_FB_number_11 : decode b_FB_number 11 = .ok (.iconst 0, 1) := by decide +kernel
theorem d_FB_number_12 : decode b_FB_number 12 = .ok (.ireturn, 1) := by decide +kernel
theorem d_FB_number_13 : decode b_FB_number 13 = .ok (.iconst 0, 1) := by decide +kernel
theorem d_FB_number_14 : decode b_FB_number 14 = .ok (.istore_n 3, 1) := by decide +kernel
theorem d_FB_number_15 : decode b_FB_number 15 = .ok (.iload_n 2, 1) := by decide +kernel
theorem d_FB_number_16 : decode b_FB_number 16 = .ok (.iconst 1, 1) := by decide +kernel
theorem d_FB_number_17 : decode b_FB_number 17 = .ok (.isub, 1) := by decide +kernel
theorem d_FB_number_18 : decode b_FB_number 18 = .ok (.istore 4, 2) := by decide +kernel
theorem d_FB_number_20 : decode b_FB_number 20 = .ok (.iload 4, 2) := by decide +kernel
theorem d_FB_number_22 : decode b_FB_number 22 = .ok (.ifCond .lt 28, 3) := by decide +kernel
theorem d_FB_number_25 : decode b_FB_number 25 = .ok (.iload_n 3, 1) := by decide +kernel
theorem d_FB_number_26 : decode b_FB_number 26 = .ok (.bipush 8, 2) := by decide +kernel
theorem d_FB_number_28 : decode b_FB_number 28 = .ok (.ishl, 1) := by decide +kernel
theorem d_FB_number_29 : decode b_FB_number 29 = .ok (.aload_n 0, 1) := by decide +kernel
theorem d_FB_number_30 : decode b_FB_number 30 = .ok (.getfield 10, 3) := by decide +kernel
theorem d_FB_number_33 : decode b_FB_number 33 = .ok (.iload_n 1, 1) := by decide +kernel
theorem d_FB_number_34 : decode b_FB_number 34 = .ok (.iload 4, 2) := by decide +kernel
theorem d_FB_number_36 : decode b_FB_number 36 = .ok (.iadd, 1) := by decide +kernel
theorem d_FB_number_37 : decode b_FB_number 37 = .ok (.baload, 1) := by decide +kernel
theorem d_FB_number_38 : decode b_FB_number 38 = .ok (.sipush 255, 3) := by decide +kernel
theorem d_FB_number_41 : decode b_FB_number 41 = .ok (.iand, 1) := by decide +kernel
theorem d_FB_number_42 : decode b_FB_number 42 = .ok (.ior, 1) := by decide +kernel
theorem d_FB_number_43 : decode b_FB_number 43 = .ok (.istore_n 3, 1) := by decide +kernel
theorem d_FB_number_44 : decode b_FB_number 44 = .ok (.iinc 4 (-1), 3) := by decide +kernel
theorem d_FB_number_47 : decode b_FB_number 47 = .ok (.goto (-27), 3) := by decide +kernel
theorem d_FB_number_50 : decode b_FB_number 50 = .ok (.iload_n 3, 1) := by decide +kernel
theorem d_FB_number_51 : decode b_FB_number 51 = .ok (.ireturn, 1) := by decide +kernel
theorem d_FB_unsigned_0 : decode b_FB_unsigned 0 = .ok (.aload_n 0, 1) := by decide +kernel
theorem d_FB_unsigned_1 : decode b_FB_unsigned 1 = .ok (.iload_n 1, 1) := by decide +kernel
theorem d_FB_unsigned_2 : decode b_FB_unsigned 2 = .ok (.iconst 4, 1) := by decide +kernel
theorem d_FB_unsigned_3 : decode b_FB_unsigned 3 = .ok (.invokevirtual 24, 3) := by decide +kernel
theorem d_FB_unsigned_6 : decode b_FB_unsigned 6 = .ok (.i2l, 1) := by decide +kernel
theorem d_FB_unsigned_7 : decode b_FB_unsigned 7 = .ok (.ldc2_w 28, 3) := by decide +kernel
theorem d_FB_unsigned_10 : decode b_FB_unsigned 10 = .ok (.land, 1) := by decide +kernel
theorem d_FB_unsigned_11 : decode b_FB_unsigned 11 = .ok (.lreturn, 1) := by decide +kernel
