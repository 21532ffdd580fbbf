theorem d_AR_fill_0 : decode b_AR_fill 0 = .ok (.iconst 0, 1) := by decide +kernel
theorem d_AR_fill_1 : decode b_AR_fill 1 = .ok (.istore_n 2, 1) := by decide +kernel
theorem d_AR_fill_2 : decode b_AR_fill 2 = .ok (.aload_n 0, 1) := by decide +kernel
theorem d_AR_fill_3 : decode b_AR_fill 3 = .ok (.arraylength, 1) := by decide +kernel
theorem d_AR_fill_4 : decode b_AR_fill 4 = .ok (.istore_n 3, 1) := by decide +kernel
theorem d_AR_fill_5 : decode b_AR_fill 5 = .ok (.iload_n 2, 1) := by decide +kernel
theorem d_AR_fill_6 : decode b_AR_fill 6 = .ok (.iload_n 3, 1) := by decide +kernel
theorem d_AR_fill_7 : decode b_AR_fill 7 = .ok (.if_icmp .ge 13, 3) := by decide +kernel
theorem d_AR_fill_10 : decode b_AR_fill 10 = .ok (.aload_n 0, 1) := by decide +kernel
theorem d_AR_fill_11 : decode b_AR_fill 11 = .ok (.iload_n 2, 1) := by decide +kernel
theorem d_AR_fill_12 : decode b_AR_fill 12 = .ok (.iload_n 1, 1) := by decide +kernel
theorem d_AR_fill_13 : decode b_AR_fill 13 = .ok (.bastore, 1) := by decide +kernel
theorem d_AR_fill_14 : decode b_AR_fill 14 = .ok (.iinc 2 1, 3) := by decide +kernel
theorem d_AR_fill_17 : decode b_AR_fill 17 = .ok (.goto (-12), 3) := by decide +kernel
theorem d_AR_fill_20 : decode b_AR_fill 20 = .ok (.return_, 1) := by decide +kernel
theorem d_PG_clear_0 : decode b_PG_clear 0 = .ok (.aload_n 0, 1) := by decide +kernel
theorem d_PG_clear_1 : decode b_PG_clear 1 = .ok (.iload_n 1, 1) := by decide +kernel
theorem d_PG_clear_2 : decode b_PG_clear 2 = .ok (.putfield 15, 3) := by decide +kernel
theorem d_PG_clear_5 : decode b_PG_clear 5 = .ok (.aload_n 0, 1) := by decide +kernel
theorem d_PG_clear_6 : decode b_PG_clear 6 = .ok (.iload_n 2, 1) := by decide +kernel
theorem d_PG_clear_7 : decode b_PG_clear 7 = .ok (.putfield 19, 3) := by decide +kernel
theorem d_PG_clear_10 : decode b_PG_clear 10 = .ok (.aload_n 0, 1) := by decide +kernel
theorem d_PG_clear_11 : decode b_PG_clear 11 = .ok (.getfield 9, 3) := by decide +kernel
theorem d_PG_clear_14 : decode b_PG_clear 14 = .ok (.iconst 0, 1) := by decide +kernel
theorem d_PG_clear_15 : decode b_PG_clear 15 = .ok (.invokestatic 22, 3) := by decide +kernel
theorem d_PG_clear_18 : decode b_PG_clear 18 = .ok (.return_, 1) := by decide +kernel
theorem d_PG_read_0 : decode b_PG_read 0 = .ok (.iload_n 1, 1) := by decide +kernel
theorem d_PG_read_1 : decode b_PG_read 1 = .ok (.ifCond .lt 25, 3) := by decide +kernel
theorem d_PG_read_4 : decode b_PG_read 4 = .ok (.iload_n 1, 1) := by decide +kernel
theorem d_PG_read_5 : decode b_PG_read 5 = .ok (.aload_n 0, 1) := by decide +kernel
theorem d_PG_read_6 : decode b_PG_read 6 = .ok (.getfield 9, 3) := by decide +kernel
theorem d_PG_read_9 : decode b_PG_read 9 = .ok (.arraylength, 1) := by decide +kernel
theorem d_PG_read_10 : decode b_PG_read 10 = .ok (.if_icmp .ge 16, 3) := by decide +kernel
theorem d_PG_read_13 : decode b_PG_read 13 = .ok (.aload_n 0, 1) := by decide +kernel
theorem d_PG_read_14 : decode b_PG_read 14 = .ok (.getfield 9, 3) := by decide +kernel
theorem d_PG_read_17 : decode b_PG_read 17 = .ok (.iload_n 1, 1) := by decide +kernel
theorem d_PG_read_18 : decode b_PG_read 18 = .ok (.baload, 1) := by decide +kernel
theorem d_PG_read_19 : decode b_PG_read 19 = .ok (.sipush 255, 3) := by decide +kernel
theorem d_PG_read_22 : decode b_PG_read 22 = .ok (.iand, 1) := by decide +kernel
theorem d_PG_read_23 : decode b_PG_read 23 = .ok (.goto 4, 3) := by decide +kernel
theorem d_PG_read_26 : decode b_PG_read 26 = .ok (.iconst (-1), 1) := by decide +kernel
theorem d_PG_read_27 : decode b_PG_read 27 = .ok (.ireturn, 1) := by decide +kernel
theorem d_PG_writeNumber_0 : decode b_PG_writeNumber 0 = .ok (.iload_n 1, 1) := by decide +kernel
theorem d_PG_writeNumber_1 : decode b_PG_writeNumber 1 = .ok (.ifCond .lt 14, 3) := by decide +kernel
theorem d_PG_writeNumber_4 : decode b_PG_writeNumber 4 = .ok (.iload_n 1, 1) := by decide +kernel
theorem d_PG_writeNumber_5 : decode b_PG_writeNumber 5 = .ok (.aload_n 0, 1) := by decide +kernel
theorem d_PG_writeNumber_6 : decode b_PG_writeNumber 6 = .ok (.getfield 9, 3) := by decide +kernel
theorem d_PG_writeNumber_9 : decode b_PG_writeNumber 9 = .ok (.arraylength, 1) := by decide +kernel
theorem d_PG_writeNumber_10 : decode b_PG_writeNumber 10 = .ok (.iconst 4, 1) := by decide +kernel
theorem d_PG_writeNumber_11 : decode b_PG_writeNumber 11 = .ok (.isub, 1) := by decide +kernel
theorem d_PG_writeNumber_12 : decode b_PG_writeNumber 12 = .ok (.if_icmp .le 4, 3) := by decide +kernel
theorem d_PG_writeNumber_15 : decode b_PG_writeNumber 15 = .ok (.return_, 1) := by decide +kernel
theorem d_PG_writeNumber_16 : decode b_PG_writeNumber 16 = .ok (.iconst 0, 1) := by decide +kernel
theorem d_PG_writeNumber_17 : decode b_PG_writeNumber 17 = .ok (.istore_n 3, 1) := by decide +kernel
theorem d_PG_writeNumber_18 : decode b_PG_writeNumber 18 = .ok (.iload_n 3, 1) := by decide +kernel
theorem d_PG_writeNumber_19 : decode b_PG_writeNumber 19 = .ok (.iconst 4, 1) := by decide +kernel
theorem d_PG_writeNumber_20 : decode b_PG_writeNumber 20 = .ok (.if_icmp .ge 24, 3) := by decide +kernel
theorem d_PG_writeNumber_23 : decode b_PG_writeNumber 23 = .ok (.aload_n 0, 1) := by decide +kernel
theorem d_PG_writeNumber_24 : decode b_PG_writeNumber 24 = .ok (.getfield 9, 3) := by decide +kernel
theorem d_PG_writeNumber_27 : decode b_PG_writeNumber 27 = .ok (.iload_n 1, 1) := by decide +kernel
theorem d_PG_writeNumber_28 : decode b_PG_writeNumber 28 = .ok (.iload_n 3, 1) := by decide +kernel
theorem d_PG_writeNumber_29 : decode b_PG_writeNumber 29 = .ok (.iadd, 1) := by decide +kernel
theorem d_PG_writeNumber_30 : decode b_PG_writeNumber 30 = .ok (.iload_n 2, 1) := by decide +kernel
theorem d_PG_writeNumber_31 : decode b_PG_writeNumber 31 = .ok (.bipush 8, 2) := by decide +kernel
theorem d_PG_writeNumber_33 : decode b_PG_writeNumber 33 = .ok (.iload_n 3, 1) := by decide +kernel
theorem d_PG_writeNumber_34 : decode b_PG_writeNumber 34 = .ok (.imul, 1) := by decide +kernel
theorem d_PG_writeNumber_35 : decode b_PG_writeNumber 35 = .ok (.ishr, 1) := by decide +kernel
theorem d_PG_writeNumber_36 : decode b_PG_writeNumber 36 = .ok (.i2b, 1) := by decide +kernel
theorem d_PG_writeNumber_37 : decode b_PG_writeNumber 37 = .ok (.bastore, 1) := by decide +kernel
theorem d_PG_writeNumber_38 : decode b_PG_writeNumber 38 = .ok (.iinc 3 1, 3) := by decide +kernel
theorem d_PG_writeNumber_41 : decode b_PG_writeNumber 41 = .ok (.goto (-23), 3) := by decide +kernel
theorem d_PG_writeNumber_44 : decode b_PG_writeNumber 44 = .ok (.return_, 1) := by decide +kernel
theorem d_FB_copyTo_0 : decode b_FB_copyTo 0 = .ok (.iload_n 3, 1) := by decide +kernel
theorem d_FB_copyTo_1 : decode b_FB_copyTo 1 = .ok (.aload_n 1, 1) := by decide +kernel
theorem d_FB_copyTo_2 : decode b_FB_copyTo 2 = .ok (.getfield 30, 3) := by decide +kernel
theorem d_FB_copyTo_5 : decode b_FB_copyTo 5 = .ok (.arraylength, 1) := by decide +kernel
theorem d_FB_copyTo_6 : decode b_FB_copyTo 6 = .ok (.if_icmp .gt 28, 3) := by decide +kernel
theorem d_FB_copyTo_9 : decode b_FB_copyTo 9 = .ok (.aload_n 0, 1) := by decide +kernel
theorem d_FB_copyTo_10 : decode b_FB_copyTo 10 = .ok (.iload_n 2, 1) := by decide +kernel
theorem d_FB_copyTo_11 : decode b_FB_copyTo 11 = .ok (.i2l, 1) := by decide +kernel
theorem d_FB_copyTo_12 : decode b_FB_copyTo 12 = .ok (.iload_n 3, 1) := by decide +kernel
theorem d_FB_copyTo_13 : decode b_FB_copyTo 13 = .ok (.i2l, 1) := by decide +kernel
theorem d_FB_copyTo_14 : decode b_FB_copyTo 14 = .ok (.invokevirtual 20, 3) := by decide +kernel
theorem d_FB_copyTo_17 : decode b_FB_copyTo 17 = .ok (.ifCond .eq 17, 3) := by decide +kernel
theorem d_FB_copyTo_20 : decode b_FB_copyTo 20 = .ok (.aload_n 0, 1) := by decide +kernel
theorem d_FB_copyTo_21 : decode b_FB_copyTo 21 = .ok (.getfield 10, 3) := by decide +kernel
theorem d_FB_copyTo_24 : decode b_FB_copyTo 24 = .ok (.iload_n 2, 1) := by decide +kernel
theorem d_FB_copyTo_25 : decode b_FB_copyTo 25 = .ok (.aload_n 1, 1) := by decide +kernel
theorem d_FB_copyTo_26 : decode b_FB_copyTo 26 = .ok (.getfield 30, 3) := by decide +kernel
theorem d_FB_copyTo_29 : decode b_FB_copyTo 29 = .ok (.iconst 0, 1) := by decide +kernel
theorem d_FB_copyTo_30 : decode b_FB_copyTo 30 = .ok (.iload_n 3, 1) := by decide +kernel
theorem d_FB_copyTo_31 : decode b_FB_copyTo 31 = .ok (.invokestatic 35, 3) := by decide +kernel
theorem d_FB_copyTo_34 : decode b_FB_copyTo 34 = .ok (.return_, 1) := by decide +kernel
theorem d_AG_copyTo_0 : decode b_AG_copyTo 0 = .ok (.iload_n 3, 1) := by decide +kernel
theorem d_AG_copyTo_1 : decode b_AG_copyTo 1 = .ok (.ifCond .lt 32, 3) := by decide +kernel
theorem d_AG_copyTo_4 : decode b_AG_copyTo 4 = .ok (.iload_n 3, 1) := by decide +kernel
theorem d_AG_copyTo_5 : decode b_AG_copyTo 5 = .ok (.aload_n 0, 1) := by decide +kernel
theorem d_AG_copyTo_6 : decode b_AG_copyTo 6 = .ok (.getfield 15, 3) := by decide +kernel
theorem d_AG_copyTo_9 : decode b_AG_copyTo 9 = .ok (.arraylength, 1) := by decide +kernel
theorem d_AG_copyTo_10 : decode b_AG_copyTo 10 = .ok (.if_icmp .ge 23, 3) := by decide +kernel
theorem d_AG_copyTo_13 : decode b_AG_copyTo 13 = .ok (.iload_n 2, 1) := by decide +kernel
theorem d_AG_copyTo_14 : decode b_AG_copyTo 14 = .ok (.ifCond .lt 19, 3) := by decide +kernel
theorem d_AG_copyTo_17 : decode b_AG_copyTo 17 = .ok (.iload_n 2, 1) := by decide +kernel
theorem d_AG_copyTo_18 : decode b_AG_copyTo 18 = .ok (.aload_n 1, 1) := by decide +kernel
theorem d_AG_copyTo_19 : decode b_AG_copyTo 19 = .ok (.getfield 31, 3) := by decide +kernel
theorem d_AG_copyTo_22 : decode b_AG_copyTo 22 = .ok (.arraylength, 1) := by decide +kernel
theorem d_AG_copyTo_23 : decode b_AG_copyTo 23 = .ok (.aload_n 0, 1) := by decide +kernel
theorem d_AG_copyTo_24 : decode b_AG_copyTo 24 = .ok (.getfield 15, 3) := by decide +kernel
theorem d_AG_copyTo_27 : decode b_AG_copyTo 27 = .ok (.iload_n 3, 1) := by decide +kernel
theorem d_AG_copyTo_28 : decode b_AG_copyTo 28 = .ok (.iaload, 1) := by decide +kernel
theorem d_AG_copyTo_29 : decode b_AG_copyTo 29 = .ok (.isub, 1) := by decide +kernel
theorem d_AG_copyTo_30 : decode b_AG_copyTo 30 = .ok (.if_icmp .le 4, 3) := by decide +kernel
theorem d_AG_copyTo_33 : decode b_AG_copyTo 33 = .ok (.return_, 1) := by decide +kernel
theorem d_AG_copyTo_34 : decode b_AG_copyTo 34 = .ok (.aload_n 0, 1) := by decide +kernel
theorem d_AG_copyTo_35 : decode b_AG_copyTo 35 = .ok (.getfield 9, 3) := by decide +kernel
theorem d_AG_copyTo_38 : decode b_AG_copyTo 38 = .ok (.iload_n 3, 1) := by decide +kernel
theorem d_AG_copyTo_39 : decode b_AG_copyTo 39 = .ok (.bipush 127, 2) := by decide +kernel
theorem d_AG_copyTo_41 : decode b_AG_copyTo 41 = .ok (.imul, 1) := by decide +kernel
theorem d_AG_copyTo_42 : decode b_AG_copyTo 42 = .ok (.aload_n 1, 1) := by decide +kernel
theorem d_AG_copyTo_43 : decode b_AG_copyTo 43 = .ok (.getfield 31, 3) := by decide +kernel
theorem d_AG_copyTo_46 : decode b_AG_copyTo 46 = .ok (.iload_n 2, 1) := by decide +kernel
theorem d_AG_copyTo_47 : decode b_AG_copyTo 47 = .ok (.aload_n 0, 1) := by decide +kernel
theorem d_AG_copyTo_48 : decode b_AG_copyTo 48 = .ok (.getfield 15, 3) := by decide +kernel
theorem d_AG_copyTo_51 : decode b_AG_copyTo 51 = .ok (.iload_n 3, 1) := by decide +kernel
theorem d_AG_copyTo_52 : decode b_AG_copyTo 52 = .ok (.iaload, 1) := by decide +kernel
theorem d_AG_copyTo_53 : decode b_AG_copyTo 53 = .ok (.invokestatic 36, 3) := by decide +kernel
theorem d_AG_copyTo_56 : decode b_AG_copyTo 56 = .ok (.return_, 1) := by decide +kernel
