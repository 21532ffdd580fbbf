theorem d_PL_beginsAsImage_0 : decode b_PL_beginsAsImage 0 = .ok (.aload_n 1, 1) := by decide +kernel
theorem d_PL_beginsAsImage_1 : decode b_PL_beginsAsImage 1 = .ok (.lconst 0, 1) := by decide +kernel
theorem d_PL_beginsAsImage_2 : decode b_PL_beginsAsImage 2 = .ok (.ldc2_w 18, 3) := by decide +kernel
theorem d_PL_beginsAsImage_5 : decode b_PL_beginsAsImage 5 = .ok (.invokevirtual 20, 3) := by decide +kernel
theorem d_PL_beginsAsImage_8 : decode b_PL_beginsAsImage 8 = .ok (.ifCond .ne 5, 3) := by decide +kernel
theorem d_PL_beginsAsImage_11 : decode b_PL_beginsAsImage 11 = .ok (.iconst 0, 1) := by decide +kernel
theorem d_PL_beginsAsImage_12 : decode b_PL_beginsAsImage 12 = .ok (.ireturn, 1) := by decide +kernel
theorem d_PL_beginsAsImage_13 : decode b_PL_beginsAsImage 13 = .ok (.iconst 0, 1) := by decide +kernel
theorem d_PL_beginsAsImage_14 : decode b_PL_beginsAsImage 14 = .ok (.istore_n 2, 1) := by decide +kernel
theorem d_PL_beginsAsImage_15 : decode b_PL_beginsAsImage 15 = .ok (.iload_n 2, 1) := by decide +kernel
theorem d_PL_beginsAsImage_16 : decode b_PL_beginsAsImage 16 = .ok (.getstatic 26, 3) := by decide +kernel
theorem d_PL_beginsAsImage_19 : decode b_PL_beginsAsImage 19 = .ok (.arraylength, 1) := by decide +kernel
theorem d_PL_beginsAsImage_20 : decode b_PL_beginsAsImage 20 = .ok (.if_icmp .ge 25, 3) := by decide +kernel
theorem d_PL_beginsAsImage_23 : decode b_PL_beginsAsImage 23 = .ok (.aload_n 1, 1) := by decide +kernel
theorem d_PL_beginsAsImage_24 : decode b_PL_beginsAsImage 24 = .ok (.iload_n 2, 1) := by decide +kernel
theorem d_PL_beginsAsImage_25 : decode b_PL_beginsAsImage 25 = .ok (.iconst 1, 1) := by decide +kernel
theorem d_PL_beginsAsImage_26 : decode b_PL_beginsAsImage 26 = .ok (.invokevirtual 30, 3) := by decide +kernel
theorem d_PL_beginsAsImage_29 : decode b_PL_beginsAsImage 29 = .ok (.getstatic 26, 3) := by decide +kernel
theorem d_PL_beginsAsImage_32 : decode b_PL_beginsAsImage 32 = .ok (.iload_n 2, 1) := by decide +kernel
theorem d_PL_beginsAsImage_33 : decode b_PL_beginsAsImage 33 = .ok (.baload, 1) := by decide +kernel
theorem d_PL_beginsAsImage_34 : decode b_PL_beginsAsImage 34 = .ok (.if_icmp .eq 5, 3) := by decide +kernel
theorem d_PL_beginsAsImage_37 : decode b_PL_beginsAsImage 37 = .ok (.iconst 0, 1) := by decide +kernel
theorem d_PL_beginsAsImage_38 : decode b_PL_beginsAsImage 38 = .ok (.ireturn, 1) := by decide +kernel
theorem d_PL_beginsAsImage_39 : decode b_PL_beginsAsImage 39 = .ok (.iinc 2 1, 3) := by decide +kernel
theorem d_PL_beginsAsImage_42 : decode b_PL_beginsAsImage 42 = .ok (.goto (-27), 3) := by decide +kernel
theorem d_PL_beginsAsImage_45 : decode b_PL_beginsAsImage 45 = .ok (.iconst 1, 1) := by decide +kernel
theorem d_PL_beginsAsImage_46 : decode b_PL_beginsAsImage 46 = .ok (.ireturn, 1) := by decide +kernel
theorem d_PL_readParts_0 : decode b_PL_readParts 0 = .ok (.aload_n 0, 1) := by decide +kernel
theorem d_PL_readParts_1 : decode b_PL_readParts 1 = .ok (.iconst 0, 1) := by decide +kernel
theorem d_PL_readParts_2 : decode b_PL_readParts 2 = .ok (.putfield 42, 3) := by decide +kernel
theorem d_PL_readParts_5 : decode b_PL_readParts 5 = .ok (.aload_n 0, 1) := by decide +kernel
theorem d_PL_readParts_6 : decode b_PL_readParts 6 = .ok (.aload_n 1, 1) := by decide +kernel
theorem d_PL_readParts_7 : decode b_PL_readParts 7 = .ok (.bipush 24, 2) := by decide +kernel
theorem d_PL_readParts_9 : decode b_PL_readParts 9 = .ok (.iconst 4, 1) := by decide +kernel
theorem d_PL_readParts_10 : decode b_PL_readParts 10 = .ok (.invokevirtual 30, 3) := by decide +kernel
theorem d_PL_readParts_13 : decode b_PL_readParts 13 = .ok (.putfield 46, 3) := by decide +kernel
theorem d_PL_readParts_16 : decode b_PL_readParts 16 = .ok (.aload_n 0, 1) := by decide +kernel
theorem d_PL_readParts_17 : decode b_PL_readParts 17 = .ok (.iconst 0, 1) := by decide +kernel
theorem d_PL_readParts_18 : decode b_PL_readParts 18 = .ok (.putfield 49, 3) := by decide +kernel
theorem d_PL_readParts_21 : decode b_PL_readParts 21 = .ok (.aload_n 0, 1) := by decide +kernel
theorem d_PL_readParts_22 : decode b_PL_readParts 22 = .ok (.iconst 2, 1) := by decide +kernel
theorem d_PL_readParts_23 : decode b_PL_readParts 23 = .ok (.putfield 52, 3) := by decide +kernel
theorem d_PL_readParts_26 : decode b_PL_readParts 26 = .ok (.aload_n 1, 1) := by decide +kernel
theorem d_PL_readParts_27 : decode b_PL_readParts 27 = .ok (.bipush 28, 2) := by decide +kernel
theorem d_PL_readParts_29 : decode b_PL_readParts 29 = .ok (.iconst 4, 1) := by decide +kernel
theorem d_PL_readParts_30 : decode b_PL_readParts 30 = .ok (.invokevirtual 30, 3) := by decide +kernel
theorem d_PL_readParts_33 : decode b_PL_readParts 33 = .ok (.istore_n 2, 1) := by decide +kernel
theorem d_PL_readParts_34 : decode b_PL_readParts 34 = .ok (.aload_n 1, 1) := by decide +kernel
theorem d_PL_readParts_35 : decode b_PL_readParts 35 = .ok (.invokestatic 34, 3) := by decide +kernel
theorem d_PL_readParts_38 : decode b_PL_readParts 38 = .ok (.istore_n 3, 1) := by decide +kernel
theorem d_PL_readParts_39 : decode b_PL_readParts 39 = .ok (.iconst 0, 1) := by decide +kernel
theorem d_PL_readParts_40 : decode b_PL_readParts 40 = .ok (.istore 4, 2) := by decide +kernel
theorem d_PL_readParts_42 : decode b_PL_readParts 42 = .ok (.iload 4, 2) := by decide +kernel
theorem d_PL_readParts_44 : decode b_PL_readParts 44 = .ok (.iload_n 3, 1) := by decide +kernel
theorem d_PL_readParts_45 : decode b_PL_readParts 45 = .ok (.if_icmp .ge 26, 3) := by decide +kernel
theorem d_PL_readParts_48 : decode b_PL_readParts 48 = .ok (.aload_n 0, 1) := by decide +kernel
theorem d_PL_readParts_49 : decode b_PL_readParts 49 = .ok (.aload_n 1, 1) := by decide +kernel
theorem d_PL_readParts_50 : decode b_PL_readParts 50 = .ok (.iload_n 2, 1) := by decide +kernel
theorem d_PL_readParts_51 : decode b_PL_readParts 51 = .ok (.iload 4, 2) := by decide +kernel
theorem d_PL_readParts_53 : decode b_PL_readParts 53 = .ok (.bipush 32, 2) := by decide +kernel
theorem d_PL_readParts_55 : decode b_PL_readParts 55 = .ok (.imul, 1) := by decide +kernel
theorem d_PL_readParts_56 : decode b_PL_readParts 56 = .ok (.iadd, 1) := by decide +kernel
theorem d_PL_readParts_57 : decode b_PL_readParts 57 = .ok (.invokevirtual 55, 3) := by decide +kernel
theorem d_PL_readParts_60 : decode b_PL_readParts 60 = .ok (.ifCond .ne 5, 3) := by decide +kernel
theorem d_PL_readParts_63 : decode b_PL_readParts 63 = .ok (.iconst 0, 1) := by decide +kernel
theorem d_PL_readParts_64 : decode b_PL_readParts 64 = .ok (.ireturn, 1) := by decide +kernel
theorem d_PL_readParts_65 : decode b_PL_readParts 65 = .ok (.iinc 4 1, 3) := by decide +kernel
theorem d_PL_readParts_68 : decode b_PL_readParts 68 = .ok (.goto (-26), 3) := by decide +kernel
theorem d_PL_readParts_71 : decode b_PL_readParts 71 = .ok (.iconst 1, 1) := by decide +kernel
theorem d_PL_readParts_72 : decode b_PL_readParts 72 = .ok (.ireturn, 1) := by decide +kernel
