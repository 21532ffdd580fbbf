theorem d_IM_takePage_0 : decode b_IM_takePage 0 = .ok (.aload_n 0, 1) := by decide +kernel
theorem d_IM_takePage_1 : decode b_IM_takePage 1 = .ok (.getfield 18, 3) := by decide +kernel
theorem d_IM_takePage_4 : decode b_IM_takePage 4 = .ok (.aload_n 0, 1) := by decide +kernel
theorem d_IM_takePage_5 : decode b_IM_takePage 5 = .ok (.getfield 11, 3) := by decide +kernel
theorem d_IM_takePage_8 : decode b_IM_takePage 8 = .ok (.arraylength, 1) := by decide +kernel
theorem d_IM_takePage_9 : decode b_IM_takePage 9 = .ok (.if_icmp .lt 5, 3) := by decide +kernel
theorem d_IM_takePage_12 : decode b_IM_takePage 12 = .ok (.aconst_null, 1) := by decide +kernel
theorem d_IM_takePage_13 : decode b_IM_takePage 13 = .ok (.areturn, 1) := by decide +kernel
theorem d_IM_takePage_14 : decode b_IM_takePage 14 = .ok (.aload_n 0, 1) := by decide +kernel
theorem d_IM_takePage_15 : decode b_IM_takePage 15 = .ok (.getfield 11, 3) := by decide +kernel
theorem d_IM_takePage_18 : decode b_IM_takePage 18 = .ok (.aload_n 0, 1) := by decide +kernel
theorem d_IM_takePage_19 : decode b_IM_takePage 19 = .ok (.getfield 18, 3) := by decide +kernel
theorem d_IM_takePage_22 : decode b_IM_takePage 22 = .ok (.aaload, 1) := by decide +kernel
theorem d_IM_takePage_23 : decode b_IM_takePage 23 = .ok (.astore_n 3, 1) := by decide +kernel
theorem d_IM_takePage_24 : decode b_IM_takePage 24 = .ok (.aload_n 3, 1) := by decide +kernel
theorem d_IM_takePage_25 : decode b_IM_takePage 25 = .ok (.iload_n 1, 1) := by decide +kernel
theorem d_IM_takePage_26 : decode b_IM_takePage 26 = .ok (.iload_n 2, 1) := by decide +kernel
theorem d_IM_takePage_27 : decode b_IM_takePage 27 = .ok (.invokevirtual 102, 3) := by decide +kernel
theorem d_IM_takePage_30 : decode b_IM_takePage 30 = .ok (.aload_n 0, 1) := by decide +kernel
theorem d_IM_takePage_31 : decode b_IM_takePage 31 = .ok (.dup, 1) := by decide +kernel
theorem d_IM_takePage_32 : decode b_IM_takePage 32 = .ok (.getfield 18, 3) := by decide +kernel
theorem d_IM_takePage_35 : decode b_IM_takePage 35 = .ok (.iconst 1, 1) := by decide +kernel
theorem d_IM_takePage_36 : decode b_IM_takePage 36 = .ok (.iadd, 1) := by decide +kernel
theorem d_IM_takePage_37 : decode b_IM_takePage 37 = .ok (.putfield 18, 3) := by decide +kernel
theorem d_IM_takePage_40 : decode b_IM_takePage 40 = .ok (.aload_n 3, 1) := by decide +kernel
theorem d_IM_takePage_41 : decode b_IM_takePage 41 = .ok (.areturn, 1) := by decide +kernel
theorem d_IM_find_0 : decode b_IM_find 0 = .ok (.iconst 0, 1) := by decide +kernel
theorem d_IM_find_1 : decode b_IM_find 1 = .ok (.istore_n 2, 1) := by decide +kernel
theorem d_IM_find_2 : decode b_IM_find 2 = .ok (.iload_n 2, 1) := by decide +kernel
theorem d_IM_find_3 : decode b_IM_find 3 = .ok (.aload_n 0, 1) := by decide +kernel
theorem d_IM_find_4 : decode b_IM_find 4 = .ok (.getfield 18, 3) := by decide +kernel
theorem d_IM_find_7 : decode b_IM_find 7 = .ok (.if_icmp .ge 42, 3) := by decide +kernel
theorem d_IM_find_10 : decode b_IM_find 10 = .ok (.iload_n 2, 1) := by decide +kernel
theorem d_IM_find_11 : decode b_IM_find 11 = .ok (.aload_n 0, 1) := by decide +kernel
theorem d_IM_find_12 : decode b_IM_find 12 = .ok (.getfield 11, 3) := by decide +kernel
theorem d_IM_find_15 : decode b_IM_find 15 = .ok (.arraylength, 1) := by decide +kernel
theorem d_IM_find_16 : decode b_IM_find 16 = .ok (.if_icmp .ge 33, 3) := by decide +kernel
theorem d_IM_find_19 : decode b_IM_find 19 = .ok (.aload_n 0, 1) := by decide +kernel
theorem d_IM_find_20 : decode b_IM_find 20 = .ok (.getfield 11, 3) := by decide +kernel
theorem d_IM_find_23 : decode b_IM_find 23 = .ok (.iload_n 2, 1) := by decide +kernel
theorem d_IM_find_24 : decode b_IM_find 24 = .ok (.aaload, 1) := by decide +kernel
theorem d_IM_find_25 : decode b_IM_find 25 = .ok (.getfield 22, 3) := by decide +kernel
theorem d_IM_find_28 : decode b_IM_find 28 = .ok (.iload_n 1, 1) := by decide +kernel
theorem d_IM_find_29 : decode b_IM_find 29 = .ok (.sipush (-4096), 3) := by decide +kernel
theorem d_IM_find_32 : decode b_IM_find 32 = .ok (.iand, 1) := by decide +kernel
theorem d_IM_find_33 : decode b_IM_find 33 = .ok (.if_icmp .ne 10, 3) := by decide +kernel
theorem d_IM_find_36 : decode b_IM_find 36 = .ok (.aload_n 0, 1) := by decide +kernel
theorem d_IM_find_37 : decode b_IM_find 37 = .ok (.getfield 11, 3) := by decide +kernel
theorem d_IM_find_40 : decode b_IM_find 40 = .ok (.iload_n 2, 1) := by decide +kernel
theorem d_IM_find_41 : decode b_IM_find 41 = .ok (.aaload, 1) := by decide +kernel
theorem d_IM_find_42 : decode b_IM_find 42 = .ok (.areturn, 1) := by decide +kernel
theorem d_IM_find_43 : decode b_IM_find 43 = .ok (.iinc 2 1, 3) := by decide +kernel
theorem d_IM_find_46 : decode b_IM_find 46 = .ok (.goto (-44), 3) := by decide +kernel
theorem d_IM_find_49 : decode b_IM_find 49 = .ok (.aconst_null, 1) := by decide +kernel
theorem d_IM_find_50 : decode b_IM_find 50 = .ok (.areturn, 1) := by decide +kernel
theorem d_IM_layPart_0 : decode b_IM_layPart 0 = .ok (.iconst 0, 1) := by decide +kernel
theorem d_IM_layPart_1 : decode b_IM_layPart 1 = .ok (.istore_n 3, 1) := by decide +kernel
theorem d_IM_layPart_2 : decode b_IM_layPart 2 = .ok (.iload_n 3, 1) := by decide +kernel
theorem d_IM_layPart_3 : decode b_IM_layPart 3 = .ok (.aload_n 1, 1) := by decide +kernel
theorem d_IM_layPart_4 : decode b_IM_layPart 4 = .ok (.getfield 60, 3) := by decide +kernel
theorem d_IM_layPart_7 : decode b_IM_layPart 7 = .ok (.if_icmp .ge 79, 3) := by decide +kernel
theorem d_IM_layPart_10 : decode b_IM_layPart 10 = .ok (.iload_n 3, 1) := by decide +kernel
theorem d_IM_layPart_11 : decode b_IM_layPart 11 = .ok (.bipush 32, 2) := by decide +kernel
theorem d_IM_layPart_13 : decode b_IM_layPart 13 = .ok (.if_icmp .ge 73, 3) := by decide +kernel
theorem d_IM_layPart_16 : decode b_IM_layPart 16 = .ok (.iload_n 3, 1) := by decide +kernel
theorem d_IM_layPart_17 : decode b_IM_layPart 17 = .ok (.sipush 4096, 3) := by decide +kernel
theorem d_IM_layPart_20 : decode b_IM_layPart 20 = .ok (.imul, 1) := by decide +kernel
theorem d_IM_layPart_21 : decode b_IM_layPart 21 = .ok (.istore 4, 2) := by decide +kernel
theorem d_IM_layPart_23 : decode b_IM_layPart 23 = .ok (.aload_n 0, 1) := by decide +kernel
theorem d_IM_layPart_24 : decode b_IM_layPart 24 = .ok (.aload_n 1, 1) := by decide +kernel
theorem d_IM_layPart_25 : decode b_IM_layPart 25 = .ok (.getfield 64, 3) := by decide +kernel
theorem d_IM_layPart_28 : decode b_IM_layPart 28 = .ok (.iload 4, 2) := by decide +kernel
theorem d_IM_layPart_30 : decode b_IM_layPart 30 = .ok (.iadd, 1) := by decide +kernel
theorem d_IM_layPart_31 : decode b_IM_layPart 31 = .ok (.aload_n 1, 1) := by decide +kernel
theorem d_IM_layPart_32 : decode b_IM_layPart 32 = .ok (.getfield 67, 3) := by decide +kernel
theorem d_IM_layPart_35 : decode b_IM_layPart 35 = .ok (.invokevirtual 52, 3) := by decide +kernel
theorem d_IM_layPart_38 : decode b_IM_layPart 38 = .ok (.astore 5, 2) := by decide +kernel
theorem d_IM_layPart_40 : decode b_IM_layPart 40 = .ok (.aload 5, 2) := by decide +kernel
theorem d_IM_layPart_42 : decode b_IM_layPart 42 = .ok (.ifnull 38, 3) := by decide +kernel
theorem d_IM_layPart_45 : decode b_IM_layPart 45 = .ok (.iload 4, 2) := by decide +kernel
theorem d_IM_layPart_47 : decode b_IM_layPart 47 = .ok (.aload_n 1, 1) := by decide +kernel
theorem d_IM_layPart_48 : decode b_IM_layPart 48 = .ok (.getfield 70, 3) := by decide +kernel
theorem d_IM_layPart_51 : decode b_IM_layPart 51 = .ok (.if_icmp .ge 29, 3) := by decide +kernel
theorem d_IM_layPart_54 : decode b_IM_layPart 54 = .ok (.aload_n 2, 1) := by decide +kernel
theorem d_IM_layPart_55 : decode b_IM_layPart 55 = .ok (.aload 5, 2) := by decide +kernel
theorem d_IM_layPart_57 : decode b_IM_layPart 57 = .ok (.aload_n 1, 1) := by decide +kernel
theorem d_IM_layPart_58 : decode b_IM_layPart 58 = .ok (.getfield 73, 3) := by decide +kernel
theorem d_IM_layPart_61 : decode b_IM_layPart 61 = .ok (.iload 4, 2) := by decide +kernel
theorem d_IM_layPart_63 : decode b_IM_layPart 63 = .ok (.iadd, 1) := by decide +kernel
theorem d_IM_layPart_64 : decode b_IM_layPart 64 = .ok (.aload_n 1, 1) := by decide +kernel
theorem d_IM_layPart_65 : decode b_IM_layPart 65 = .ok (.getfield 70, 3) := by decide +kernel
theorem d_IM_layPart_68 : decode b_IM_layPart 68 = .ok (.iload 4, 2) := by decide +kernel
theorem d_IM_layPart_70 : decode b_IM_layPart 70 = .ok (.isub, 1) := by decide +kernel
theorem d_IM_layPart_71 : decode b_IM_layPart 71 = .ok (.sipush 4096, 3) := by decide +kernel
theorem d_IM_layPart_74 : decode b_IM_layPart 74 = .ok (.invokestatic 76, 3) := by decide +kernel
theorem d_IM_layPart_77 : decode b_IM_layPart 77 = .ok (.invokevirtual 82, 3) := by decide +kernel
theorem d_IM_layPart_80 : decode b_IM_layPart 80 = .ok (.iinc 3 1, 3) := by decide +kernel
theorem d_IM_layPart_83 : decode b_IM_layPart 83 = .ok (.goto (-81), 3) := by decide +kernel
theorem d_IM_layPart_86 : decode b_IM_layPart 86 = .ok (.return_, 1) := by decide +kernel
theorem d_IM_layStack_0 : decode b_IM_layStack 0 = .ok (.aload_n 1, 1) := by decide +kernel
theorem d_IM_layStack_1 : decode b_IM_layStack 1 = .ok (.ifnonnull 4, 3) := by decide +kernel
theorem d_IM_layStack_4 : decode b_IM_layStack 4 = .ok (.return_, 1) := by decide +kernel
theorem d_IM_layStack_5 : decode b_IM_layStack 5 = .ok (.aload_n 2, 1) := by decide +kernel
theorem d_IM_layStack_6 : decode b_IM_layStack 6 = .ok (.invokevirtual 88, 3) := by decide +kernel
theorem d_IM_layStack_9 : decode b_IM_layStack 9 = .ok (.istore_n 3, 1) := by decide +kernel
theorem d_IM_layStack_10 : decode b_IM_layStack 10 = .ok (.sipush 4096, 3) := by decide +kernel
theorem d_IM_layStack_13 : decode b_IM_layStack 13 = .ok (.istore 4, 2) := by decide +kernel
theorem d_IM_layStack_15 : decode b_IM_layStack 15 = .ok (.iconst 0, 1) := by decide +kernel
theorem d_IM_layStack_16 : decode b_IM_layStack 16 = .ok (.istore 5, 2) := by decide +kernel
theorem d_IM_layStack_18 : decode b_IM_layStack 18 = .ok (.iload 5, 2) := by decide +kernel
theorem d_IM_layStack_20 : decode b_IM_layStack 20 = .ok (.aload_n 2, 1) := by decide +kernel
theorem d_IM_layStack_21 : decode b_IM_layStack 21 = .ok (.getfield 37, 3) := by decide +kernel
theorem d_IM_layStack_24 : decode b_IM_layStack 24 = .ok (.if_icmp .ge 45, 3) := by decide +kernel
theorem d_IM_layStack_27 : decode b_IM_layStack 27 = .ok (.aload_n 2, 1) := by decide +kernel
theorem d_IM_layStack_28 : decode b_IM_layStack 28 = .ok (.iload 4, 2) := by decide +kernel
theorem d_IM_layStack_30 : decode b_IM_layStack 30 = .ok (.iload 5, 2) := by decide +kernel
theorem d_IM_layStack_32 : decode b_IM_layStack 32 = .ok (.invokevirtual 92, 3) := by decide +kernel
theorem d_IM_layStack_35 : decode b_IM_layStack 35 = .ok (.istore 4, 2) := by decide +kernel
theorem d_IM_layStack_37 : decode b_IM_layStack 37 = .ok (.aload_n 2, 1) := by decide +kernel
theorem d_IM_layStack_38 : decode b_IM_layStack 38 = .ok (.aload_n 1, 1) := by decide +kernel
theorem d_IM_layStack_39 : decode b_IM_layStack 39 = .ok (.iload 4, 2) := by decide +kernel
theorem d_IM_layStack_41 : decode b_IM_layStack 41 = .ok (.iload 5, 2) := by decide +kernel
theorem d_IM_layStack_43 : decode b_IM_layStack 43 = .ok (.invokevirtual 95, 3) := by decide +kernel
theorem d_IM_layStack_46 : decode b_IM_layStack 46 = .ok (.aload_n 1, 1) := by decide +kernel
theorem d_IM_layStack_47 : decode b_IM_layStack 47 = .ok (.iload_n 3, 1) := by decide +kernel
theorem d_IM_layStack_48 : decode b_IM_layStack 48 = .ok (.iconst 4, 1) := by decide +kernel
theorem d_IM_layStack_49 : decode b_IM_layStack 49 = .ok (.iload 5, 2) := by decide +kernel
theorem d_IM_layStack_51 : decode b_IM_layStack 51 = .ok (.imul, 1) := by decide +kernel
theorem d_IM_layStack_52 : decode b_IM_layStack 52 = .ok (.iadd, 1) := by decide +kernel
theorem d_IM_layStack_53 : decode b_IM_layStack 53 = .ok (.aload_n 1, 1) := by decide +kernel
theorem d_IM_layStack_54 : decode b_IM_layStack 54 = .ok (.getfield 22, 3) := by decide +kernel
theorem d_IM_layStack_57 : decode b_IM_layStack 57 = .ok (.iload 4, 2) := by decide +kernel
theorem d_IM_layStack_59 : decode b_IM_layStack 59 = .ok (.iadd, 1) := by decide +kernel
theorem d_IM_layStack_60 : decode b_IM_layStack 60 = .ok (.invokevirtual 96, 3) := by decide +kernel
theorem d_IM_layStack_63 : decode b_IM_layStack 63 = .ok (.iinc 5 1, 3) := by decide +kernel
theorem d_IM_layStack_66 : decode b_IM_layStack 66 = .ok (.goto (-48), 3) := by decide +kernel
theorem d_IM_layStack_69 : decode b_IM_layStack 69 = .ok (.aload_n 0, 1) := by decide +kernel
theorem d_IM_layStack_70 : decode b_IM_layStack 70 = .ok (.aload_n 1, 1) := by decide +kernel
theorem d_IM_layStack_71 : decode b_IM_layStack 71 = .ok (.getfield 22, 3) := by decide +kernel
theorem d_IM_layStack_74 : decode b_IM_layStack 74 = .ok (.iload_n 3, 1) := by decide +kernel
theorem d_IM_layStack_75 : decode b_IM_layStack 75 = .ok (.iadd, 1) := by decide +kernel
theorem d_IM_layStack_76 : decode b_IM_layStack 76 = .ok (.putfield 100, 3) := by decide +kernel
theorem d_IM_layStack_79 : decode b_IM_layStack 79 = .ok (.return_, 1) := by decide +kernel
