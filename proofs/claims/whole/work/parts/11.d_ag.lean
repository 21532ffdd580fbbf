theorem d_AG_open_0 : decode b_AG_open 0 = .ok (.aload_n 0, 1) := by decide +kernel
theorem d_AG_open_1 : decode b_AG_open 1 = .ok (.getfield 19, 3) := by decide +kernel
theorem d_AG_open_4 : decode b_AG_open 4 = .ok (.aload_n 0, 1) := by decide +kernel
theorem d_AG_open_5 : decode b_AG_open 5 = .ok (.getfield 15, 3) := by decide +kernel
theorem d_AG_open_8 : decode b_AG_open 8 = .ok (.arraylength, 1) := by decide +kernel
theorem d_AG_open_9 : decode b_AG_open 9 = .ok (.if_icmp .lt 5, 3) := by decide +kernel
theorem d_AG_open_12 : decode b_AG_open 12 = .ok (.iconst 0, 1) := by decide +kernel
theorem d_AG_open_13 : decode b_AG_open 13 = .ok (.ireturn, 1) := by decide +kernel
theorem d_AG_open_14 : decode b_AG_open 14 = .ok (.aload_n 0, 1) := by decide +kernel
theorem d_AG_open_15 : decode b_AG_open 15 = .ok (.getfield 15, 3) := by decide +kernel
theorem d_AG_open_18 : decode b_AG_open 18 = .ok (.aload_n 0, 1) := by decide +kernel
theorem d_AG_open_19 : decode b_AG_open 19 = .ok (.getfield 19, 3) := by decide +kernel
theorem d_AG_open_22 : decode b_AG_open 22 = .ok (.iconst 0, 1) := by decide +kernel
theorem d_AG_open_23 : decode b_AG_open 23 = .ok (.iastore, 1) := by decide +kernel
theorem d_AG_open_24 : decode b_AG_open 24 = .ok (.aload_n 0, 1) := by decide +kernel
theorem d_AG_open_25 : decode b_AG_open 25 = .ok (.dup, 1) := by decide +kernel
theorem d_AG_open_26 : decode b_AG_open 26 = .ok (.getfield 19, 3) := by decide +kernel
theorem d_AG_open_29 : decode b_AG_open 29 = .ok (.iconst 1, 1) := by decide +kernel
theorem d_AG_open_30 : decode b_AG_open 30 = .ok (.iadd, 1) := by decide +kernel
theorem d_AG_open_31 : decode b_AG_open 31 = .ok (.putfield 19, 3) := by decide +kernel
theorem d_AG_open_34 : decode b_AG_open 34 = .ok (.iconst 1, 1) := by decide +kernel
theorem d_AG_open_35 : decode b_AG_open 35 = .ok (.ireturn, 1) := by decide +kernel
theorem d_AG_lettersIn_0 : decode b_AG_lettersIn 0 = .ok (.iconst 0, 1) := by decide +kernel
theorem d_AG_lettersIn_1 : decode b_AG_lettersIn 1 = .ok (.istore_n 2, 1) := by decide +kernel
theorem d_AG_lettersIn_2 : decode b_AG_lettersIn 2 = .ok (.bipush 56, 2) := by decide +kernel
theorem d_AG_lettersIn_4 : decode b_AG_lettersIn 4 = .ok (.istore_n 3, 1) := by decide +kernel
theorem d_AG_lettersIn_5 : decode b_AG_lettersIn 5 = .ok (.iload_n 3, 1) := by decide +kernel
theorem d_AG_lettersIn_6 : decode b_AG_lettersIn 6 = .ok (.ifCond .lt 20, 3) := by decide +kernel
theorem d_AG_lettersIn_9 : decode b_AG_lettersIn 9 = .ok (.lload_n 0, 1) := by decide +kernel
theorem d_AG_lettersIn_10 : decode b_AG_lettersIn 10 = .ok (.iload_n 3, 1) := by decide +kernel
theorem d_AG_lettersIn_11 : decode b_AG_lettersIn 11 = .ok (.lshr, 1) := by decide +kernel
theorem d_AG_lettersIn_12 : decode b_AG_lettersIn 12 = .ok (.l2i, 1) := by decide +kernel
theorem d_AG_lettersIn_13 : decode b_AG_lettersIn 13 = .ok (.i2b, 1) := by decide +kernel
theorem d_AG_lettersIn_14 : decode b_AG_lettersIn 14 = .ok (.ifCond .eq 6, 3) := by decide +kernel
theorem d_AG_lettersIn_17 : decode b_AG_lettersIn 17 = .ok (.iinc 2 1, 3) := by decide +kernel
theorem d_AG_lettersIn_20 : decode b_AG_lettersIn 20 = .ok (.iinc 3 (-8), 3) := by decide +kernel
theorem d_AG_lettersIn_23 : decode b_AG_lettersIn 23 = .ok (.goto (-18), 3) := by decide +kernel
theorem d_AG_lettersIn_26 : decode b_AG_lettersIn 26 = .ok (.iload_n 2, 1) := by decide +kernel
theorem d_AG_lettersIn_27 : decode b_AG_lettersIn 27 = .ok (.ireturn, 1) := by decide +kernel
theorem d_AG_placeBelow_0 : decode b_AG_placeBelow 0 = .ok (.iload_n 2, 1) := by decide +kernel
theorem d_AG_placeBelow_1 : decode b_AG_placeBelow 1 = .ok (.ifCond .lt 21, 3) := by decide +kernel
theorem d_AG_placeBelow_4 : decode b_AG_placeBelow 4 = .ok (.iload_n 2, 1) := by decide +kernel
theorem d_AG_placeBelow_5 : decode b_AG_placeBelow 5 = .ok (.aload_n 0, 1) := by decide +kernel
theorem d_AG_placeBelow_6 : decode b_AG_placeBelow 6 = .ok (.getfield 15, 3) := by decide +kernel
theorem d_AG_placeBelow_9 : decode b_AG_placeBelow 9 = .ok (.arraylength, 1) := by decide +kernel
theorem d_AG_placeBelow_10 : decode b_AG_placeBelow 10 = .ok (.if_icmp .ge 12, 3) := by decide +kernel
theorem d_AG_placeBelow_13 : decode b_AG_placeBelow 13 = .ok (.aload_n 0, 1) := by decide +kernel
theorem d_AG_placeBelow_14 : decode b_AG_placeBelow 14 = .ok (.getfield 15, 3) := by decide +kernel
theorem d_AG_placeBelow_17 : decode b_AG_placeBelow 17 = .ok (.iload_n 2, 1) := by decide +kernel
theorem d_AG_placeBelow_18 : decode b_AG_placeBelow 18 = .ok (.iaload, 1) := by decide +kernel
theorem d_AG_placeBelow_19 : decode b_AG_placeBelow 19 = .ok (.goto 4, 3) := by decide +kernel
theorem d_AG_placeBelow_22 : decode b_AG_placeBelow 22 = .ok (.iconst 0, 1) := by decide +kernel
theorem d_AG_placeBelow_23 : decode b_AG_placeBelow 23 = .ok (.istore_n 3, 1) := by decide +kernel
theorem d_AG_placeBelow_24 : decode b_AG_placeBelow 24 = .ok (.iload_n 1, 1) := by decide +kernel
theorem d_AG_placeBelow_25 : decode b_AG_placeBelow 25 = .ok (.iload_n 3, 1) := by decide +kernel
theorem d_AG_placeBelow_26 : decode b_AG_placeBelow 26 = .ok (.isub, 1) := by decide +kernel
theorem d_AG_placeBelow_27 : decode b_AG_placeBelow 27 = .ok (.iconst 1, 1) := by decide +kernel
theorem d_AG_placeBelow_28 : decode b_AG_placeBelow 28 = .ok (.isub, 1) := by decide +kernel
theorem d_AG_placeBelow_29 : decode b_AG_placeBelow 29 = .ok (.bipush (-4), 2) := by decide +kernel
theorem d_AG_placeBelow_31 : decode b_AG_placeBelow 31 = .ok (.iand, 1) := by decide +kernel
theorem d_AG_placeBelow_32 : decode b_AG_placeBelow 32 = .ok (.ireturn, 1) := by decide +kernel
theorem d_AG_stackPointer_0 : decode b_AG_stackPointer 0 = .ok (.sipush 4096, 3) := by decide +kernel
theorem d_AG_stackPointer_3 : decode b_AG_stackPointer 3 = .ok (.istore_n 1, 1) := by decide +kernel
theorem d_AG_stackPointer_4 : decode b_AG_stackPointer 4 = .ok (.iconst 0, 1) := by decide +kernel
theorem d_AG_stackPointer_5 : decode b_AG_stackPointer 5 = .ok (.istore_n 2, 1) := by decide +kernel
theorem d_AG_stackPointer_6 : decode b_AG_stackPointer 6 = .ok (.iload_n 2, 1) := by decide +kernel
theorem d_AG_stackPointer_7 : decode b_AG_stackPointer 7 = .ok (.aload_n 0, 1) := by decide +kernel
theorem d_AG_stackPointer_8 : decode b_AG_stackPointer 8 = .ok (.getfield 19, 3) := by decide +kernel
theorem d_AG_stackPointer_11 : decode b_AG_stackPointer 11 = .ok (.if_icmp .ge 16, 3) := by decide +kernel
theorem d_AG_stackPointer_14 : decode b_AG_stackPointer 14 = .ok (.aload_n 0, 1) := by decide +kernel
theorem d_AG_stackPointer_15 : decode b_AG_stackPointer 15 = .ok (.iload_n 1, 1) := by decide +kernel
theorem d_AG_stackPointer_16 : decode b_AG_stackPointer 16 = .ok (.iload_n 2, 1) := by decide +kernel
theorem d_AG_stackPointer_17 : decode b_AG_stackPointer 17 = .ok (.invokevirtual 27, 3) := by decide +kernel
theorem d_AG_stackPointer_20 : decode b_AG_stackPointer 20 = .ok (.istore_n 1, 1) := by decide +kernel
theorem d_AG_stackPointer_21 : decode b_AG_stackPointer 21 = .ok (.iinc 2 1, 3) := by decide +kernel
theorem d_AG_stackPointer_24 : decode b_AG_stackPointer 24 = .ok (.goto (-18), 3) := by decide +kernel
theorem d_AG_stackPointer_27 : decode b_AG_stackPointer 27 = .ok (.iload_n 1, 1) := by decide +kernel
theorem d_AG_stackPointer_28 : decode b_AG_stackPointer 28 = .ok (.iconst 4, 1) := by decide +kernel
theorem d_AG_stackPointer_29 : decode b_AG_stackPointer 29 = .ok (.aload_n 0, 1) := by decide +kernel
theorem d_AG_stackPointer_30 : decode b_AG_stackPointer 30 = .ok (.getfield 19, 3) := by decide +kernel
theorem d_AG_stackPointer_33 : decode b_AG_stackPointer 33 = .ok (.iconst 1, 1) := by decide +kernel
theorem d_AG_stackPointer_34 : decode b_AG_stackPointer 34 = .ok (.iadd, 1) := by decide +kernel
theorem d_AG_stackPointer_35 : decode b_AG_stackPointer 35 = .ok (.imul, 1) := by decide +kernel
theorem d_AG_stackPointer_36 : decode b_AG_stackPointer 36 = .ok (.isub, 1) := by decide +kernel
theorem d_AG_stackPointer_37 : decode b_AG_stackPointer 37 = .ok (.bipush (-16), 2) := by decide +kernel
theorem d_AG_stackPointer_39 : decode b_AG_stackPointer 39 = .ok (.iand, 1) := by decide +kernel
theorem d_AG_stackPointer_40 : decode b_AG_stackPointer 40 = .ok (.ireturn, 1) := by decide +kernel
theorem d_AG_extend_0 : decode b_AG_extend 0 = .ok (.aload_n 0, 1) := by decide +kernel
theorem d_AG_extend_1 : decode b_AG_extend 1 = .ok (.getfield 19, 3) := by decide +kernel
theorem d_AG_extend_4 : decode b_AG_extend 4 = .ok (.iconst 1, 1) := by decide +kernel
theorem d_AG_extend_5 : decode b_AG_extend 5 = .ok (.isub, 1) := by decide +kernel
theorem d_AG_extend_6 : decode b_AG_extend 6 = .ok (.istore_n 3, 1) := by decide +kernel
theorem d_AG_extend_7 : decode b_AG_extend 7 = .ok (.iload_n 3, 1) := by decide +kernel
theorem d_AG_extend_8 : decode b_AG_extend 8 = .ok (.ifCond .lt 28, 3) := by decide +kernel
theorem d_AG_extend_11 : decode b_AG_extend 11 = .ok (.iload_n 3, 1) := by decide +kernel
theorem d_AG_extend_12 : decode b_AG_extend 12 = .ok (.aload_n 0, 1) := by decide +kernel
theorem d_AG_extend_13 : decode b_AG_extend 13 = .ok (.getfield 15, 3) := by decide +kernel
theorem d_AG_extend_16 : decode b_AG_extend 16 = .ok (.arraylength, 1) := by decide +kernel
theorem d_AG_extend_17 : decode b_AG_extend 17 = .ok (.if_icmp .ge 19, 3) := by decide +kernel
theorem d_AG_extend_20 : decode b_AG_extend 20 = .ok (.aload_n 0, 1) := by decide +kernel
theorem d_AG_extend_21 : decode b_AG_extend 21 = .ok (.getfield 15, 3) := by decide +kernel
theorem d_AG_extend_24 : decode b_AG_extend 24 = .ok (.iload_n 3, 1) := by decide +kernel
theorem d_AG_extend_25 : decode b_AG_extend 25 = .ok (.iaload, 1) := by decide +kernel
theorem d_AG_extend_26 : decode b_AG_extend 26 = .ok (.lload_n 1, 1) := by decide +kernel
theorem d_AG_extend_27 : decode b_AG_extend 27 = .ok (.invokestatic 23, 3) := by decide +kernel
theorem d_AG_extend_30 : decode b_AG_extend 30 = .ok (.iadd, 1) := by decide +kernel
theorem d_AG_extend_31 : decode b_AG_extend 31 = .ok (.bipush 127, 2) := by decide +kernel
theorem d_AG_extend_33 : decode b_AG_extend 33 = .ok (.if_icmp .le 5, 3) := by decide +kernel
theorem d_AG_extend_36 : decode b_AG_extend 36 = .ok (.iconst 0, 1) := by decide +kernel
theorem d_AG_extend_37 : decode b_AG_extend 37 = .ok (.ireturn, 1) := by decide +kernel
theorem d_AG_extend_38 : decode b_AG_extend 38 = .ok (.bipush 56, 2) := by decide +kernel
theorem d_AG_extend_40 : decode b_AG_extend 40 = .ok (.istore 4, 2) := by decide +kernel
theorem d_AG_extend_42 : decode b_AG_extend 42 = .ok (.iload 4, 2) := by decide +kernel
theorem d_AG_extend_44 : decode b_AG_extend 44 = .ok (.ifCond .lt 50, 3) := by decide +kernel
theorem d_AG_extend_47 : decode b_AG_extend 47 = .ok (.lload_n 1, 1) := by decide +kernel
theorem d_AG_extend_48 : decode b_AG_extend 48 = .ok (.iload 4, 2) := by decide +kernel
theorem d_AG_extend_50 : decode b_AG_extend 50 = .ok (.lshr, 1) := by decide +kernel
theorem d_AG_extend_51 : decode b_AG_extend 51 = .ok (.l2i, 1) := by decide +kernel
theorem d_AG_extend_52 : decode b_AG_extend 52 = .ok (.i2b, 1) := by decide +kernel
theorem d_AG_extend_53 : decode b_AG_extend 53 = .ok (.istore 5, 2) := by decide +kernel
theorem d_AG_extend_55 : decode b_AG_extend 55 = .ok (.iload 5, 2) := by decide +kernel
theorem d_AG_extend_57 : decode b_AG_extend 57 = .ok (.ifCond .eq 31, 3) := by decide +kernel
theorem d_AG_extend_60 : decode b_AG_extend 60 = .ok (.aload_n 0, 1) := by decide +kernel
theorem d_AG_extend_61 : decode b_AG_extend 61 = .ok (.getfield 9, 3) := by decide +kernel
theorem d_AG_extend_64 : decode b_AG_extend 64 = .ok (.iload_n 3, 1) := by decide +kernel
theorem d_AG_extend_65 : decode b_AG_extend 65 = .ok (.bipush 127, 2) := by decide +kernel
theorem d_AG_extend_67 : decode b_AG_extend 67 = .ok (.imul, 1) := by decide +kernel
theorem d_AG_extend_68 : decode b_AG_extend 68 = .ok (.aload_n 0, 1) := by decide +kernel
theorem d_AG_extend_69 : decode b_AG_extend 69 = .ok (.getfield 15, 3) := by decide +kernel
theorem d_AG_extend_72 : decode b_AG_extend 72 = .ok (.iload_n 3, 1) := by decide +kernel
theorem d_AG_extend_73 : decode b_AG_extend 73 = .ok (.iaload, 1) := by decide +kernel
theorem d_AG_extend_74 : decode b_AG_extend 74 = .ok (.iadd, 1) := by decide +kernel
theorem d_AG_extend_75 : decode b_AG_extend 75 = .ok (.iload 5, 2) := by decide +kernel
theorem d_AG_extend_77 : decode b_AG_extend 77 = .ok (.bastore, 1) := by decide +kernel
theorem d_AG_extend_78 : decode b_AG_extend 78 = .ok (.aload_n 0, 1) := by decide +kernel
theorem d_AG_extend_79 : decode b_AG_extend 79 = .ok (.getfield 15, 3) := by decide +kernel
theorem d_AG_extend_82 : decode b_AG_extend 82 = .ok (.iload_n 3, 1) := by decide +kernel
theorem d_AG_extend_83 : decode b_AG_extend 83 = .ok (.dup2, 1) := by decide +kernel
theorem d_AG_extend_84 : decode b_AG_extend 84 = .ok (.iaload, 1) := by decide +kernel
theorem d_AG_extend_85 : decode b_AG_extend 85 = .ok (.iconst 1, 1) := by decide +kernel
theorem d_AG_extend_86 : decode b_AG_extend 86 = .ok (.iadd, 1) := by decide +kernel
theorem d_AG_extend_87 : decode b_AG_extend 87 = .ok (.iastore, 1) := by decide +kernel
theorem d_AG_extend_88 : decode b_AG_extend 88 = .ok (.iinc 4 (-8), 3) := by decide +kernel
theorem d_AG_extend_91 : decode b_AG_extend 91 = .ok (.goto (-49), 3) := by decide +kernel
theorem d_AG_extend_94 : decode b_AG_extend 94 = .ok (.iconst 1, 1) := by decide +kernel
theorem d_AG_extend_95 : decode b_AG_extend 95 = .ok (.ireturn, 1) := by decide +kernel
