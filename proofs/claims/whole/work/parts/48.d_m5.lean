theorem d_MD_wrong_0 : decode b_MD_wrong 0 = .ok (.aload_n 0, 1) := by decide +kernel
theorem d_MD_wrong_1 : decode b_MD_wrong 1 = .ok (.iconst 0, 1) := by decide +kernel
theorem d_MD_wrong_2 : decode b_MD_wrong 2 = .ok (.putfield 115, 3) := by decide +kernel
theorem d_MD_wrong_5 : decode b_MD_wrong 5 = .ok (.aload_n 0, 1) := by decide +kernel
theorem d_MD_wrong_6 : decode b_MD_wrong 6 = .ok (.lconst 0, 1) := by decide +kernel
theorem d_MD_wrong_7 : decode b_MD_wrong 7 = .ok (.putfield 109, 3) := by decide +kernel
theorem d_MD_wrong_10 : decode b_MD_wrong 10 = .ok (.aload_n 0, 1) := by decide +kernel
theorem d_MD_wrong_11 : decode b_MD_wrong 11 = .ok (.invokevirtual 124, 3) := by decide +kernel
theorem d_MD_wrong_14 : decode b_MD_wrong 14 = .ok (.ifCond .ne 5, 3) := by decide +kernel
theorem d_MD_wrong_17 : decode b_MD_wrong 17 = .ok (.iconst 1, 1) := by decide +kernel
theorem d_MD_wrong_18 : decode b_MD_wrong 18 = .ok (.ireturn, 1) := by decide +kernel
theorem d_MD_wrong_19 : decode b_MD_wrong 19 = .ok (.aload_n 0, 1) := by decide +kernel
theorem d_MD_wrong_20 : decode b_MD_wrong 20 = .ok (.invokevirtual 128, 3) := by decide +kernel
theorem d_MD_wrong_23 : decode b_MD_wrong 23 = .ok (.ifCond .ne 5, 3) := by decide +kernel
theorem d_MD_wrong_26 : decode b_MD_wrong 26 = .ok (.iconst 2, 1) := by decide +kernel
theorem d_MD_wrong_27 : decode b_MD_wrong 27 = .ok (.ireturn, 1) := by decide +kernel
theorem d_MD_wrong_28 : decode b_MD_wrong 28 = .ok (.aload_n 0, 1) := by decide +kernel
theorem d_MD_wrong_29 : decode b_MD_wrong 29 = .ok (.ldc2_w 131, 3) := by decide +kernel
theorem d_MD_wrong_32 : decode b_MD_wrong 32 = .ok (.iconst 4, 1) := by decide +kernel
theorem d_MD_wrong_33 : decode b_MD_wrong 33 = .ok (.invokevirtual 73, 3) := by decide +kernel
theorem d_MD_wrong_36 : decode b_MD_wrong 36 = .ok (.lstore_n 2, 1) := by decide +kernel
theorem d_MD_wrong_37 : decode b_MD_wrong 37 = .ok (.aload_n 0, 1) := by decide +kernel
theorem d_MD_wrong_38 : decode b_MD_wrong 38 = .ok (.ldc2_w 99, 3) := by decide +kernel
theorem d_MD_wrong_41 : decode b_MD_wrong 41 = .ok (.iconst 2, 1) := by decide +kernel
theorem d_MD_wrong_42 : decode b_MD_wrong 42 = .ok (.invokevirtual 73, 3) := by decide +kernel
theorem d_MD_wrong_45 : decode b_MD_wrong 45 = .ok (.l2i, 1) := by decide +kernel
theorem d_MD_wrong_46 : decode b_MD_wrong 46 = .ok (.istore 4, 2) := by decide +kernel
theorem d_MD_wrong_48 : decode b_MD_wrong 48 = .ok (.iload 4, 2) := by decide +kernel
theorem d_MD_wrong_50 : decode b_MD_wrong 50 = .ok (.ifCond .le 23, 3) := by decide +kernel
theorem d_MD_wrong_53 : decode b_MD_wrong 53 = .ok (.lload_n 2, 1) := by decide +kernel
theorem d_MD_wrong_54 : decode b_MD_wrong 54 = .ok (.ldc2_w 97, 3) := by decide +kernel
theorem d_MD_wrong_57 : decode b_MD_wrong 57 = .ok (.iload 4, 2) := by decide +kernel
theorem d_MD_wrong_59 : decode b_MD_wrong 59 = .ok (.i2l, 1) := by decide +kernel
theorem d_MD_wrong_60 : decode b_MD_wrong 60 = .ok (.lmul, 1) := by decide +kernel
theorem d_MD_wrong_61 : decode b_MD_wrong 61 = .ok (.ladd, 1) := by decide +kernel
theorem d_MD_wrong_62 : decode b_MD_wrong 62 = .ok (.aload_n 0, 1) := by decide +kernel
theorem d_MD_wrong_63 : decode b_MD_wrong 63 = .ok (.getfield 64, 3) := by decide +kernel
theorem d_MD_wrong_66 : decode b_MD_wrong 66 = .ok (.i2l, 1) := by decide +kernel
theorem d_MD_wrong_67 : decode b_MD_wrong 67 = .ok (.lcmp, 1) := by decide +kernel
theorem d_MD_wrong_68 : decode b_MD_wrong 68 = .ok (.ifCond .le 5, 3) := by decide +kernel
theorem d_MD_wrong_71 : decode b_MD_wrong 71 = .ok (.iconst 3, 1) := by decide +kernel
theorem d_MD_wrong_72 : decode b_MD_wrong 72 = .ok (.ireturn, 1) := by decide +kernel
theorem d_MD_wrong_73 : decode b_MD_wrong 73 = .ok (.iconst 0, 1) := by decide +kernel
theorem d_MD_wrong_74 : decode b_MD_wrong 74 = .ok (.istore 5, 2) := by decide +kernel
theorem d_MD_wrong_76 : decode b_MD_wrong 76 = .ok (.iload 5, 2) := by decide +kernel
theorem d_MD_wrong_78 : decode b_MD_wrong 78 = .ok (.iload 4, 2) := by decide +kernel
theorem d_MD_wrong_80 : decode b_MD_wrong 80 = .ok (.if_icmp .ge 27, 3) := by decide +kernel
theorem d_MD_wrong_83 : decode b_MD_wrong 83 = .ok (.aload_n 0, 1) := by decide +kernel
theorem d_MD_wrong_84 : decode b_MD_wrong 84 = .ok (.lload_n 2, 1) := by decide +kernel
theorem d_MD_wrong_85 : decode b_MD_wrong 85 = .ok (.ldc2_w 97, 3) := by decide +kernel
theorem d_MD_wrong_88 : decode b_MD_wrong 88 = .ok (.iload 5, 2) := by decide +kernel
theorem d_MD_wrong_90 : decode b_MD_wrong 90 = .ok (.i2l, 1) := by decide +kernel
theorem d_MD_wrong_91 : decode b_MD_wrong 91 = .ok (.lmul, 1) := by decide +kernel
theorem d_MD_wrong_92 : decode b_MD_wrong 92 = .ok (.ladd, 1) := by decide +kernel
theorem d_MD_wrong_93 : decode b_MD_wrong 93 = .ok (.invokevirtual 133, 3) := by decide +kernel
theorem d_MD_wrong_96 : decode b_MD_wrong 96 = .ok (.ifCond .ne 5, 3) := by decide +kernel
theorem d_MD_wrong_99 : decode b_MD_wrong 99 = .ok (.iconst 4, 1) := by decide +kernel
theorem d_MD_wrong_100 : decode b_MD_wrong 100 = .ok (.ireturn, 1) := by decide +kernel
theorem d_MD_wrong_101 : decode b_MD_wrong 101 = .ok (.iinc 5 1, 3) := by decide +kernel
theorem d_MD_wrong_104 : decode b_MD_wrong 104 = .ok (.goto (-28), 3) := by decide +kernel
theorem d_MD_wrong_107 : decode b_MD_wrong 107 = .ok (.aload_n 0, 1) := by decide +kernel
theorem d_MD_wrong_108 : decode b_MD_wrong 108 = .ok (.invokevirtual 137, 3) := by decide +kernel
theorem d_MD_wrong_111 : decode b_MD_wrong 111 = .ok (.iload_n 1, 1) := by decide +kernel
theorem d_MD_wrong_112 : decode b_MD_wrong 112 = .ok (.if_icmp .le 7, 3) := by decide +kernel
theorem d_MD_wrong_115 : decode b_MD_wrong 115 = .ok (.iconst 5, 1) := by decide +kernel
theorem d_MD_wrong_116 : decode b_MD_wrong 116 = .ok (.goto 4, 3) := by decide +kernel
theorem d_MD_wrong_119 : decode b_MD_wrong 119 = .ok (.iconst 0, 1) := by decide +kernel
theorem d_MD_wrong_120 : decode b_MD_wrong 120 = .ok (.ireturn, 1) := by decide +kernel
