theorem d_MD_put_0 : decode b_MD_put 0 = .ok (.aload_n 0, 1) := by decide +kernel
theorem d_MD_put_1 : decode b_MD_put 1 = .ok (.iconst 0, 1) := by decide +kernel
theorem d_MD_put_2 : decode b_MD_put 2 = .ok (.putfield 60, 3) := by decide +kernel
theorem d_MD_put_5 : decode b_MD_put 5 = .ok (.iload_n 2, 1) := by decide +kernel
theorem d_MD_put_6 : decode b_MD_put 6 = .ok (.iconst 1, 1) := by decide +kernel
theorem d_MD_put_7 : decode b_MD_put 7 = .ok (.if_icmp .eq 13, 3) := by decide +kernel
theorem d_MD_put_10 : decode b_MD_put 10 = .ok (.iload_n 2, 1) := by decide +kernel
theorem d_MD_put_11 : decode b_MD_put 11 = .ok (.iconst 2, 1) := by decide +kernel
theorem d_MD_put_12 : decode b_MD_put 12 = .ok (.if_icmp .eq 8, 3) := by decide +kernel
theorem d_MD_put_15 : decode b_MD_put 15 = .ok (.iload_n 2, 1) := by decide +kernel
theorem d_MD_put_16 : decode b_MD_put 16 = .ok (.iconst 4, 1) := by decide +kernel
theorem d_MD_put_17 : decode b_MD_put 17 = .ok (.if_icmp .ne 17, 3) := by decide +kernel
theorem d_MD_put_20 : decode b_MD_put 20 = .ok (.iload_n 1, 1) := by decide +kernel
theorem d_MD_put_21 : decode b_MD_put 21 = .ok (.ifCond .lt 13, 3) := by decide +kernel
theorem d_MD_put_24 : decode b_MD_put 24 = .ok (.iload_n 1, 1) := by decide +kernel
theorem d_MD_put_25 : decode b_MD_put 25 = .ok (.aload_n 0, 1) := by decide +kernel
theorem d_MD_put_26 : decode b_MD_put 26 = .ok (.getfield 64, 3) := by decide +kernel
theorem d_MD_put_29 : decode b_MD_put 29 = .ok (.iload_n 2, 1) := by decide +kernel
theorem d_MD_put_30 : decode b_MD_put 30 = .ok (.isub, 1) := by decide +kernel
theorem d_MD_put_31 : decode b_MD_put 31 = .ok (.if_icmp .le 5, 3) := by decide +kernel
theorem d_MD_put_34 : decode b_MD_put 34 = .ok (.iconst 0, 1) := by decide +kernel
theorem d_MD_put_35 : decode b_MD_put 35 = .ok (.ireturn, 1) := by decide +kernel
theorem d_MD_put_36 : decode b_MD_put 36 = .ok (.iconst 0, 1) := by decide +kernel
theorem d_MD_put_37 : decode b_MD_put 37 = .ok (.istore 4, 2) := by decide +kernel
theorem d_MD_put_39 : decode b_MD_put 39 = .ok (.iload 4, 2) := by decide +kernel
theorem d_MD_put_41 : decode b_MD_put 41 = .ok (.iload_n 2, 1) := by decide +kernel
theorem d_MD_put_42 : decode b_MD_put 42 = .ok (.if_icmp .ge 26, 3) := by decide +kernel
theorem d_MD_put_45 : decode b_MD_put 45 = .ok (.aload_n 0, 1) := by decide +kernel
theorem d_MD_put_46 : decode b_MD_put 46 = .ok (.getfield 8, 3) := by decide +kernel
theorem d_MD_put_49 : decode b_MD_put 49 = .ok (.iload_n 1, 1) := by decide +kernel
theorem d_MD_put_50 : decode b_MD_put 50 = .ok (.iload 4, 2) := by decide +kernel
theorem d_MD_put_52 : decode b_MD_put 52 = .ok (.iadd, 1) := by decide +kernel
theorem d_MD_put_53 : decode b_MD_put 53 = .ok (.iload_n 3, 1) := by decide +kernel
theorem d_MD_put_54 : decode b_MD_put 54 = .ok (.bipush 8, 2) := by decide +kernel
theorem d_MD_put_56 : decode b_MD_put 56 = .ok (.iload 4, 2) := by decide +kernel
theorem d_MD_put_58 : decode b_MD_put 58 = .ok (.imul, 1) := by decide +kernel
theorem d_MD_put_59 : decode b_MD_put 59 = .ok (.ishr, 1) := by decide +kernel
theorem d_MD_put_60 : decode b_MD_put 60 = .ok (.i2b, 1) := by decide +kernel
theorem d_MD_put_61 : decode b_MD_put 61 = .ok (.bastore, 1) := by decide +kernel
theorem d_MD_put_62 : decode b_MD_put 62 = .ok (.iinc 4 1, 3) := by decide +kernel
theorem d_MD_put_65 : decode b_MD_put 65 = .ok (.goto (-26), 3) := by decide +kernel
theorem d_MD_put_68 : decode b_MD_put 68 = .ok (.iconst 1, 1) := by decide +kernel
theorem d_MD_put_69 : decode b_MD_put 69 = .ok (.ireturn, 1) := by decide +kernel
theorem d_MD_letters_0 : decode b_MD_letters 0 = .ok (.aload_n 0, 1) := by decide +kernel
theorem d_MD_letters_1 : decode b_MD_letters 1 = .ok (.iconst 0, 1) := by decide +kernel
theorem d_MD_letters_2 : decode b_MD_letters 2 = .ok (.putfield 60, 3) := by decide +kernel
theorem d_MD_letters_5 : decode b_MD_letters 5 = .ok (.iconst 0, 1) := by decide +kernel
theorem d_MD_letters_6 : decode b_MD_letters 6 = .ok (.istore_n 3, 1) := by decide +kernel
theorem d_MD_letters_7 : decode b_MD_letters 7 = .ok (.iconst 0, 1) := by decide +kernel
theorem d_MD_letters_8 : decode b_MD_letters 8 = .ok (.istore 4, 2) := by decide +kernel
theorem d_MD_letters_10 : decode b_MD_letters 10 = .ok (.iload 4, 2) := by decide +kernel
theorem d_MD_letters_12 : decode b_MD_letters 12 = .ok (.bipush 8, 2) := by decide +kernel
theorem d_MD_letters_14 : decode b_MD_letters 14 = .ok (.if_icmp .ge 33, 3) := by decide +kernel
theorem d_MD_letters_17 : decode b_MD_letters 17 = .ok (.iload_n 3, 1) := by decide +kernel
theorem d_MD_letters_18 : decode b_MD_letters 18 = .ok (.lload_n 1, 1) := by decide +kernel
theorem d_MD_letters_19 : decode b_MD_letters 19 = .ok (.bipush 8, 2) := by decide +kernel
theorem d_MD_letters_21 : decode b_MD_letters 21 = .ok (.iload 4, 2) := by decide +kernel
theorem d_MD_letters_23 : decode b_MD_letters 23 = .ok (.imul, 1) := by decide +kernel
theorem d_MD_letters_24 : decode b_MD_letters 24 = .ok (.lshr, 1) := by decide +kernel
theorem d_MD_letters_25 : decode b_MD_letters 25 = .ok (.ldc2_w 71, 3) := by decide +kernel
theorem d_MD_letters_28 : decode b_MD_letters 28 = .ok (.land, 1) := by decide +kernel
theorem d_MD_letters_29 : decode b_MD_letters 29 = .ok (.lconst 0, 1) := by decide +kernel
theorem d_MD_letters_30 : decode b_MD_letters 30 = .ok (.lcmp, 1) := by decide +kernel
theorem d_MD_letters_31 : decode b_MD_letters 31 = .ok (.ifCond .le 7, 3) := by decide +kernel
theorem d_MD_letters_34 : decode b_MD_letters 34 = .ok (.iconst 1, 1) := by decide +kernel
theorem d_MD_letters_35 : decode b_MD_letters 35 = .ok (.goto 4, 3) := by decide +kernel
theorem d_MD_letters_38 : decode b_MD_letters 38 = .ok (.iconst 0, 1) := by decide +kernel
theorem d_MD_letters_39 : decode b_MD_letters 39 = .ok (.iadd, 1) := by decide +kernel
theorem d_MD_letters_40 : decode b_MD_letters 40 = .ok (.istore_n 3, 1) := by decide +kernel
theorem d_MD_letters_41 : decode b_MD_letters 41 = .ok (.iinc 4 1, 3) := by decide +kernel
theorem d_MD_letters_44 : decode b_MD_letters 44 = .ok (.goto (-34), 3) := by decide +kernel
theorem d_MD_letters_47 : decode b_MD_letters 47 = .ok (.aload_n 0, 1) := by decide +kernel
theorem d_MD_letters_48 : decode b_MD_letters 48 = .ok (.getfield 68, 3) := by decide +kernel
theorem d_MD_letters_51 : decode b_MD_letters 51 = .ok (.ifCond .eq 21, 3) := by decide +kernel
theorem d_MD_letters_54 : decode b_MD_letters 54 = .ok (.aload_n 0, 1) := by decide +kernel
theorem d_MD_letters_55 : decode b_MD_letters 55 = .ok (.getfield 14, 3) := by decide +kernel
theorem d_MD_letters_58 : decode b_MD_letters 58 = .ok (.aload_n 0, 1) := by decide +kernel
theorem d_MD_letters_59 : decode b_MD_letters 59 = .ok (.getfield 68, 3) := by decide +kernel
theorem d_MD_letters_62 : decode b_MD_letters 62 = .ok (.iconst 1, 1) := by decide +kernel
theorem d_MD_letters_63 : decode b_MD_letters 63 = .ok (.isub, 1) := by decide +kernel
theorem d_MD_letters_64 : decode b_MD_letters 64 = .ok (.iaload, 1) := by decide +kernel
theorem d_MD_letters_65 : decode b_MD_letters 65 = .ok (.iload_n 3, 1) := by decide +kernel
theorem d_MD_letters_66 : decode b_MD_letters 66 = .ok (.iadd, 1) := by decide +kernel
theorem d_MD_letters_67 : decode b_MD_letters 67 = .ok (.bipush 127, 2) := by decide +kernel
theorem d_MD_letters_69 : decode b_MD_letters 69 = .ok (.if_icmp .le 5, 3) := by decide +kernel
theorem d_MD_letters_72 : decode b_MD_letters 72 = .ok (.iconst 0, 1) := by decide +kernel
theorem d_MD_letters_73 : decode b_MD_letters 73 = .ok (.ireturn, 1) := by decide +kernel
theorem d_MD_letters_74 : decode b_MD_letters 74 = .ok (.bipush 7, 2) := by decide +kernel
theorem d_MD_letters_76 : decode b_MD_letters 76 = .ok (.istore 4, 2) := by decide +kernel
theorem d_MD_letters_78 : decode b_MD_letters 78 = .ok (.iload 4, 2) := by decide +kernel
theorem d_MD_letters_80 : decode b_MD_letters 80 = .ok (.ifCond .lt 73, 3) := by decide +kernel
theorem d_MD_letters_83 : decode b_MD_letters 83 = .ok (.lload_n 1, 1) := by decide +kernel
theorem d_MD_letters_84 : decode b_MD_letters 84 = .ok (.bipush 8, 2) := by decide +kernel
theorem d_MD_letters_86 : decode b_MD_letters 86 = .ok (.iload 4, 2) := by decide +kernel
theorem d_MD_letters_88 : decode b_MD_letters 88 = .ok (.imul, 1) := by decide +kernel
theorem d_MD_letters_89 : decode b_MD_letters 89 = .ok (.lshr, 1) := by decide +kernel
theorem d_MD_letters_90 : decode b_MD_letters 90 = .ok (.l2i, 1) := by decide +kernel
theorem d_MD_letters_91 : decode b_MD_letters 91 = .ok (.sipush 255, 3) := by decide +kernel
theorem d_MD_letters_94 : decode b_MD_letters 94 = .ok (.iand, 1) := by decide +kernel
theorem d_MD_letters_95 : decode b_MD_letters 95 = .ok (.istore 5, 2) := by decide +kernel
theorem d_MD_letters_97 : decode b_MD_letters 97 = .ok (.iload 5, 2) := by decide +kernel
theorem d_MD_letters_99 : decode b_MD_letters 99 = .ok (.ifCond .le 48, 3) := by decide +kernel
theorem d_MD_letters_102 : decode b_MD_letters 102 = .ok (.aload_n 0, 1) := by decide +kernel
theorem d_MD_letters_103 : decode b_MD_letters 103 = .ok (.getfield 18, 3) := by decide +kernel
theorem d_MD_letters_106 : decode b_MD_letters 106 = .ok (.sipush 128, 3) := by decide +kernel
theorem d_MD_letters_109 : decode b_MD_letters 109 = .ok (.aload_n 0, 1) := by decide +kernel
theorem d_MD_letters_110 : decode b_MD_letters 110 = .ok (.getfield 68, 3) := by decide +kernel
theorem d_MD_letters_113 : decode b_MD_letters 113 = .ok (.iconst 1, 1) := by decide +kernel
theorem d_MD_letters_114 : decode b_MD_letters 114 = .ok (.isub, 1) := by decide +kernel
theorem d_MD_letters_115 : decode b_MD_letters 115 = .ok (.imul, 1) := by decide +kernel
theorem d_MD_letters_116 : decode b_MD_letters 116 = .ok (.aload_n 0, 1) := by decide +kernel
theorem d_MD_letters_117 : decode b_MD_letters 117 = .ok (.getfield 14, 3) := by decide +kernel
theorem d_MD_letters_120 : decode b_MD_letters 120 = .ok (.aload_n 0, 1) := by decide +kernel
theorem d_MD_letters_121 : decode b_MD_letters 121 = .ok (.getfield 68, 3) := by decide +kernel
theorem d_MD_letters_124 : decode b_MD_letters 124 = .ok (.iconst 1, 1) := by decide +kernel
theorem d_MD_letters_125 : decode b_MD_letters 125 = .ok (.isub, 1) := by decide +kernel
theorem d_MD_letters_126 : decode b_MD_letters 126 = .ok (.iaload, 1) := by decide +kernel
theorem d_MD_letters_127 : decode b_MD_letters 127 = .ok (.iadd, 1) := by decide +kernel
theorem d_MD_letters_128 : decode b_MD_letters 128 = .ok (.iload 5, 2) := by decide +kernel
theorem d_MD_letters_130 : decode b_MD_letters 130 = .ok (.i2b, 1) := by decide +kernel
theorem d_MD_letters_131 : decode b_MD_letters 131 = .ok (.bastore, 1) := by decide +kernel
theorem d_MD_letters_132 : decode b_MD_letters 132 = .ok (.aload_n 0, 1) := by decide +kernel
theorem d_MD_letters_133 : decode b_MD_letters 133 = .ok (.getfield 14, 3) := by decide +kernel
theorem d_MD_letters_136 : decode b_MD_letters 136 = .ok (.aload_n 0, 1) := by decide +kernel
theorem d_MD_letters_137 : decode b_MD_letters 137 = .ok (.getfield 68, 3) := by decide +kernel
theorem d_MD_letters_140 : decode b_MD_letters 140 = .ok (.iconst 1, 1) := by decide +kernel
theorem d_MD_letters_141 : decode b_MD_letters 141 = .ok (.isub, 1) := by decide +kernel
theorem d_MD_letters_142 : decode b_MD_letters 142 = .ok (.dup2, 1) := by decide +kernel
theorem d_MD_letters_143 : decode b_MD_letters 143 = .ok (.iaload, 1) := by decide +kernel
theorem d_MD_letters_144 : decode b_MD_letters 144 = .ok (.iconst 1, 1) := by decide +kernel
theorem d_MD_letters_145 : decode b_MD_letters 145 = .ok (.iadd, 1) := by decide +kernel
theorem d_MD_letters_146 : decode b_MD_letters 146 = .ok (.iastore, 1) := by decide +kernel
theorem d_MD_letters_147 : decode b_MD_letters 147 = .ok (.iinc 4 (-1), 3) := by decide +kernel
theorem d_MD_letters_150 : decode b_MD_letters 150 = .ok (.goto (-72), 3) := by decide +kernel
theorem d_MD_letters_153 : decode b_MD_letters 153 = .ok (.iconst 1, 1) := by decide +kernel
theorem d_MD_letters_154 : decode b_MD_letters 154 = .ok (.ireturn, 1) := by decide +kernel
