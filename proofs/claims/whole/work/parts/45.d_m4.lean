theorem d_MD_about_0 : decode b_MD_about 0 = .ok (.aload_n 0, 1) := by decide +kernel
theorem d_MD_about_1 : decode b_MD_about 1 = .ok (.iconst 0, 1) := by decide +kernel
theorem d_MD_about_2 : decode b_MD_about 2 = .ok (.putfield 60, 3) := by decide +kernel
theorem d_MD_about_5 : decode b_MD_about 5 = .ok (.iload_n 1, 1) := by decide +kernel
theorem d_MD_about_6 : decode b_MD_about 6 = .ok (.ifCond .lt 8, 3) := by decide +kernel
theorem d_MD_about_9 : decode b_MD_about 9 = .ok (.iload_n 1, 1) := by decide +kernel
theorem d_MD_about_10 : decode b_MD_about 10 = .ok (.iconst 4, 1) := by decide +kernel
theorem d_MD_about_11 : decode b_MD_about 11 = .ok (.if_icmp .le 5, 3) := by decide +kernel
theorem d_MD_about_14 : decode b_MD_about 14 = .ok (.iconst (-1), 1) := by decide +kernel
theorem d_MD_about_15 : decode b_MD_about 15 = .ok (.ireturn, 1) := by decide +kernel
theorem d_MD_about_16 : decode b_MD_about 16 = .ok (.aload_n 0, 1) := by decide +kernel
theorem d_MD_about_17 : decode b_MD_about 17 = .ok (.getfield 163, 3) := by decide +kernel
theorem d_MD_about_20 : decode b_MD_about 20 = .ok (.ifCond .ne 5, 3) := by decide +kernel
theorem d_MD_about_23 : decode b_MD_about 23 = .ok (.iconst 0, 1) := by decide +kernel
theorem d_MD_about_24 : decode b_MD_about 24 = .ok (.ireturn, 1) := by decide +kernel
theorem d_MD_about_25 : decode b_MD_about 25 = .ok (.iload_n 1, 1) := by decide +kernel
theorem d_MD_about_26 : decode b_MD_about 26 = .ok (.ifCond .ne 10, 3) := by decide +kernel
theorem d_MD_about_29 : decode b_MD_about 29 = .ok (.aload_n 0, 1) := by decide +kernel
theorem d_MD_about_30 : decode b_MD_about 30 = .ok (.getfield 151, 3) := by decide +kernel
theorem d_MD_about_33 : decode b_MD_about 33 = .ok (.goto 43, 3) := by decide +kernel
theorem d_MD_about_36 : decode b_MD_about 36 = .ok (.iload_n 1, 1) := by decide +kernel
theorem d_MD_about_37 : decode b_MD_about 37 = .ok (.iconst 1, 1) := by decide +kernel
theorem d_MD_about_38 : decode b_MD_about 38 = .ok (.if_icmp .ne 10, 3) := by decide +kernel
theorem d_MD_about_41 : decode b_MD_about 41 = .ok (.aload_n 0, 1) := by decide +kernel
theorem d_MD_about_42 : decode b_MD_about 42 = .ok (.getfield 154, 3) := by decide +kernel
theorem d_MD_about_45 : decode b_MD_about 45 = .ok (.goto 31, 3) := by decide +kernel
theorem d_MD_about_48 : decode b_MD_about 48 = .ok (.iload_n 1, 1) := by decide +kernel
theorem d_MD_about_49 : decode b_MD_about 49 = .ok (.iconst 2, 1) := by decide +kernel
theorem d_MD_about_50 : decode b_MD_about 50 = .ok (.if_icmp .ne 10, 3) := by decide +kernel
theorem d_MD_about_53 : decode b_MD_about 53 = .ok (.aload_n 0, 1) := by decide +kernel
theorem d_MD_about_54 : decode b_MD_about 54 = .ok (.getfield 157, 3) := by decide +kernel
theorem d_MD_about_57 : decode b_MD_about 57 = .ok (.goto 19, 3) := by decide +kernel
theorem d_MD_about_60 : decode b_MD_about 60 = .ok (.iload_n 1, 1) := by decide +kernel
theorem d_MD_about_61 : decode b_MD_about 61 = .ok (.iconst 3, 1) := by decide +kernel
theorem d_MD_about_62 : decode b_MD_about 62 = .ok (.if_icmp .ne 10, 3) := by decide +kernel
theorem d_MD_about_65 : decode b_MD_about 65 = .ok (.aload_n 0, 1) := by decide +kernel
theorem d_MD_about_66 : decode b_MD_about 66 = .ok (.getfield 160, 3) := by decide +kernel
theorem d_MD_about_69 : decode b_MD_about 69 = .ok (.goto 7, 3) := by decide +kernel
theorem d_MD_about_72 : decode b_MD_about 72 = .ok (.aload_n 0, 1) := by decide +kernel
theorem d_MD_about_73 : decode b_MD_about 73 = .ok (.getfield 163, 3) := by decide +kernel
theorem d_MD_about_76 : decode b_MD_about 76 = .ok (.ireturn, 1) := by decide +kernel
theorem d_MD_laid_0 : decode b_MD_laid 0 = .ok (.iconst 0, 1) := by decide +kernel
theorem d_MD_laid_1 : decode b_MD_laid 1 = .ok (.istore_n 2, 1) := by decide +kernel
theorem d_MD_laid_2 : decode b_MD_laid 2 = .ok (.iload_n 2, 1) := by decide +kernel
theorem d_MD_laid_3 : decode b_MD_laid 3 = .ok (.sipush 4096, 3) := by decide +kernel
theorem d_MD_laid_6 : decode b_MD_laid 6 = .ok (.if_icmp .ge 16, 3) := by decide +kernel
theorem d_MD_laid_9 : decode b_MD_laid 9 = .ok (.aload_n 0, 1) := by decide +kernel
theorem d_MD_laid_10 : decode b_MD_laid 10 = .ok (.getfield 36, 3) := by decide +kernel
theorem d_MD_laid_13 : decode b_MD_laid 13 = .ok (.iload_n 2, 1) := by decide +kernel
theorem d_MD_laid_14 : decode b_MD_laid 14 = .ok (.iconst 0, 1) := by decide +kernel
theorem d_MD_laid_15 : decode b_MD_laid 15 = .ok (.bastore, 1) := by decide +kernel
theorem d_MD_laid_16 : decode b_MD_laid 16 = .ok (.iinc 2 1, 3) := by decide +kernel
theorem d_MD_laid_19 : decode b_MD_laid 19 = .ok (.goto (-17), 3) := by decide +kernel
theorem d_MD_laid_22 : decode b_MD_laid 22 = .ok (.sipush 4096, 3) := by decide +kernel
theorem d_MD_laid_25 : decode b_MD_laid 25 = .ok (.istore_n 2, 1) := by decide +kernel
theorem d_MD_laid_26 : decode b_MD_laid 26 = .ok (.iconst 0, 1) := by decide +kernel
theorem d_MD_laid_27 : decode b_MD_laid 27 = .ok (.istore_n 3, 1) := by decide +kernel
theorem d_MD_laid_28 : decode b_MD_laid 28 = .ok (.iload_n 3, 1) := by decide +kernel
theorem d_MD_laid_29 : decode b_MD_laid 29 = .ok (.aload_n 0, 1) := by decide +kernel
theorem d_MD_laid_30 : decode b_MD_laid 30 = .ok (.getfield 68, 3) := by decide +kernel
theorem d_MD_laid_33 : decode b_MD_laid 33 = .ok (.if_icmp .ge 23, 3) := by decide +kernel
theorem d_MD_laid_36 : decode b_MD_laid 36 = .ok (.iload_n 2, 1) := by decide +kernel
theorem d_MD_laid_37 : decode b_MD_laid 37 = .ok (.aload_n 0, 1) := by decide +kernel
theorem d_MD_laid_38 : decode b_MD_laid 38 = .ok (.getfield 14, 3) := by decide +kernel
theorem d_MD_laid_41 : decode b_MD_laid 41 = .ok (.iload_n 3, 1) := by decide +kernel
theorem d_MD_laid_42 : decode b_MD_laid 42 = .ok (.iaload, 1) := by decide +kernel
theorem d_MD_laid_43 : decode b_MD_laid 43 = .ok (.isub, 1) := by decide +kernel
theorem d_MD_laid_44 : decode b_MD_laid 44 = .ok (.iconst 1, 1) := by decide +kernel
theorem d_MD_laid_45 : decode b_MD_laid 45 = .ok (.isub, 1) := by decide +kernel
theorem d_MD_laid_46 : decode b_MD_laid 46 = .ok (.bipush (-4), 2) := by decide +kernel
theorem d_MD_laid_48 : decode b_MD_laid 48 = .ok (.iand, 1) := by decide +kernel
theorem d_MD_laid_49 : decode b_MD_laid 49 = .ok (.istore_n 2, 1) := by decide +kernel
theorem d_MD_laid_50 : decode b_MD_laid 50 = .ok (.iinc 3 1, 3) := by decide +kernel
theorem d_MD_laid_53 : decode b_MD_laid 53 = .ok (.goto (-25), 3) := by decide +kernel
theorem d_MD_laid_56 : decode b_MD_laid 56 = .ok (.iload_n 2, 1) := by decide +kernel
theorem d_MD_laid_57 : decode b_MD_laid 57 = .ok (.iconst 4, 1) := by decide +kernel
theorem d_MD_laid_58 : decode b_MD_laid 58 = .ok (.aload_n 0, 1) := by decide +kernel
theorem d_MD_laid_59 : decode b_MD_laid 59 = .ok (.getfield 68, 3) := by decide +kernel
theorem d_MD_laid_62 : decode b_MD_laid 62 = .ok (.iconst 1, 1) := by decide +kernel
theorem d_MD_laid_63 : decode b_MD_laid 63 = .ok (.iadd, 1) := by decide +kernel
theorem d_MD_laid_64 : decode b_MD_laid 64 = .ok (.imul, 1) := by decide +kernel
theorem d_MD_laid_65 : decode b_MD_laid 65 = .ok (.isub, 1) := by decide +kernel
theorem d_MD_laid_66 : decode b_MD_laid 66 = .ok (.bipush (-16), 2) := by decide +kernel
theorem d_MD_laid_68 : decode b_MD_laid 68 = .ok (.iand, 1) := by decide +kernel
theorem d_MD_laid_69 : decode b_MD_laid 69 = .ok (.istore_n 3, 1) := by decide +kernel
theorem d_MD_laid_70 : decode b_MD_laid 70 = .ok (.iload_n 3, 1) := by decide +kernel
theorem d_MD_laid_71 : decode b_MD_laid 71 = .ok (.ifCond .ge 5, 3) := by decide +kernel
theorem d_MD_laid_74 : decode b_MD_laid 74 = .ok (.iconst (-1), 1) := by decide +kernel
theorem d_MD_laid_75 : decode b_MD_laid 75 = .ok (.ireturn, 1) := by decide +kernel
theorem d_MD_laid_76 : decode b_MD_laid 76 = .ok (.sipush 4096, 3) := by decide +kernel
theorem d_MD_laid_79 : decode b_MD_laid 79 = .ok (.istore_n 2, 1) := by decide +kernel
theorem d_MD_laid_80 : decode b_MD_laid 80 = .ok (.iconst 0, 1) := by decide +kernel
theorem d_MD_laid_81 : decode b_MD_laid 81 = .ok (.istore 4, 2) := by decide +kernel
theorem d_MD_laid_83 : decode b_MD_laid 83 = .ok (.iload 4, 2) := by decide +kernel
theorem d_MD_laid_85 : decode b_MD_laid 85 = .ok (.aload_n 0, 1) := by decide +kernel
theorem d_MD_laid_86 : decode b_MD_laid 86 = .ok (.getfield 68, 3) := by decide +kernel
theorem d_MD_laid_89 : decode b_MD_laid 89 = .ok (.if_icmp .ge 111, 3) := by decide +kernel
theorem d_MD_laid_92 : decode b_MD_laid 92 = .ok (.iload_n 2, 1) := by decide +kernel
theorem d_MD_laid_93 : decode b_MD_laid 93 = .ok (.aload_n 0, 1) := by decide +kernel
theorem d_MD_laid_94 : decode b_MD_laid 94 = .ok (.getfield 14, 3) := by decide +kernel
theorem d_MD_laid_97 : decode b_MD_laid 97 = .ok (.iload 4, 2) := by decide +kernel
theorem d_MD_laid_99 : decode b_MD_laid 99 = .ok (.iaload, 1) := by decide +kernel
theorem d_MD_laid_100 : decode b_MD_laid 100 = .ok (.isub, 1) := by decide +kernel
theorem d_MD_laid_101 : decode b_MD_laid 101 = .ok (.iconst 1, 1) := by decide +kernel
theorem d_MD_laid_102 : decode b_MD_laid 102 = .ok (.isub, 1) := by decide +kernel
theorem d_MD_laid_103 : decode b_MD_laid 103 = .ok (.bipush (-4), 2) := by decide +kernel
theorem d_MD_laid_105 : decode b_MD_laid 105 = .ok (.iand, 1) := by decide +kernel
theorem d_MD_laid_106 : decode b_MD_laid 106 = .ok (.istore_n 2, 1) := by decide +kernel
theorem d_MD_laid_107 : decode b_MD_laid 107 = .ok (.iconst 0, 1) := by decide +kernel
theorem d_MD_laid_108 : decode b_MD_laid 108 = .ok (.istore 5, 2) := by decide +kernel
theorem d_MD_laid_110 : decode b_MD_laid 110 = .ok (.iload 5, 2) := by decide +kernel
theorem d_MD_laid_112 : decode b_MD_laid 112 = .ok (.aload_n 0, 1) := by decide +kernel
theorem d_MD_laid_113 : decode b_MD_laid 113 = .ok (.getfield 14, 3) := by decide +kernel
theorem d_MD_laid_116 : decode b_MD_laid 116 = .ok (.iload 4, 2) := by decide +kernel
theorem d_MD_laid_118 : decode b_MD_laid 118 = .ok (.iaload, 1) := by decide +kernel
theorem d_MD_laid_119 : decode b_MD_laid 119 = .ok (.if_icmp .ge 32, 3) := by decide +kernel
theorem d_MD_laid_122 : decode b_MD_laid 122 = .ok (.aload_n 0, 1) := by decide +kernel
theorem d_MD_laid_123 : decode b_MD_laid 123 = .ok (.getfield 36, 3) := by decide +kernel
theorem d_MD_laid_126 : decode b_MD_laid 126 = .ok (.iload_n 2, 1) := by decide +kernel
theorem d_MD_laid_127 : decode b_MD_laid 127 = .ok (.iload 5, 2) := by decide +kernel
theorem d_MD_laid_129 : decode b_MD_laid 129 = .ok (.iadd, 1) := by decide +kernel
theorem d_MD_laid_130 : decode b_MD_laid 130 = .ok (.aload_n 0, 1) := by decide +kernel
theorem d_MD_laid_131 : decode b_MD_laid 131 = .ok (.getfield 18, 3) := by decide +kernel
theorem d_MD_laid_134 : decode b_MD_laid 134 = .ok (.sipush 128, 3) := by decide +kernel
theorem d_MD_laid_137 : decode b_MD_laid 137 = .ok (.iload 4, 2) := by decide +kernel
theorem d_MD_laid_139 : decode b_MD_laid 139 = .ok (.imul, 1) := by decide +kernel
theorem d_MD_laid_140 : decode b_MD_laid 140 = .ok (.iload 5, 2) := by decide +kernel
theorem d_MD_laid_142 : decode b_MD_laid 142 = .ok (.iadd, 1) := by decide +kernel
theorem d_MD_laid_143 : decode b_MD_laid 143 = .ok (.baload, 1) := by decide +kernel
theorem d_MD_laid_144 : decode b_MD_laid 144 = .ok (.bastore, 1) := by decide +kernel
theorem d_MD_laid_145 : decode b_MD_laid 145 = .ok (.iinc 5 1, 3) := by decide +kernel
theorem d_MD_laid_148 : decode b_MD_laid 148 = .ok (.goto (-38), 3) := by decide +kernel
theorem d_MD_laid_151 : decode b_MD_laid 151 = .ok (.iconst 0, 1) := by decide +kernel
theorem d_MD_laid_152 : decode b_MD_laid 152 = .ok (.istore 5, 2) := by decide +kernel
theorem d_MD_laid_154 : decode b_MD_laid 154 = .ok (.iload 5, 2) := by decide +kernel
theorem d_MD_laid_156 : decode b_MD_laid 156 = .ok (.iconst 4, 1) := by decide +kernel
theorem d_MD_laid_157 : decode b_MD_laid 157 = .ok (.if_icmp .ge 37, 3) := by decide +kernel
theorem d_MD_laid_160 : decode b_MD_laid 160 = .ok (.aload_n 0, 1) := by decide +kernel
theorem d_MD_laid_161 : decode b_MD_laid 161 = .ok (.getfield 36, 3) := by decide +kernel
theorem d_MD_laid_164 : decode b_MD_laid 164 = .ok (.iload_n 3, 1) := by decide +kernel
theorem d_MD_laid_165 : decode b_MD_laid 165 = .ok (.iconst 4, 1) := by decide +kernel
theorem d_MD_laid_166 : decode b_MD_laid 166 = .ok (.iload 4, 2) := by decide +kernel
theorem d_MD_laid_168 : decode b_MD_laid 168 = .ok (.imul, 1) := by decide +kernel
theorem d_MD_laid_169 : decode b_MD_laid 169 = .ok (.iadd, 1) := by decide +kernel
theorem d_MD_laid_170 : decode b_MD_laid 170 = .ok (.iload 5, 2) := by decide +kernel
theorem d_MD_laid_172 : decode b_MD_laid 172 = .ok (.iadd, 1) := by decide +kernel
theorem d_MD_laid_173 : decode b_MD_laid 173 = .ok (.iload_n 1, 1) := by decide +kernel
theorem d_MD_laid_174 : decode b_MD_laid 174 = .ok (.sipush 4096, 3) := by decide +kernel
theorem d_MD_laid_177 : decode b_MD_laid 177 = .ok (.isub, 1) := by decide +kernel
theorem d_MD_laid_178 : decode b_MD_laid 178 = .ok (.iload_n 2, 1) := by decide +kernel
theorem d_MD_laid_179 : decode b_MD_laid 179 = .ok (.iadd, 1) := by decide +kernel
theorem d_MD_laid_180 : decode b_MD_laid 180 = .ok (.bipush 8, 2) := by decide +kernel
theorem d_MD_laid_182 : decode b_MD_laid 182 = .ok (.iload 5, 2) := by decide +kernel
theorem d_MD_laid_184 : decode b_MD_laid 184 = .ok (.imul, 1) := by decide +kernel
theorem d_MD_laid_185 : decode b_MD_laid 185 = .ok (.ishr, 1) := by decide +kernel
theorem d_MD_laid_186 : decode b_MD_laid 186 = .ok (.i2b, 1) := by decide +kernel
theorem d_MD_laid_187 : decode b_MD_laid 187 = .ok (.bastore, 1) := by decide +kernel
theorem d_MD_laid_188 : decode b_MD_laid 188 = .ok (.iinc 5 1, 3) := by decide +kernel
theorem d_MD_laid_191 : decode b_MD_laid 191 = .ok (.goto (-37), 3) := by decide +kernel
theorem d_MD_laid_194 : decode b_MD_laid 194 = .ok (.iinc 4 1, 3) := by decide +kernel
theorem d_MD_laid_197 : decode b_MD_laid 197 = .ok (.goto (-114), 3) := by decide +kernel
theorem d_MD_laid_200 : decode b_MD_laid 200 = .ok (.iload_n 1, 1) := by decide +kernel
theorem d_MD_laid_201 : decode b_MD_laid 201 = .ok (.sipush 4096, 3) := by decide +kernel
theorem d_MD_laid_204 : decode b_MD_laid 204 = .ok (.isub, 1) := by decide +kernel
theorem d_MD_laid_205 : decode b_MD_laid 205 = .ok (.iload_n 3, 1) := by decide +kernel
theorem d_MD_laid_206 : decode b_MD_laid 206 = .ok (.iadd, 1) := by decide +kernel
theorem d_MD_laid_207 : decode b_MD_laid 207 = .ok (.ireturn, 1) := by decide +kernel
theorem d_MD_part_0 : decode b_MD_part 0 = .ok (.iconst (-1), 1) := by decide +kernel
theorem d_MD_part_1 : decode b_MD_part 1 = .ok (.istore_n 2, 1) := by decide +kernel
theorem d_MD_part_2 : decode b_MD_part 2 = .ok (.iconst 0, 1) := by decide +kernel
theorem d_MD_part_3 : decode b_MD_part 3 = .ok (.istore_n 3, 1) := by decide +kernel
theorem d_MD_part_4 : decode b_MD_part 4 = .ok (.iload_n 3, 1) := by decide +kernel
theorem d_MD_part_5 : decode b_MD_part 5 = .ok (.aload_n 0, 1) := by decide +kernel
theorem d_MD_part_6 : decode b_MD_part 6 = .ok (.getfield 166, 3) := by decide +kernel
theorem d_MD_part_9 : decode b_MD_part 9 = .ok (.if_icmp .ge 49, 3) := by decide +kernel
theorem d_MD_part_12 : decode b_MD_part 12 = .ok (.iload_n 1, 1) := by decide +kernel
theorem d_MD_part_13 : decode b_MD_part 13 = .ok (.aload_n 0, 1) := by decide +kernel
theorem d_MD_part_14 : decode b_MD_part 14 = .ok (.getfield 45, 3) := by decide +kernel
theorem d_MD_part_17 : decode b_MD_part 17 = .ok (.iload_n 3, 1) := by decide +kernel
theorem d_MD_part_18 : decode b_MD_part 18 = .ok (.iaload, 1) := by decide +kernel
theorem d_MD_part_19 : decode b_MD_part 19 = .ok (.if_icmp .lt 31, 3) := by decide +kernel
theorem d_MD_part_22 : decode b_MD_part 22 = .ok (.iload_n 1, 1) := by decide +kernel
theorem d_MD_part_23 : decode b_MD_part 23 = .ok (.i2l, 1) := by decide +kernel
theorem d_MD_part_24 : decode b_MD_part 24 = .ok (.aload_n 0, 1) := by decide +kernel
theorem d_MD_part_25 : decode b_MD_part 25 = .ok (.getfield 45, 3) := by decide +kernel
theorem d_MD_part_28 : decode b_MD_part 28 = .ok (.iload_n 3, 1) := by decide +kernel
theorem d_MD_part_29 : decode b_MD_part 29 = .ok (.iaload, 1) := by decide +kernel
theorem d_MD_part_30 : decode b_MD_part 30 = .ok (.i2l, 1) := by decide +kernel
theorem d_MD_part_31 : decode b_MD_part 31 = .ok (.aload_n 0, 1) := by decide +kernel
theorem d_MD_part_32 : decode b_MD_part 32 = .ok (.getfield 51, 3) := by decide +kernel
theorem d_MD_part_35 : decode b_MD_part 35 = .ok (.iload_n 3, 1) := by decide +kernel
theorem d_MD_part_36 : decode b_MD_part 36 = .ok (.iaload, 1) := by decide +kernel
theorem d_MD_part_37 : decode b_MD_part 37 = .ok (.i2l, 1) := by decide +kernel
theorem d_MD_part_38 : decode b_MD_part 38 = .ok (.ladd, 1) := by decide +kernel
theorem d_MD_part_39 : decode b_MD_part 39 = .ok (.invokestatic 120, 3) := by decide +kernel
theorem d_MD_part_42 : decode b_MD_part 42 = .ok (.lcmp, 1) := by decide +kernel
theorem d_MD_part_43 : decode b_MD_part 43 = .ok (.ifCond .ge 7, 3) := by decide +kernel
theorem d_MD_part_46 : decode b_MD_part 46 = .ok (.iload_n 3, 1) := by decide +kernel
theorem d_MD_part_47 : decode b_MD_part 47 = .ok (.goto 4, 3) := by decide +kernel
theorem d_MD_part_50 : decode b_MD_part 50 = .ok (.iload_n 2, 1) := by decide +kernel
theorem d_MD_part_51 : decode b_MD_part 51 = .ok (.istore_n 2, 1) := by decide +kernel
theorem d_MD_part_52 : decode b_MD_part 52 = .ok (.iinc 3 1, 3) := by decide +kernel
theorem d_MD_part_55 : decode b_MD_part 55 = .ok (.goto (-51), 3) := by decide +kernel
theorem d_MD_part_58 : decode b_MD_part 58 = .ok (.iload_n 2, 1) := by decide +kernel
theorem d_MD_part_59 : decode b_MD_part 59 = .ok (.ireturn, 1) := by decide +kernel
theorem d_MD_near_0 : decode b_MD_near 0 = .ok (.aload_n 0, 1) := by decide +kernel
theorem d_MD_near_1 : decode b_MD_near 1 = .ok (.getfield 163, 3) := by decide +kernel
theorem d_MD_near_4 : decode b_MD_near 4 = .ok (.ifCond .ne 7, 3) := by decide +kernel
theorem d_MD_near_7 : decode b_MD_near 7 = .ok (.iconst 0, 1) := by decide +kernel
theorem d_MD_near_8 : decode b_MD_near 8 = .ok (.goto 56, 3) := by decide +kernel
theorem d_MD_near_11 : decode b_MD_near 11 = .ok (.iload_n 1, 1) := by decide +kernel
theorem d_MD_near_12 : decode b_MD_near 12 = .ok (.aload_n 0, 1) := by decide +kernel
theorem d_MD_near_13 : decode b_MD_near 13 = .ok (.getfield 157, 3) := by decide +kernel
theorem d_MD_near_16 : decode b_MD_near 16 = .ok (.sipush 4096, 3) := by decide +kernel
theorem d_MD_near_19 : decode b_MD_near 19 = .ok (.isub, 1) := by decide +kernel
theorem d_MD_near_20 : decode b_MD_near 20 = .ok (.if_icmp .lt 15, 3) := by decide +kernel
theorem d_MD_near_23 : decode b_MD_near 23 = .ok (.iload_n 1, 1) := by decide +kernel
theorem d_MD_near_24 : decode b_MD_near 24 = .ok (.aload_n 0, 1) := by decide +kernel
theorem d_MD_near_25 : decode b_MD_near 25 = .ok (.getfield 157, 3) := by decide +kernel
theorem d_MD_near_28 : decode b_MD_near 28 = .ok (.if_icmp .ge 7, 3) := by decide +kernel
theorem d_MD_near_31 : decode b_MD_near 31 = .ok (.iconst 2, 1) := by decide +kernel
theorem d_MD_near_32 : decode b_MD_near 32 = .ok (.goto 32, 3) := by decide +kernel
theorem d_MD_near_35 : decode b_MD_near 35 = .ok (.iload_n 1, 1) := by decide +kernel
theorem d_MD_near_36 : decode b_MD_near 36 = .ok (.aload_n 0, 1) := by decide +kernel
theorem d_MD_near_37 : decode b_MD_near 37 = .ok (.getfield 157, 3) := by decide +kernel
theorem d_MD_near_40 : decode b_MD_near 40 = .ok (.sipush 8192, 3) := by decide +kernel
theorem d_MD_near_43 : decode b_MD_near 43 = .ok (.isub, 1) := by decide +kernel
theorem d_MD_near_44 : decode b_MD_near 44 = .ok (.if_icmp .lt 19, 3) := by decide +kernel
theorem d_MD_near_47 : decode b_MD_near 47 = .ok (.iload_n 1, 1) := by decide +kernel
theorem d_MD_near_48 : decode b_MD_near 48 = .ok (.aload_n 0, 1) := by decide +kernel
theorem d_MD_near_49 : decode b_MD_near 49 = .ok (.getfield 157, 3) := by decide +kernel
theorem d_MD_near_52 : decode b_MD_near 52 = .ok (.sipush 4096, 3) := by decide +kernel
theorem d_MD_near_55 : decode b_MD_near 55 = .ok (.isub, 1) := by decide +kernel
theorem d_MD_near_56 : decode b_MD_near 56 = .ok (.if_icmp .ge 7, 3) := by decide +kernel
theorem d_MD_near_59 : decode b_MD_near 59 = .ok (.iconst 1, 1) := by decide +kernel
theorem d_MD_near_60 : decode b_MD_near 60 = .ok (.goto 4, 3) := by decide +kernel
theorem d_MD_near_63 : decode b_MD_near 63 = .ok (.iconst 0, 1) := by decide +kernel
theorem d_MD_near_64 : decode b_MD_near 64 = .ok (.ireturn, 1) := by decide +kernel
theorem d_MD_at_0 : decode b_MD_at 0 = .ok (.aload_n 0, 1) := by decide +kernel
theorem d_MD_at_1 : decode b_MD_at 1 = .ok (.iconst 0, 1) := by decide +kernel
theorem d_MD_at_2 : decode b_MD_at 2 = .ok (.putfield 60, 3) := by decide +kernel
theorem d_MD_at_5 : decode b_MD_at 5 = .ok (.aload_n 0, 1) := by decide +kernel
theorem d_MD_at_6 : decode b_MD_at 6 = .ok (.iload_n 1, 1) := by decide +kernel
theorem d_MD_at_7 : decode b_MD_at 7 = .ok (.invokevirtual 169, 3) := by decide +kernel
theorem d_MD_at_10 : decode b_MD_at 10 = .ok (.istore_n 2, 1) := by decide +kernel
theorem d_MD_at_11 : decode b_MD_at 11 = .ok (.iload_n 2, 1) := by decide +kernel
theorem d_MD_at_12 : decode b_MD_at 12 = .ok (.ifCond .lt 44, 3) := by decide +kernel
theorem d_MD_at_15 : decode b_MD_at 15 = .ok (.iload_n 1, 1) := by decide +kernel
theorem d_MD_at_16 : decode b_MD_at 16 = .ok (.aload_n 0, 1) := by decide +kernel
theorem d_MD_at_17 : decode b_MD_at 17 = .ok (.getfield 45, 3) := by decide +kernel
theorem d_MD_at_20 : decode b_MD_at 20 = .ok (.iload_n 2, 1) := by decide +kernel
theorem d_MD_at_21 : decode b_MD_at 21 = .ok (.iaload, 1) := by decide +kernel
theorem d_MD_at_22 : decode b_MD_at 22 = .ok (.isub, 1) := by decide +kernel
theorem d_MD_at_23 : decode b_MD_at 23 = .ok (.istore_n 3, 1) := by decide +kernel
theorem d_MD_at_24 : decode b_MD_at 24 = .ok (.iload_n 3, 1) := by decide +kernel
theorem d_MD_at_25 : decode b_MD_at 25 = .ok (.aload_n 0, 1) := by decide +kernel
theorem d_MD_at_26 : decode b_MD_at 26 = .ok (.getfield 48, 3) := by decide +kernel
theorem d_MD_at_29 : decode b_MD_at 29 = .ok (.iload_n 2, 1) := by decide +kernel
theorem d_MD_at_30 : decode b_MD_at 30 = .ok (.iaload, 1) := by decide +kernel
theorem d_MD_at_31 : decode b_MD_at 31 = .ok (.if_icmp .ge 23, 3) := by decide +kernel
theorem d_MD_at_34 : decode b_MD_at 34 = .ok (.aload_n 0, 1) := by decide +kernel
theorem d_MD_at_35 : decode b_MD_at 35 = .ok (.getfield 39, 3) := by decide +kernel
theorem d_MD_at_38 : decode b_MD_at 38 = .ok (.aload_n 0, 1) := by decide +kernel
theorem d_MD_at_39 : decode b_MD_at 39 = .ok (.getfield 42, 3) := by decide +kernel
theorem d_MD_at_42 : decode b_MD_at 42 = .ok (.iload_n 2, 1) := by decide +kernel
theorem d_MD_at_43 : decode b_MD_at 43 = .ok (.iaload, 1) := by decide +kernel
theorem d_MD_at_44 : decode b_MD_at 44 = .ok (.iload_n 3, 1) := by decide +kernel
theorem d_MD_at_45 : decode b_MD_at 45 = .ok (.iadd, 1) := by decide +kernel
theorem d_MD_at_46 : decode b_MD_at 46 = .ok (.baload, 1) := by decide +kernel
theorem d_MD_at_47 : decode b_MD_at 47 = .ok (.sipush 255, 3) := by decide +kernel
theorem d_MD_at_50 : decode b_MD_at 50 = .ok (.iand, 1) := by decide +kernel
theorem d_MD_at_51 : decode b_MD_at 51 = .ok (.goto 4, 3) := by decide +kernel
theorem d_MD_at_54 : decode b_MD_at 54 = .ok (.iconst 0, 1) := by decide +kernel
theorem d_MD_at_55 : decode b_MD_at 55 = .ok (.ireturn, 1) := by decide +kernel
theorem d_MD_at_56 : decode b_MD_at 56 = .ok (.aload_n 0, 1) := by decide +kernel
theorem d_MD_at_57 : decode b_MD_at 57 = .ok (.iload_n 1, 1) := by decide +kernel
theorem d_MD_at_58 : decode b_MD_at 58 = .ok (.invokevirtual 172, 3) := by decide +kernel
theorem d_MD_at_61 : decode b_MD_at 61 = .ok (.iconst 2, 1) := by decide +kernel
theorem d_MD_at_62 : decode b_MD_at 62 = .ok (.if_icmp .ne 25, 3) := by decide +kernel
theorem d_MD_at_65 : decode b_MD_at 65 = .ok (.aload_n 0, 1) := by decide +kernel
theorem d_MD_at_66 : decode b_MD_at 66 = .ok (.getfield 57, 3) := by decide +kernel
theorem d_MD_at_69 : decode b_MD_at 69 = .ok (.iload_n 1, 1) := by decide +kernel
theorem d_MD_at_70 : decode b_MD_at 70 = .ok (.aload_n 0, 1) := by decide +kernel
theorem d_MD_at_71 : decode b_MD_at 71 = .ok (.getfield 157, 3) := by decide +kernel
theorem d_MD_at_74 : decode b_MD_at 74 = .ok (.isub, 1) := by decide +kernel
theorem d_MD_at_75 : decode b_MD_at 75 = .ok (.sipush 4096, 3) := by decide +kernel
theorem d_MD_at_78 : decode b_MD_at 78 = .ok (.iadd, 1) := by decide +kernel
theorem d_MD_at_79 : decode b_MD_at 79 = .ok (.baload, 1) := by decide +kernel
theorem d_MD_at_80 : decode b_MD_at 80 = .ok (.sipush 255, 3) := by decide +kernel
theorem d_MD_at_83 : decode b_MD_at 83 = .ok (.iand, 1) := by decide +kernel
theorem d_MD_at_84 : decode b_MD_at 84 = .ok (.goto 10, 3) := by decide +kernel
theorem d_MD_at_87 : decode b_MD_at 87 = .ok (.aload_n 0, 1) := by decide +kernel
theorem d_MD_at_88 : decode b_MD_at 88 = .ok (.iload_n 1, 1) := by decide +kernel
theorem d_MD_at_89 : decode b_MD_at 89 = .ok (.invokevirtual 172, 3) := by decide +kernel
theorem d_MD_at_92 : decode b_MD_at 92 = .ok (.iconst 1, 1) := by decide +kernel
theorem d_MD_at_93 : decode b_MD_at 93 = .ok (.isub, 1) := by decide +kernel
theorem d_MD_at_94 : decode b_MD_at 94 = .ok (.ireturn, 1) := by decide +kernel
theorem d_MD_flags_0 : decode b_MD_flags 0 = .ok (.aload_n 0, 1) := by decide +kernel
theorem d_MD_flags_1 : decode b_MD_flags 1 = .ok (.iconst 0, 1) := by decide +kernel
theorem d_MD_flags_2 : decode b_MD_flags 2 = .ok (.putfield 60, 3) := by decide +kernel
theorem d_MD_flags_5 : decode b_MD_flags 5 = .ok (.aload_n 0, 1) := by decide +kernel
theorem d_MD_flags_6 : decode b_MD_flags 6 = .ok (.iload_n 1, 1) := by decide +kernel
theorem d_MD_flags_7 : decode b_MD_flags 7 = .ok (.invokevirtual 169, 3) := by decide +kernel
theorem d_MD_flags_10 : decode b_MD_flags 10 = .ok (.istore_n 2, 1) := by decide +kernel
theorem d_MD_flags_11 : decode b_MD_flags 11 = .ok (.iload_n 2, 1) := by decide +kernel
theorem d_MD_flags_12 : decode b_MD_flags 12 = .ok (.ifCond .lt 12, 3) := by decide +kernel
theorem d_MD_flags_15 : decode b_MD_flags 15 = .ok (.aload_n 0, 1) := by decide +kernel
theorem d_MD_flags_16 : decode b_MD_flags 16 = .ok (.getfield 54, 3) := by decide +kernel
theorem d_MD_flags_19 : decode b_MD_flags 19 = .ok (.iload_n 2, 1) := by decide +kernel
theorem d_MD_flags_20 : decode b_MD_flags 20 = .ok (.iaload, 1) := by decide +kernel
theorem d_MD_flags_21 : decode b_MD_flags 21 = .ok (.goto 31, 3) := by decide +kernel
theorem d_MD_flags_24 : decode b_MD_flags 24 = .ok (.aload_n 0, 1) := by decide +kernel
theorem d_MD_flags_25 : decode b_MD_flags 25 = .ok (.iload_n 1, 1) := by decide +kernel
theorem d_MD_flags_26 : decode b_MD_flags 26 = .ok (.invokevirtual 172, 3) := by decide +kernel
theorem d_MD_flags_29 : decode b_MD_flags 29 = .ok (.iconst 2, 1) := by decide +kernel
theorem d_MD_flags_30 : decode b_MD_flags 30 = .ok (.if_icmp .ne 8, 3) := by decide +kernel
theorem d_MD_flags_33 : decode b_MD_flags 33 = .ok (.bipush 11, 2) := by decide +kernel
theorem d_MD_flags_35 : decode b_MD_flags 35 = .ok (.goto 17, 3) := by decide +kernel
theorem d_MD_flags_38 : decode b_MD_flags 38 = .ok (.aload_n 0, 1) := by decide +kernel
theorem d_MD_flags_39 : decode b_MD_flags 39 = .ok (.iload_n 1, 1) := by decide +kernel
theorem d_MD_flags_40 : decode b_MD_flags 40 = .ok (.invokevirtual 172, 3) := by decide +kernel
theorem d_MD_flags_43 : decode b_MD_flags 43 = .ok (.iconst 1, 1) := by decide +kernel
theorem d_MD_flags_44 : decode b_MD_flags 44 = .ok (.if_icmp .ne 7, 3) := by decide +kernel
theorem d_MD_flags_47 : decode b_MD_flags 47 = .ok (.iconst 3, 1) := by decide +kernel
theorem d_MD_flags_48 : decode b_MD_flags 48 = .ok (.goto 4, 3) := by decide +kernel
theorem d_MD_flags_51 : decode b_MD_flags 51 = .ok (.iconst (-1), 1) := by decide +kernel
theorem d_MD_flags_52 : decode b_MD_flags 52 = .ok (.ireturn, 1) := by decide +kernel
