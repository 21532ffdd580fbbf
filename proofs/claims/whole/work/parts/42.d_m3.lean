theorem d_MD_header_0 : decode b_MD_header 0 = .ok (.aload_n 0, 1) := by decide +kernel
theorem d_MD_header_1 : decode b_MD_header 1 = .ok (.lload_n 1, 1) := by decide +kernel
theorem d_MD_header_2 : decode b_MD_header 2 = .ok (.ldc2_w 79, 3) := by decide +kernel
theorem d_MD_header_5 : decode b_MD_header 5 = .ok (.ladd, 1) := by decide +kernel
theorem d_MD_header_6 : decode b_MD_header 6 = .ok (.iconst 4, 1) := by decide +kernel
theorem d_MD_header_7 : decode b_MD_header 7 = .ok (.invokevirtual 73, 3) := by decide +kernel
theorem d_MD_header_10 : decode b_MD_header 10 = .ok (.lstore_n 3, 1) := by decide +kernel
theorem d_MD_header_11 : decode b_MD_header 11 = .ok (.aload_n 0, 1) := by decide +kernel
theorem d_MD_header_12 : decode b_MD_header 12 = .ok (.lload_n 1, 1) := by decide +kernel
theorem d_MD_header_13 : decode b_MD_header 13 = .ok (.ldc2_w 107, 3) := by decide +kernel
theorem d_MD_header_16 : decode b_MD_header 16 = .ok (.ladd, 1) := by decide +kernel
theorem d_MD_header_17 : decode b_MD_header 17 = .ok (.iconst 4, 1) := by decide +kernel
theorem d_MD_header_18 : decode b_MD_header 18 = .ok (.invokevirtual 73, 3) := by decide +kernel
theorem d_MD_header_21 : decode b_MD_header 21 = .ok (.lstore 5, 2) := by decide +kernel
theorem d_MD_header_23 : decode b_MD_header 23 = .ok (.aload_n 0, 1) := by decide +kernel
theorem d_MD_header_24 : decode b_MD_header 24 = .ok (.lload_n 1, 1) := by decide +kernel
theorem d_MD_header_25 : decode b_MD_header 25 = .ok (.ldc2_w 85, 3) := by decide +kernel
theorem d_MD_header_28 : decode b_MD_header 28 = .ok (.ladd, 1) := by decide +kernel
theorem d_MD_header_29 : decode b_MD_header 29 = .ok (.iconst 4, 1) := by decide +kernel
theorem d_MD_header_30 : decode b_MD_header 30 = .ok (.invokevirtual 73, 3) := by decide +kernel
theorem d_MD_header_33 : decode b_MD_header 33 = .ok (.lstore 7, 2) := by decide +kernel
theorem d_MD_header_35 : decode b_MD_header 35 = .ok (.aload_n 0, 1) := by decide +kernel
theorem d_MD_header_36 : decode b_MD_header 36 = .ok (.lload_n 1, 1) := by decide +kernel
theorem d_MD_header_37 : decode b_MD_header 37 = .ok (.ldc2_w 93, 3) := by decide +kernel
theorem d_MD_header_40 : decode b_MD_header 40 = .ok (.ladd, 1) := by decide +kernel
theorem d_MD_header_41 : decode b_MD_header 41 = .ok (.iconst 4, 1) := by decide +kernel
theorem d_MD_header_42 : decode b_MD_header 42 = .ok (.invokevirtual 73, 3) := by decide +kernel
theorem d_MD_header_45 : decode b_MD_header 45 = .ok (.lstore 9, 2) := by decide +kernel
theorem d_MD_header_47 : decode b_MD_header 47 = .ok (.aload_n 0, 1) := by decide +kernel
theorem d_MD_header_48 : decode b_MD_header 48 = .ok (.lload_n 1, 1) := by decide +kernel
theorem d_MD_header_49 : decode b_MD_header 49 = .ok (.iconst 4, 1) := by decide +kernel
theorem d_MD_header_50 : decode b_MD_header 50 = .ok (.invokevirtual 73, 3) := by decide +kernel
theorem d_MD_header_53 : decode b_MD_header 53 = .ok (.lconst 1, 1) := by decide +kernel
theorem d_MD_header_54 : decode b_MD_header 54 = .ok (.lcmp, 1) := by decide +kernel
theorem d_MD_header_55 : decode b_MD_header 55 = .ok (.ifCond .ne 10, 3) := by decide +kernel
theorem d_MD_header_58 : decode b_MD_header 58 = .ok (.lload 9, 2) := by decide +kernel
theorem d_MD_header_60 : decode b_MD_header 60 = .ok (.lconst 0, 1) := by decide +kernel
theorem d_MD_header_61 : decode b_MD_header 61 = .ok (.lcmp, 1) := by decide +kernel
theorem d_MD_header_62 : decode b_MD_header 62 = .ok (.ifCond .ne 5, 3) := by decide +kernel
theorem d_MD_header_65 : decode b_MD_header 65 = .ok (.iconst 1, 1) := by decide +kernel
theorem d_MD_header_66 : decode b_MD_header 66 = .ok (.ireturn, 1) := by decide +kernel
theorem d_MD_header_67 : decode b_MD_header 67 = .ok (.lload 5, 2) := by decide +kernel
theorem d_MD_header_69 : decode b_MD_header 69 = .ok (.ldc2_w 105, 3) := by decide +kernel
theorem d_MD_header_72 : decode b_MD_header 72 = .ok (.lrem, 1) := by decide +kernel
theorem d_MD_header_73 : decode b_MD_header 73 = .ok (.lconst 0, 1) := by decide +kernel
theorem d_MD_header_74 : decode b_MD_header 74 = .ok (.lcmp, 1) := by decide +kernel
theorem d_MD_header_75 : decode b_MD_header 75 = .ok (.ifCond .ne 29, 3) := by decide +kernel
theorem d_MD_header_78 : decode b_MD_header 78 = .ok (.lload 5, 2) := by decide +kernel
theorem d_MD_header_80 : decode b_MD_header 80 = .ok (.aload_n 0, 1) := by decide +kernel
theorem d_MD_header_81 : decode b_MD_header 81 = .ok (.getfield 109, 3) := by decide +kernel
theorem d_MD_header_84 : decode b_MD_header 84 = .ok (.lcmp, 1) := by decide +kernel
theorem d_MD_header_85 : decode b_MD_header 85 = .ok (.ifCond .lt 19, 3) := by decide +kernel
theorem d_MD_header_88 : decode b_MD_header 88 = .ok (.lload 5, 2) := by decide +kernel
theorem d_MD_header_90 : decode b_MD_header 90 = .ok (.lload 9, 2) := by decide +kernel
theorem d_MD_header_92 : decode b_MD_header 92 = .ok (.ladd, 1) := by decide +kernel
theorem d_MD_header_93 : decode b_MD_header 93 = .ok (.ldc2_w 113, 3) := by decide +kernel
theorem d_MD_header_96 : decode b_MD_header 96 = .ok (.lcmp, 1) := by decide +kernel
theorem d_MD_header_97 : decode b_MD_header 97 = .ok (.ifCond .gt 7, 3) := by decide +kernel
theorem d_MD_header_100 : decode b_MD_header 100 = .ok (.iconst 1, 1) := by decide +kernel
theorem d_MD_header_101 : decode b_MD_header 101 = .ok (.goto 4, 3) := by decide +kernel
theorem d_MD_header_104 : decode b_MD_header 104 = .ok (.iconst 0, 1) := by decide +kernel
theorem d_MD_header_105 : decode b_MD_header 105 = .ok (.istore 11, 2) := by decide +kernel
theorem d_MD_header_107 : decode b_MD_header 107 = .ok (.lload 7, 2) := by decide +kernel
theorem d_MD_header_109 : decode b_MD_header 109 = .ok (.lload 9, 2) := by decide +kernel
theorem d_MD_header_111 : decode b_MD_header 111 = .ok (.lcmp, 1) := by decide +kernel
theorem d_MD_header_112 : decode b_MD_header 112 = .ok (.ifCond .gt 20, 3) := by decide +kernel
theorem d_MD_header_115 : decode b_MD_header 115 = .ok (.lload_n 3, 1) := by decide +kernel
theorem d_MD_header_116 : decode b_MD_header 116 = .ok (.lload 7, 2) := by decide +kernel
theorem d_MD_header_118 : decode b_MD_header 118 = .ok (.ladd, 1) := by decide +kernel
theorem d_MD_header_119 : decode b_MD_header 119 = .ok (.aload_n 0, 1) := by decide +kernel
theorem d_MD_header_120 : decode b_MD_header 120 = .ok (.getfield 64, 3) := by decide +kernel
theorem d_MD_header_123 : decode b_MD_header 123 = .ok (.i2l, 1) := by decide +kernel
theorem d_MD_header_124 : decode b_MD_header 124 = .ok (.lcmp, 1) := by decide +kernel
theorem d_MD_header_125 : decode b_MD_header 125 = .ok (.ifCond .gt 7, 3) := by decide +kernel
theorem d_MD_header_128 : decode b_MD_header 128 = .ok (.iconst 1, 1) := by decide +kernel
theorem d_MD_header_129 : decode b_MD_header 129 = .ok (.goto 4, 3) := by decide +kernel
theorem d_MD_header_132 : decode b_MD_header 132 = .ok (.iconst 0, 1) := by decide +kernel
theorem d_MD_header_133 : decode b_MD_header 133 = .ok (.istore 12, 2) := by decide +kernel
theorem d_MD_header_135 : decode b_MD_header 135 = .ok (.iload 11, 2) := by decide +kernel
theorem d_MD_header_137 : decode b_MD_header 137 = .ok (.ifCond .eq 8, 3) := by decide +kernel
theorem d_MD_header_140 : decode b_MD_header 140 = .ok (.iload 12, 2) := by decide +kernel
theorem d_MD_header_142 : decode b_MD_header 142 = .ok (.ifCond .ne 5, 3) := by decide +kernel
theorem d_MD_header_145 : decode b_MD_header 145 = .ok (.iconst 0, 1) := by decide +kernel
theorem d_MD_header_146 : decode b_MD_header 146 = .ok (.ireturn, 1) := by decide +kernel
theorem d_MD_header_147 : decode b_MD_header 147 = .ok (.aload_n 0, 1) := by decide +kernel
theorem d_MD_header_148 : decode b_MD_header 148 = .ok (.getfield 21, 3) := by decide +kernel
theorem d_MD_header_151 : decode b_MD_header 151 = .ok (.aload_n 0, 1) := by decide +kernel
theorem d_MD_header_152 : decode b_MD_header 152 = .ok (.getfield 115, 3) := by decide +kernel
theorem d_MD_header_155 : decode b_MD_header 155 = .ok (.lload_n 3, 1) := by decide +kernel
theorem d_MD_header_156 : decode b_MD_header 156 = .ok (.l2i, 1) := by decide +kernel
theorem d_MD_header_157 : decode b_MD_header 157 = .ok (.iastore, 1) := by decide +kernel
theorem d_MD_header_158 : decode b_MD_header 158 = .ok (.aload_n 0, 1) := by decide +kernel
theorem d_MD_header_159 : decode b_MD_header 159 = .ok (.getfield 24, 3) := by decide +kernel
theorem d_MD_header_162 : decode b_MD_header 162 = .ok (.aload_n 0, 1) := by decide +kernel
theorem d_MD_header_163 : decode b_MD_header 163 = .ok (.getfield 115, 3) := by decide +kernel
theorem d_MD_header_166 : decode b_MD_header 166 = .ok (.lload 5, 2) := by decide +kernel
theorem d_MD_header_168 : decode b_MD_header 168 = .ok (.l2i, 1) := by decide +kernel
theorem d_MD_header_169 : decode b_MD_header 169 = .ok (.iastore, 1) := by decide +kernel
theorem d_MD_header_170 : decode b_MD_header 170 = .ok (.aload_n 0, 1) := by decide +kernel
theorem d_MD_header_171 : decode b_MD_header 171 = .ok (.getfield 27, 3) := by decide +kernel
theorem d_MD_header_174 : decode b_MD_header 174 = .ok (.aload_n 0, 1) := by decide +kernel
theorem d_MD_header_175 : decode b_MD_header 175 = .ok (.getfield 115, 3) := by decide +kernel
theorem d_MD_header_178 : decode b_MD_header 178 = .ok (.lload 7, 2) := by decide +kernel
theorem d_MD_header_180 : decode b_MD_header 180 = .ok (.l2i, 1) := by decide +kernel
theorem d_MD_header_181 : decode b_MD_header 181 = .ok (.iastore, 1) := by decide +kernel
theorem d_MD_header_182 : decode b_MD_header 182 = .ok (.aload_n 0, 1) := by decide +kernel
theorem d_MD_header_183 : decode b_MD_header 183 = .ok (.getfield 30, 3) := by decide +kernel
theorem d_MD_header_186 : decode b_MD_header 186 = .ok (.aload_n 0, 1) := by decide +kernel
theorem d_MD_header_187 : decode b_MD_header 187 = .ok (.getfield 115, 3) := by decide +kernel
theorem d_MD_header_190 : decode b_MD_header 190 = .ok (.lload 9, 2) := by decide +kernel
theorem d_MD_header_192 : decode b_MD_header 192 = .ok (.l2i, 1) := by decide +kernel
theorem d_MD_header_193 : decode b_MD_header 193 = .ok (.iastore, 1) := by decide +kernel
theorem d_MD_header_194 : decode b_MD_header 194 = .ok (.aload_n 0, 1) := by decide +kernel
theorem d_MD_header_195 : decode b_MD_header 195 = .ok (.lload_n 1, 1) := by decide +kernel
theorem d_MD_header_196 : decode b_MD_header 196 = .ok (.ldc2_w 118, 3) := by decide +kernel
theorem d_MD_header_199 : decode b_MD_header 199 = .ok (.ladd, 1) := by decide +kernel
theorem d_MD_header_200 : decode b_MD_header 200 = .ok (.iconst 4, 1) := by decide +kernel
theorem d_MD_header_201 : decode b_MD_header 201 = .ok (.invokevirtual 73, 3) := by decide +kernel
theorem d_MD_header_204 : decode b_MD_header 204 = .ok (.l2i, 1) := by decide +kernel
theorem d_MD_header_205 : decode b_MD_header 205 = .ok (.istore 13, 2) := by decide +kernel
theorem d_MD_header_207 : decode b_MD_header 207 = .ok (.aload_n 0, 1) := by decide +kernel
theorem d_MD_header_208 : decode b_MD_header 208 = .ok (.getfield 33, 3) := by decide +kernel
theorem d_MD_header_211 : decode b_MD_header 211 = .ok (.aload_n 0, 1) := by decide +kernel
theorem d_MD_header_212 : decode b_MD_header 212 = .ok (.getfield 115, 3) := by decide +kernel
theorem d_MD_header_215 : decode b_MD_header 215 = .ok (.bipush 8, 2) := by decide +kernel
theorem d_MD_header_217 : decode b_MD_header 217 = .ok (.iload 13, 2) := by decide +kernel
theorem d_MD_header_219 : decode b_MD_header 219 = .ok (.iconst 2, 1) := by decide +kernel
theorem d_MD_header_220 : decode b_MD_header 220 = .ok (.ishr, 1) := by decide +kernel
theorem d_MD_header_221 : decode b_MD_header 221 = .ok (.iconst 1, 1) := by decide +kernel
theorem d_MD_header_222 : decode b_MD_header 222 = .ok (.iand, 1) := by decide +kernel
theorem d_MD_header_223 : decode b_MD_header 223 = .ok (.iadd, 1) := by decide +kernel
theorem d_MD_header_224 : decode b_MD_header 224 = .ok (.iload 13, 2) := by decide +kernel
theorem d_MD_header_226 : decode b_MD_header 226 = .ok (.iconst 2, 1) := by decide +kernel
theorem d_MD_header_227 : decode b_MD_header 227 = .ok (.iand, 1) := by decide +kernel
theorem d_MD_header_228 : decode b_MD_header 228 = .ok (.iadd, 1) := by decide +kernel
theorem d_MD_header_229 : decode b_MD_header 229 = .ok (.iconst 4, 1) := by decide +kernel
theorem d_MD_header_230 : decode b_MD_header 230 = .ok (.iload 13, 2) := by decide +kernel
theorem d_MD_header_232 : decode b_MD_header 232 = .ok (.iconst 1, 1) := by decide +kernel
theorem d_MD_header_233 : decode b_MD_header 233 = .ok (.iand, 1) := by decide +kernel
theorem d_MD_header_234 : decode b_MD_header 234 = .ok (.imul, 1) := by decide +kernel
theorem d_MD_header_235 : decode b_MD_header 235 = .ok (.iadd, 1) := by decide +kernel
theorem d_MD_header_236 : decode b_MD_header 236 = .ok (.iastore, 1) := by decide +kernel
theorem d_MD_header_237 : decode b_MD_header 237 = .ok (.aload_n 0, 1) := by decide +kernel
theorem d_MD_header_238 : decode b_MD_header 238 = .ok (.dup, 1) := by decide +kernel
theorem d_MD_header_239 : decode b_MD_header 239 = .ok (.getfield 115, 3) := by decide +kernel
theorem d_MD_header_242 : decode b_MD_header 242 = .ok (.iconst 1, 1) := by decide +kernel
theorem d_MD_header_243 : decode b_MD_header 243 = .ok (.iadd, 1) := by decide +kernel
theorem d_MD_header_244 : decode b_MD_header 244 = .ok (.putfield 115, 3) := by decide +kernel
theorem d_MD_header_247 : decode b_MD_header 247 = .ok (.aload_n 0, 1) := by decide +kernel
theorem d_MD_header_248 : decode b_MD_header 248 = .ok (.lload 5, 2) := by decide +kernel
theorem d_MD_header_250 : decode b_MD_header 250 = .ok (.lload 9, 2) := by decide +kernel
theorem d_MD_header_252 : decode b_MD_header 252 = .ok (.ladd, 1) := by decide +kernel
theorem d_MD_header_253 : decode b_MD_header 253 = .ok (.invokestatic 120, 3) := by decide +kernel
theorem d_MD_header_256 : decode b_MD_header 256 = .ok (.putfield 109, 3) := by decide +kernel
theorem d_MD_header_259 : decode b_MD_header 259 = .ok (.iconst 1, 1) := by decide +kernel
theorem d_MD_header_260 : decode b_MD_header 260 = .ok (.ireturn, 1) := by decide +kernel
theorem d_MD_wanted_0 : decode b_MD_wanted 0 = .ok (.ldc2_w 87, 3) := by decide +kernel
theorem d_MD_wanted_3 : decode b_MD_wanted 3 = .ok (.lstore_n 1, 1) := by decide +kernel
theorem d_MD_wanted_4 : decode b_MD_wanted 4 = .ok (.iconst 0, 1) := by decide +kernel
theorem d_MD_wanted_5 : decode b_MD_wanted 5 = .ok (.istore_n 3, 1) := by decide +kernel
theorem d_MD_wanted_6 : decode b_MD_wanted 6 = .ok (.iload_n 3, 1) := by decide +kernel
theorem d_MD_wanted_7 : decode b_MD_wanted 7 = .ok (.aload_n 0, 1) := by decide +kernel
theorem d_MD_wanted_8 : decode b_MD_wanted 8 = .ok (.getfield 115, 3) := by decide +kernel
theorem d_MD_wanted_11 : decode b_MD_wanted 11 = .ok (.if_icmp .ge 26, 3) := by decide +kernel
theorem d_MD_wanted_14 : decode b_MD_wanted 14 = .ok (.lload_n 1, 1) := by decide +kernel
theorem d_MD_wanted_15 : decode b_MD_wanted 15 = .ok (.aload_n 0, 1) := by decide +kernel
theorem d_MD_wanted_16 : decode b_MD_wanted 16 = .ok (.getfield 30, 3) := by decide +kernel
theorem d_MD_wanted_19 : decode b_MD_wanted 19 = .ok (.iload_n 3, 1) := by decide +kernel
theorem d_MD_wanted_20 : decode b_MD_wanted 20 = .ok (.iaload, 1) := by decide +kernel
theorem d_MD_wanted_21 : decode b_MD_wanted 21 = .ok (.i2l, 1) := by decide +kernel
theorem d_MD_wanted_22 : decode b_MD_wanted 22 = .ok (.invokestatic 120, 3) := by decide +kernel
theorem d_MD_wanted_25 : decode b_MD_wanted 25 = .ok (.ldc2_w 105, 3) := by decide +kernel
theorem d_MD_wanted_28 : decode b_MD_wanted 28 = .ok (.ldiv, 1) := by decide +kernel
theorem d_MD_wanted_29 : decode b_MD_wanted 29 = .ok (.ladd, 1) := by decide +kernel
theorem d_MD_wanted_30 : decode b_MD_wanted 30 = .ok (.lstore_n 1, 1) := by decide +kernel
theorem d_MD_wanted_31 : decode b_MD_wanted 31 = .ok (.iinc 3 1, 3) := by decide +kernel
theorem d_MD_wanted_34 : decode b_MD_wanted 34 = .ok (.goto (-28), 3) := by decide +kernel
theorem d_MD_wanted_37 : decode b_MD_wanted 37 = .ok (.lload_n 1, 1) := by decide +kernel
theorem d_MD_wanted_38 : decode b_MD_wanted 38 = .ok (.l2i, 1) := by decide +kernel
theorem d_MD_wanted_39 : decode b_MD_wanted 39 = .ok (.ireturn, 1) := by decide +kernel
