theorem d_MD_load_0 : decode b_MD_load 0 = .ok (.aload_n 0, 1) := by decide +kernel
theorem d_MD_load_1 : decode b_MD_load 1 = .ok (.iconst 0, 1) := by decide +kernel
theorem d_MD_load_2 : decode b_MD_load 2 = .ok (.putfield 60, 3) := by decide +kernel
theorem d_MD_load_5 : decode b_MD_load 5 = .ok (.aload_n 0, 1) := by decide +kernel
theorem d_MD_load_6 : decode b_MD_load 6 = .ok (.aload_n 0, 1) := by decide +kernel
theorem d_MD_load_7 : decode b_MD_load 7 = .ok (.iload_n 1, 1) := by decide +kernel
theorem d_MD_load_8 : decode b_MD_load 8 = .ok (.bipush 32, 2) := by decide +kernel
theorem d_MD_load_10 : decode b_MD_load 10 = .ok (.if_icmp .le 8, 3) := by decide +kernel
theorem d_MD_load_13 : decode b_MD_load 13 = .ok (.bipush 32, 2) := by decide +kernel
theorem d_MD_load_15 : decode b_MD_load 15 = .ok (.goto 4, 3) := by decide +kernel
theorem d_MD_load_18 : decode b_MD_load 18 = .ok (.iload_n 1, 1) := by decide +kernel
theorem d_MD_load_19 : decode b_MD_load 19 = .ok (.invokevirtual 141, 3) := by decide +kernel
theorem d_MD_load_22 : decode b_MD_load 22 = .ok (.putfield 145, 3) := by decide +kernel
theorem d_MD_load_25 : decode b_MD_load 25 = .ok (.aload_n 0, 1) := by decide +kernel
theorem d_MD_load_26 : decode b_MD_load 26 = .ok (.getfield 145, 3) := by decide +kernel
theorem d_MD_load_29 : decode b_MD_load 29 = .ok (.ifCond .ne 19, 3) := by decide +kernel
theorem d_MD_load_32 : decode b_MD_load 32 = .ok (.aload_n 0, 1) := by decide +kernel
theorem d_MD_load_33 : decode b_MD_load 33 = .ok (.aload_n 0, 1) := by decide +kernel
theorem d_MD_load_34 : decode b_MD_load 34 = .ok (.getfield 109, 3) := by decide +kernel
theorem d_MD_load_37 : decode b_MD_load 37 = .ok (.l2i, 1) := by decide +kernel
theorem d_MD_load_38 : decode b_MD_load 38 = .ok (.sipush 8192, 3) := by decide +kernel
theorem d_MD_load_41 : decode b_MD_load 41 = .ok (.iadd, 1) := by decide +kernel
theorem d_MD_load_42 : decode b_MD_load 42 = .ok (.invokevirtual 148, 3) := by decide +kernel
theorem d_MD_load_45 : decode b_MD_load 45 = .ok (.goto 4, 3) := by decide +kernel
theorem d_MD_load_48 : decode b_MD_load 48 = .ok (.iconst 0, 1) := by decide +kernel
theorem d_MD_load_49 : decode b_MD_load 49 = .ok (.istore_n 2, 1) := by decide +kernel
theorem d_MD_load_50 : decode b_MD_load 50 = .ok (.aload_n 0, 1) := by decide +kernel
theorem d_MD_load_51 : decode b_MD_load 51 = .ok (.aload_n 0, 1) := by decide +kernel
theorem d_MD_load_52 : decode b_MD_load 52 = .ok (.getfield 145, 3) := by decide +kernel
theorem d_MD_load_55 : decode b_MD_load 55 = .ok (.ifCond .ne 12, 3) := by decide +kernel
theorem d_MD_load_58 : decode b_MD_load 58 = .ok (.iload_n 2, 1) := by decide +kernel
theorem d_MD_load_59 : decode b_MD_load 59 = .ok (.ifCond .ge 8, 3) := by decide +kernel
theorem d_MD_load_62 : decode b_MD_load 62 = .ok (.bipush 6, 2) := by decide +kernel
theorem d_MD_load_64 : decode b_MD_load 64 = .ok (.goto 7, 3) := by decide +kernel
theorem d_MD_load_67 : decode b_MD_load 67 = .ok (.aload_n 0, 1) := by decide +kernel
theorem d_MD_load_68 : decode b_MD_load 68 = .ok (.getfield 145, 3) := by decide +kernel
theorem d_MD_load_71 : decode b_MD_load 71 = .ok (.putfield 145, 3) := by decide +kernel
theorem d_MD_load_74 : decode b_MD_load 74 = .ok (.aload_n 0, 1) := by decide +kernel
theorem d_MD_load_75 : decode b_MD_load 75 = .ok (.getfield 145, 3) := by decide +kernel
theorem d_MD_load_78 : decode b_MD_load 78 = .ok (.ifCond .le 5, 3) := by decide +kernel
theorem d_MD_load_81 : decode b_MD_load 81 = .ok (.iconst (-1), 1) := by decide +kernel
theorem d_MD_load_82 : decode b_MD_load 82 = .ok (.ireturn, 1) := by decide +kernel
theorem d_MD_load_83 : decode b_MD_load 83 = .ok (.aload_n 0, 1) := by decide +kernel
theorem d_MD_load_84 : decode b_MD_load 84 = .ok (.aload_n 0, 1) := by decide +kernel
theorem d_MD_load_85 : decode b_MD_load 85 = .ok (.ldc2_w 118, 3) := by decide +kernel
theorem d_MD_load_88 : decode b_MD_load 88 = .ok (.iconst 4, 1) := by decide +kernel
theorem d_MD_load_89 : decode b_MD_load 89 = .ok (.invokevirtual 73, 3) := by decide +kernel
theorem d_MD_load_92 : decode b_MD_load 92 = .ok (.l2i, 1) := by decide +kernel
theorem d_MD_load_93 : decode b_MD_load 93 = .ok (.putfield 151, 3) := by decide +kernel
theorem d_MD_load_96 : decode b_MD_load 96 = .ok (.aload_n 0, 1) := by decide +kernel
theorem d_MD_load_97 : decode b_MD_load 97 = .ok (.iload_n 2, 1) := by decide +kernel
theorem d_MD_load_98 : decode b_MD_load 98 = .ok (.putfield 154, 3) := by decide +kernel
theorem d_MD_load_101 : decode b_MD_load 101 = .ok (.aload_n 0, 1) := by decide +kernel
theorem d_MD_load_102 : decode b_MD_load 102 = .ok (.aload_n 0, 1) := by decide +kernel
theorem d_MD_load_103 : decode b_MD_load 103 = .ok (.getfield 109, 3) := by decide +kernel
theorem d_MD_load_106 : decode b_MD_load 106 = .ok (.l2i, 1) := by decide +kernel
theorem d_MD_load_107 : decode b_MD_load 107 = .ok (.sipush 8192, 3) := by decide +kernel
theorem d_MD_load_110 : decode b_MD_load 110 = .ok (.iadd, 1) := by decide +kernel
theorem d_MD_load_111 : decode b_MD_load 111 = .ok (.putfield 157, 3) := by decide +kernel
theorem d_MD_load_114 : decode b_MD_load 114 = .ok (.aload_n 0, 1) := by decide +kernel
theorem d_MD_load_115 : decode b_MD_load 115 = .ok (.aload_n 0, 1) := by decide +kernel
theorem d_MD_load_116 : decode b_MD_load 116 = .ok (.getfield 68, 3) := by decide +kernel
theorem d_MD_load_119 : decode b_MD_load 119 = .ok (.putfield 160, 3) := by decide +kernel
theorem d_MD_load_122 : decode b_MD_load 122 = .ok (.aload_n 0, 1) := by decide +kernel
theorem d_MD_load_123 : decode b_MD_load 123 = .ok (.aload_n 0, 1) := by decide +kernel
theorem d_MD_load_124 : decode b_MD_load 124 = .ok (.invokevirtual 137, 3) := by decide +kernel
theorem d_MD_load_127 : decode b_MD_load 127 = .ok (.putfield 163, 3) := by decide +kernel
theorem d_MD_load_130 : decode b_MD_load 130 = .ok (.aload_n 0, 1) := by decide +kernel
theorem d_MD_load_131 : decode b_MD_load 131 = .ok (.aload_n 0, 1) := by decide +kernel
theorem d_MD_load_132 : decode b_MD_load 132 = .ok (.getfield 115, 3) := by decide +kernel
theorem d_MD_load_135 : decode b_MD_load 135 = .ok (.putfield 166, 3) := by decide +kernel
theorem d_MD_load_138 : decode b_MD_load 138 = .ok (.iconst 0, 1) := by decide +kernel
theorem d_MD_load_139 : decode b_MD_load 139 = .ok (.istore_n 3, 1) := by decide +kernel
theorem d_MD_load_140 : decode b_MD_load 140 = .ok (.iload_n 3, 1) := by decide +kernel
theorem d_MD_load_141 : decode b_MD_load 141 = .ok (.aload_n 0, 1) := by decide +kernel
theorem d_MD_load_142 : decode b_MD_load 142 = .ok (.getfield 64, 3) := by decide +kernel
theorem d_MD_load_145 : decode b_MD_load 145 = .ok (.if_icmp .ge 21, 3) := by decide +kernel
theorem d_MD_load_148 : decode b_MD_load 148 = .ok (.aload_n 0, 1) := by decide +kernel
theorem d_MD_load_149 : decode b_MD_load 149 = .ok (.getfield 39, 3) := by decide +kernel
theorem d_MD_load_152 : decode b_MD_load 152 = .ok (.iload_n 3, 1) := by decide +kernel
theorem d_MD_load_153 : decode b_MD_load 153 = .ok (.aload_n 0, 1) := by decide +kernel
theorem d_MD_load_154 : decode b_MD_load 154 = .ok (.getfield 8, 3) := by decide +kernel
theorem d_MD_load_157 : decode b_MD_load 157 = .ok (.iload_n 3, 1) := by decide +kernel
theorem d_MD_load_158 : decode b_MD_load 158 = .ok (.baload, 1) := by decide +kernel
theorem d_MD_load_159 : decode b_MD_load 159 = .ok (.bastore, 1) := by decide +kernel
theorem d_MD_load_160 : decode b_MD_load 160 = .ok (.iinc 3 1, 3) := by decide +kernel
theorem d_MD_load_163 : decode b_MD_load 163 = .ok (.goto (-23), 3) := by decide +kernel
theorem d_MD_load_166 : decode b_MD_load 166 = .ok (.iconst 0, 1) := by decide +kernel
theorem d_MD_load_167 : decode b_MD_load 167 = .ok (.istore_n 3, 1) := by decide +kernel
theorem d_MD_load_168 : decode b_MD_load 168 = .ok (.iload_n 3, 1) := by decide +kernel
theorem d_MD_load_169 : decode b_MD_load 169 = .ok (.aload_n 0, 1) := by decide +kernel
theorem d_MD_load_170 : decode b_MD_load 170 = .ok (.getfield 115, 3) := by decide +kernel
theorem d_MD_load_173 : decode b_MD_load 173 = .ok (.if_icmp .ge 69, 3) := by decide +kernel
theorem d_MD_load_176 : decode b_MD_load 176 = .ok (.aload_n 0, 1) := by decide +kernel
theorem d_MD_load_177 : decode b_MD_load 177 = .ok (.getfield 42, 3) := by decide +kernel
theorem d_MD_load_180 : decode b_MD_load 180 = .ok (.iload_n 3, 1) := by decide +kernel
theorem d_MD_load_181 : decode b_MD_load 181 = .ok (.aload_n 0, 1) := by decide +kernel
theorem d_MD_load_182 : decode b_MD_load 182 = .ok (.getfield 21, 3) := by decide +kernel
theorem d_MD_load_185 : decode b_MD_load 185 = .ok (.iload_n 3, 1) := by decide +kernel
theorem d_MD_load_186 : decode b_MD_load 186 = .ok (.iaload, 1) := by decide +kernel
theorem d_MD_load_187 : decode b_MD_load 187 = .ok (.iastore, 1) := by decide +kernel
theorem d_MD_load_188 : decode b_MD_load 188 = .ok (.aload_n 0, 1) := by decide +kernel
theorem d_MD_load_189 : decode b_MD_load 189 = .ok (.getfield 45, 3) := by decide +kernel
theorem d_MD_load_192 : decode b_MD_load 192 = .ok (.iload_n 3, 1) := by decide +kernel
theorem d_MD_load_193 : decode b_MD_load 193 = .ok (.aload_n 0, 1) := by decide +kernel
theorem d_MD_load_194 : decode b_MD_load 194 = .ok (.getfield 24, 3) := by decide +kernel
theorem d_MD_load_197 : decode b_MD_load 197 = .ok (.iload_n 3, 1) := by decide +kernel
theorem d_MD_load_198 : decode b_MD_load 198 = .ok (.iaload, 1) := by decide +kernel
theorem d_MD_load_199 : decode b_MD_load 199 = .ok (.iastore, 1) := by decide +kernel
theorem d_MD_load_200 : decode b_MD_load 200 = .ok (.aload_n 0, 1) := by decide +kernel
theorem d_MD_load_201 : decode b_MD_load 201 = .ok (.getfield 48, 3) := by decide +kernel
theorem d_MD_load_204 : decode b_MD_load 204 = .ok (.iload_n 3, 1) := by decide +kernel
theorem d_MD_load_205 : decode b_MD_load 205 = .ok (.aload_n 0, 1) := by decide +kernel
theorem d_MD_load_206 : decode b_MD_load 206 = .ok (.getfield 27, 3) := by decide +kernel
theorem d_MD_load_209 : decode b_MD_load 209 = .ok (.iload_n 3, 1) := by decide +kernel
theorem d_MD_load_210 : decode b_MD_load 210 = .ok (.iaload, 1) := by decide +kernel
theorem d_MD_load_211 : decode b_MD_load 211 = .ok (.iastore, 1) := by decide +kernel
theorem d_MD_load_212 : decode b_MD_load 212 = .ok (.aload_n 0, 1) := by decide +kernel
theorem d_MD_load_213 : decode b_MD_load 213 = .ok (.getfield 51, 3) := by decide +kernel
theorem d_MD_load_216 : decode b_MD_load 216 = .ok (.iload_n 3, 1) := by decide +kernel
theorem d_MD_load_217 : decode b_MD_load 217 = .ok (.aload_n 0, 1) := by decide +kernel
theorem d_MD_load_218 : decode b_MD_load 218 = .ok (.getfield 30, 3) := by decide +kernel
theorem d_MD_load_221 : decode b_MD_load 221 = .ok (.iload_n 3, 1) := by decide +kernel
theorem d_MD_load_222 : decode b_MD_load 222 = .ok (.iaload, 1) := by decide +kernel
theorem d_MD_load_223 : decode b_MD_load 223 = .ok (.iastore, 1) := by decide +kernel
theorem d_MD_load_224 : decode b_MD_load 224 = .ok (.aload_n 0, 1) := by decide +kernel
theorem d_MD_load_225 : decode b_MD_load 225 = .ok (.getfield 54, 3) := by decide +kernel
theorem d_MD_load_228 : decode b_MD_load 228 = .ok (.iload_n 3, 1) := by decide +kernel
theorem d_MD_load_229 : decode b_MD_load 229 = .ok (.aload_n 0, 1) := by decide +kernel
theorem d_MD_load_230 : decode b_MD_load 230 = .ok (.getfield 33, 3) := by decide +kernel
theorem d_MD_load_233 : decode b_MD_load 233 = .ok (.iload_n 3, 1) := by decide +kernel
theorem d_MD_load_234 : decode b_MD_load 234 = .ok (.iaload, 1) := by decide +kernel
theorem d_MD_load_235 : decode b_MD_load 235 = .ok (.iastore, 1) := by decide +kernel
theorem d_MD_load_236 : decode b_MD_load 236 = .ok (.iinc 3 1, 3) := by decide +kernel
theorem d_MD_load_239 : decode b_MD_load 239 = .ok (.goto (-71), 3) := by decide +kernel
theorem d_MD_load_242 : decode b_MD_load 242 = .ok (.iconst 0, 1) := by decide +kernel
theorem d_MD_load_243 : decode b_MD_load 243 = .ok (.istore_n 3, 1) := by decide +kernel
theorem d_MD_load_244 : decode b_MD_load 244 = .ok (.iload_n 3, 1) := by decide +kernel
theorem d_MD_load_245 : decode b_MD_load 245 = .ok (.sipush 4096, 3) := by decide +kernel
theorem d_MD_load_248 : decode b_MD_load 248 = .ok (.if_icmp .ge 21, 3) := by decide +kernel
theorem d_MD_load_251 : decode b_MD_load 251 = .ok (.aload_n 0, 1) := by decide +kernel
theorem d_MD_load_252 : decode b_MD_load 252 = .ok (.getfield 57, 3) := by decide +kernel
theorem d_MD_load_255 : decode b_MD_load 255 = .ok (.iload_n 3, 1) := by decide +kernel
theorem d_MD_load_256 : decode b_MD_load 256 = .ok (.aload_n 0, 1) := by decide +kernel
theorem d_MD_load_257 : decode b_MD_load 257 = .ok (.getfield 36, 3) := by decide +kernel
theorem d_MD_load_260 : decode b_MD_load 260 = .ok (.iload_n 3, 1) := by decide +kernel
theorem d_MD_load_261 : decode b_MD_load 261 = .ok (.baload, 1) := by decide +kernel
theorem d_MD_load_262 : decode b_MD_load 262 = .ok (.bastore, 1) := by decide +kernel
theorem d_MD_load_263 : decode b_MD_load 263 = .ok (.iinc 3 1, 3) := by decide +kernel
theorem d_MD_load_266 : decode b_MD_load 266 = .ok (.goto (-22), 3) := by decide +kernel
theorem d_MD_load_269 : decode b_MD_load 269 = .ok (.aload_n 0, 1) := by decide +kernel
theorem d_MD_load_270 : decode b_MD_load 270 = .ok (.getfield 163, 3) := by decide +kernel
theorem d_MD_load_273 : decode b_MD_load 273 = .ok (.ireturn, 1) := by decide +kernel
