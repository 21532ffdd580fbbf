theorem d_LW_155 : decode code 155 = .ok (.invokevirtual 17, 3) := by decide +kernel
theorem d_LW_158 : decode code 158 = .ok (.if_icmp .eq 299, 3) := by decide +kernel
theorem d_LW_161 : decode code 161 = .ok (.iconst 0, 1) := by decide +kernel
theorem d_LW_162 : decode code 162 = .ok (.ireturn, 1) := by decide +kernel
theorem d_LW_163 : decode code 163 = .ok (.aload_n 1, 1) := by decide +kernel
theorem d_LW_164 : decode code 164 = .ok (.aload_n 0, 1) := by decide +kernel
theorem d_LW_165 : decode code 165 = .ok (.iload_n 3, 1) := by decide +kernel
theorem d_LW_166 : decode code 166 = .ok (.iconst 1, 1) := by decide +kernel
theorem d_LW_167 : decode code 167 = .ok (.iadd, 1) := by decide +kernel
theorem d_LW_168 : decode code 168 = .ok (.iaload, 1) := by decide +kernel
theorem d_LW_169 : decode code 169 = .ok (.invokevirtual 18, 3) := by decide +kernel
theorem d_LW_172 : decode code 172 = .ok (.aload_n 2, 1) := by decide +kernel
theorem d_LW_173 : decode code 173 = .ok (.aload_n 0, 1) := by decide +kernel
theorem d_LW_174 : decode code 174 = .ok (.iload_n 3, 1) := by decide +kernel
theorem d_LW_175 : decode code 175 = .ok (.iconst 1, 1) := by decide +kernel
theorem d_LW_176 : decode code 176 = .ok (.iadd, 1) := by decide +kernel
theorem d_LW_177 : decode code 177 = .ok (.iaload, 1) := by decide +kernel
theorem d_LW_178 : decode code 178 = .ok (.invokevirtual 22, 3) := by decide +kernel
theorem d_LW_181 : decode code 181 = .ok (.if_icmp .eq 276, 3) := by decide +kernel
theorem d_LW_184 : decode code 184 = .ok (.iconst 0, 1) := by decide +kernel
theorem d_LW_185 : decode code 185 = .ok (.ireturn, 1) := by decide +kernel
theorem d_LW_186 : decode code 186 = .ok (.aload_n 1, 1) := by decide +kernel
theorem d_LW_187 : decode code 187 = .ok (.aload_n 0, 1) := by decide +kernel
theorem d_LW_188 : decode code 188 = .ok (.iload_n 3, 1) := by decide +kernel
theorem d_LW_189 : decode code 189 = .ok (.iconst 1, 1) := by decide +kernel
theorem d_LW_190 : decode code 190 = .ok (.iadd, 1) := by decide +kernel
theorem d_LW_191 : decode code 191 = .ok (.iaload, 1) := by decide +kernel
theorem d_LW_192 : decode code 192 = .ok (.aload_n 0, 1) := by decide +kernel
theorem d_LW_193 : decode code 193 = .ok (.iload_n 3, 1) := by decide +kernel
theorem d_LW_194 : decode code 194 = .ok (.iconst 2, 1) := by decide +kernel
theorem d_LW_195 : decode code 195 = .ok (.iadd, 1) := by decide +kernel
theorem d_LW_196 : decode code 196 = .ok (.iaload, 1) := by decide +kernel
theorem d_LW_197 : decode code 197 = .ok (.invokevirtual 23, 3) := by decide +kernel
theorem d_LW_200 : decode code 200 = .ok (.aload_n 2, 1) := by decide +kernel
theorem d_LW_201 : decode code 201 = .ok (.aload_n 0, 1) := by decide +kernel
theorem d_LW_202 : decode code 202 = .ok (.iload_n 3, 1) := by decide +kernel
theorem d_LW_203 : decode code 203 = .ok (.iconst 1, 1) := by decide +kernel
theorem d_LW_204 : decode code 204 = .ok (.iadd, 1) := by decide +kernel
theorem d_LW_205 : decode code 205 = .ok (.iaload, 1) := by decide +kernel
theorem d_LW_206 : decode code 206 = .ok (.aload_n 0, 1) := by decide +kernel
theorem d_LW_207 : decode code 207 = .ok (.iload_n 3, 1) := by decide +kernel
theorem d_LW_208 : decode code 208 = .ok (.iconst 2, 1) := by decide +kernel
theorem d_LW_209 : decode code 209 = .ok (.iadd, 1) := by decide +kernel
theorem d_LW_210 : decode code 210 = .ok (.iaload, 1) := by decide +kernel
theorem d_LW_211 : decode code 211 = .ok (.invokevirtual 27, 3) := by decide +kernel
theorem d_LW_214 : decode code 214 = .ok (.if_icmp .eq 243, 3) := by decide +kernel
theorem d_LW_217 : decode code 217 = .ok (.iconst 0, 1) := by decide +kernel
theorem d_LW_218 : decode code 218 = .ok (.ireturn, 1) := by decide +kernel
theorem d_LW_219 : decode code 219 = .ok (.aload_n 1, 1) := by decide +kernel
theorem d_LW_220 : decode code 220 = .ok (.aload_n 0, 1) := by decide +kernel
theorem d_LW_221 : decode code 221 = .ok (.iload_n 3, 1) := by decide +kernel
theorem d_LW_222 : decode code 222 = .ok (.iconst 1, 1) := by decide +kernel
theorem d_LW_223 : decode code 223 = .ok (.iadd, 1) := by decide +kernel
theorem d_LW_224 : decode code 224 = .ok (.iaload, 1) := by decide +kernel
theorem d_LW_225 : decode code 225 = .ok (.aload_n 0, 1) := by decide +kernel
theorem d_LW_226 : decode code 226 = .ok (.iload_n 3, 1) := by decide +kernel
theorem d_LW_227 : decode code 227 = .ok (.iconst 2, 1) := by decide +kernel
theorem d_LW_228 : decode code 228 = .ok (.iadd, 1) := by decide +kernel
theorem d_LW_229 : decode code 229 = .ok (.iaload, 1) := by decide +kernel
theorem d_LW_230 : decode code 230 = .ok (.aload_n 0, 1) := by decide +kernel
theorem d_LW_231 : decode code 231 = .ok (.iload_n 3, 1) := by decide +kernel
theorem d_LW_232 : decode code 232 = .ok (.iconst 3, 1) := by decide +kernel
theorem d_LW_233 : decode code 233 = .ok (.iadd, 1) := by decide +kernel
theorem d_LW_234 : decode code 234 = .ok (.iaload, 1) := by decide +kernel
theorem d_LW_235 : decode code 235 = .ok (.invokevirtual 28, 3) := by decide +kernel
theorem d_LW_238 : decode code 238 = .ok (.aload_n 2, 1) := by decide +kernel
theorem d_LW_239 : decode code 239 = .ok (.aload_n 0, 1) := by decide +kernel
theorem d_LW_240 : decode code 240 = .ok (.iload_n 3, 1) := by decide +kernel
theorem d_LW_241 : decode code 241 = .ok (.iconst 1, 1) := by decide +kernel
theorem d_LW_242 : decode code 242 = .ok (.iadd, 1) := by decide +kernel
theorem d_LW_243 : decode code 243 = .ok (.iaload, 1) := by decide +kernel
theorem d_LW_244 : decode code 244 = .ok (.aload_n 0, 1) := by decide +kernel
theorem d_LW_245 : decode code 245 = .ok (.iload_n 3, 1) := by decide +kernel
theorem d_LW_246 : decode code 246 = .ok (.iconst 2, 1) := by decide +kernel
theorem d_LW_247 : decode code 247 = .ok (.iadd, 1) := by decide +kernel
