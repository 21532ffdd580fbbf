theorem d_LW_248 : decode code 248 = .ok (.iaload, 1) := by decide +kernel
theorem d_LW_249 : decode code 249 = .ok (.aload_n 0, 1) := by decide +kernel
theorem d_LW_250 : decode code 250 = .ok (.iload_n 3, 1) := by decide +kernel
theorem d_LW_251 : decode code 251 = .ok (.iconst 3, 1) := by decide +kernel
theorem d_LW_252 : decode code 252 = .ok (.iadd, 1) := by decide +kernel
theorem d_LW_253 : decode code 253 = .ok (.iaload, 1) := by decide +kernel
theorem d_LW_254 : decode code 254 = .ok (.invokevirtual 32, 3) := by decide +kernel
theorem d_LW_257 : decode code 257 = .ok (.if_icmp .eq 200, 3) := by decide +kernel
theorem d_LW_260 : decode code 260 = .ok (.iconst 0, 1) := by decide +kernel
theorem d_LW_261 : decode code 261 = .ok (.ireturn, 1) := by decide +kernel
theorem d_LW_262 : decode code 262 = .ok (.aload_n 1, 1) := by decide +kernel
theorem d_LW_263 : decode code 263 = .ok (.invokevirtual 33, 3) := by decide +kernel
theorem d_LW_266 : decode code 266 = .ok (.aload_n 2, 1) := by decide +kernel
theorem d_LW_267 : decode code 267 = .ok (.invokevirtual 37, 3) := by decide +kernel
theorem d_LW_270 : decode code 270 = .ok (.if_icmp .eq 187, 3) := by decide +kernel
theorem d_LW_273 : decode code 273 = .ok (.iconst 0, 1) := by decide +kernel
theorem d_LW_274 : decode code 274 = .ok (.ireturn, 1) := by decide +kernel
theorem d_LW_275 : decode code 275 = .ok (.aload_n 1, 1) := by decide +kernel
theorem d_LW_276 : decode code 276 = .ok (.invokevirtual 38, 3) := by decide +kernel
theorem d_LW_279 : decode code 279 = .ok (.aload_n 2, 1) := by decide +kernel
theorem d_LW_280 : decode code 280 = .ok (.invokevirtual 42, 3) := by decide +kernel
theorem d_LW_283 : decode code 283 = .ok (.if_icmp .eq 174, 3) := by decide +kernel
theorem d_LW_286 : decode code 286 = .ok (.iconst 0, 1) := by decide +kernel
theorem d_LW_287 : decode code 287 = .ok (.ireturn, 1) := by decide +kernel
theorem d_LW_288 : decode code 288 = .ok (.aload_n 1, 1) := by decide +kernel
theorem d_LW_289 : decode code 289 = .ok (.aload_n 0, 1) := by decide +kernel
theorem d_LW_290 : decode code 290 = .ok (.iload_n 3, 1) := by decide +kernel
theorem d_LW_291 : decode code 291 = .ok (.iconst 1, 1) := by decide +kernel
theorem d_LW_292 : decode code 292 = .ok (.iadd, 1) := by decide +kernel
theorem d_LW_293 : decode code 293 = .ok (.iaload, 1) := by decide +kernel
theorem d_LW_294 : decode code 294 = .ok (.i2l, 1) := by decide +kernel
theorem d_LW_295 : decode code 295 = .ok (.bipush 32, 2) := by decide +kernel
theorem d_LW_297 : decode code 297 = .ok (.lshl, 1) := by decide +kernel
theorem d_LW_298 : decode code 298 = .ok (.aload_n 0, 1) := by decide +kernel
theorem d_LW_299 : decode code 299 = .ok (.iload_n 3, 1) := by decide +kernel
theorem d_LW_300 : decode code 300 = .ok (.iconst 2, 1) := by decide +kernel
theorem d_LW_301 : decode code 301 = .ok (.iadd, 1) := by decide +kernel
theorem d_LW_302 : decode code 302 = .ok (.iaload, 1) := by decide +kernel
theorem d_LW_303 : decode code 303 = .ok (.i2l, 1) := by decide +kernel
theorem d_LW_304 : decode code 304 = .ok (.ldc2_w 43, 3) := by decide +kernel
theorem d_LW_307 : decode code 307 = .ok (.land, 1) := by decide +kernel
theorem d_LW_308 : decode code 308 = .ok (.lor, 1) := by decide +kernel
theorem d_LW_309 : decode code 309 = .ok (.invokevirtual 45, 3) := by decide +kernel
theorem d_LW_312 : decode code 312 = .ok (.aload_n 2, 1) := by decide +kernel
theorem d_LW_313 : decode code 313 = .ok (.aload_n 0, 1) := by decide +kernel
theorem d_LW_314 : decode code 314 = .ok (.iload_n 3, 1) := by decide +kernel
theorem d_LW_315 : decode code 315 = .ok (.iconst 1, 1) := by decide +kernel
theorem d_LW_316 : decode code 316 = .ok (.iadd, 1) := by decide +kernel
theorem d_LW_317 : decode code 317 = .ok (.iaload, 1) := by decide +kernel
theorem d_LW_318 : decode code 318 = .ok (.i2l, 1) := by decide +kernel
theorem d_LW_319 : decode code 319 = .ok (.bipush 32, 2) := by decide +kernel
theorem d_LW_321 : decode code 321 = .ok (.lshl, 1) := by decide +kernel
theorem d_LW_322 : decode code 322 = .ok (.aload_n 0, 1) := by decide +kernel
theorem d_LW_323 : decode code 323 = .ok (.iload_n 3, 1) := by decide +kernel
theorem d_LW_324 : decode code 324 = .ok (.iconst 2, 1) := by decide +kernel
theorem d_LW_325 : decode code 325 = .ok (.iadd, 1) := by decide +kernel
theorem d_LW_326 : decode code 326 = .ok (.iaload, 1) := by decide +kernel
theorem d_LW_327 : decode code 327 = .ok (.i2l, 1) := by decide +kernel
theorem d_LW_328 : decode code 328 = .ok (.ldc2_w 43, 3) := by decide +kernel
theorem d_LW_331 : decode code 331 = .ok (.land, 1) := by decide +kernel
theorem d_LW_332 : decode code 332 = .ok (.lor, 1) := by decide +kernel
theorem d_LW_333 : decode code 333 = .ok (.invokevirtual 49, 3) := by decide +kernel
theorem d_LW_336 : decode code 336 = .ok (.if_icmp .eq 121, 3) := by decide +kernel
theorem d_LW_339 : decode code 339 = .ok (.iconst 0, 1) := by decide +kernel
theorem d_LW_340 : decode code 340 = .ok (.ireturn, 1) := by decide +kernel
theorem d_LW_341 : decode code 341 = .ok (.aload_n 1, 1) := by decide +kernel
theorem d_LW_342 : decode code 342 = .ok (.invokevirtual 50, 3) := by decide +kernel
theorem d_LW_345 : decode code 345 = .ok (.aload_n 2, 1) := by decide +kernel
theorem d_LW_346 : decode code 346 = .ok (.invokevirtual 53, 3) := by decide +kernel
theorem d_LW_349 : decode code 349 = .ok (.goto 108, 3) := by decide +kernel
theorem d_LW_352 : decode code 352 = .ok (.aload_n 1, 1) := by decide +kernel
theorem d_LW_353 : decode code 353 = .ok (.aload_n 0, 1) := by decide +kernel
theorem d_LW_354 : decode code 354 = .ok (.iload_n 3, 1) := by decide +kernel
theorem d_LW_355 : decode code 355 = .ok (.iconst 1, 1) := by decide +kernel
theorem d_LW_356 : decode code 356 = .ok (.iadd, 1) := by decide +kernel
