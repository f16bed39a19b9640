abbrev b_Law_law : ByteArray := code
/-! Decode rows of the law. -/
theorem d_Law_law_0 : decode b_Law_law 0 = .ok (.new 8, 3) := by decide +kernel
theorem d_Law_law_3 : decode b_Law_law 3 = .ok (.dup, 1) := by decide +kernel
theorem d_Law_law_4 : decode b_Law_law 4 = .ok (.invokespecial 55, 3) := by decide +kernel
theorem d_Law_law_7 : decode b_Law_law 7 = .ok (.astore_n 1, 1) := by decide +kernel
theorem d_Law_law_8 : decode b_Law_law 8 = .ok (.new 56, 3) := by decide +kernel
theorem d_Law_law_11 : decode b_Law_law 11 = .ok (.dup, 1) := by decide +kernel
theorem d_Law_law_12 : decode b_Law_law 12 = .ok (.invokespecial 58, 3) := by decide +kernel
theorem d_Law_law_15 : decode b_Law_law 15 = .ok (.astore_n 2, 1) := by decide +kernel
theorem d_Law_law_16 : decode b_Law_law 16 = .ok (.iconst 1, 1) := by decide +kernel
theorem d_Law_law_17 : decode b_Law_law 17 = .ok (.newarray .long, 2) := by decide +kernel
theorem d_Law_law_19 : decode b_Law_law 19 = .ok (.astore_n 3, 1) := by decide +kernel
theorem d_Law_law_20 : decode b_Law_law 20 = .ok (.iconst 0, 1) := by decide +kernel
theorem d_Law_law_21 : decode b_Law_law 21 = .ok (.istore 4, 2) := by decide +kernel
theorem d_Law_law_23 : decode b_Law_law 23 = .ok (.iload 4, 2) := by decide +kernel
theorem d_Law_law_25 : decode b_Law_law 25 = .ok (.aload_n 0, 1) := by decide +kernel
theorem d_Law_law_26 : decode b_Law_law 26 = .ok (.arraylength, 1) := by decide +kernel
theorem d_Law_law_27 : decode b_Law_law 27 = .ok (.bipush 6, 2) := by decide +kernel
theorem d_Law_law_29 : decode b_Law_law 29 = .ok (.isub, 1) := by decide +kernel
theorem d_Law_law_30 : decode b_Law_law 30 = .ok (.if_icmp .gt 780, 3) := by decide +kernel
theorem d_Law_law_33 : decode b_Law_law 33 = .ok (.aload_n 0, 1) := by decide +kernel
theorem d_Law_law_34 : decode b_Law_law 34 = .ok (.iload 4, 2) := by decide +kernel
theorem d_Law_law_36 : decode b_Law_law 36 = .ok (.iaload, 1) := by decide +kernel
theorem d_Law_law_37 : decode b_Law_law 37 = .ok (.bipush 15, 2) := by decide +kernel
theorem d_Law_law_39 : decode b_Law_law 39 = .ok (.iand, 1) := by decide +kernel
theorem d_Law_law_40 : decode b_Law_law 40 = .ok (.tableswitch 764 0 12 #[68, 136, 147, 183, 267, 280, 336, 380, 464, 512, 568, 624, 708], 68) := by decide +kernel
theorem d_Law_law_108 : decode b_Law_law 108 = .ok (.aload_n 1, 1) := by decide +kernel
theorem d_Law_law_109 : decode b_Law_law 109 = .ok (.aload_n 0, 1) := by decide +kernel
theorem d_Law_law_110 : decode b_Law_law 110 = .ok (.iload 4, 2) := by decide +kernel
theorem d_Law_law_112 : decode b_Law_law 112 = .ok (.iconst 1, 1) := by decide +kernel
theorem d_Law_law_113 : decode b_Law_law 113 = .ok (.iadd, 1) := by decide +kernel
theorem d_Law_law_114 : decode b_Law_law 114 = .ok (.iaload, 1) := by decide +kernel
theorem d_Law_law_115 : decode b_Law_law 115 = .ok (.aload_n 0, 1) := by decide +kernel
theorem d_Law_law_116 : decode b_Law_law 116 = .ok (.iload 4, 2) := by decide +kernel
theorem d_Law_law_118 : decode b_Law_law 118 = .ok (.iconst 2, 1) := by decide +kernel
theorem d_Law_law_119 : decode b_Law_law 119 = .ok (.iadd, 1) := by decide +kernel
theorem d_Law_law_120 : decode b_Law_law 120 = .ok (.iaload, 1) := by decide +kernel
theorem d_Law_law_121 : decode b_Law_law 121 = .ok (.aload_n 3, 1) := by decide +kernel
theorem d_Law_law_122 : decode b_Law_law 122 = .ok (.invokestatic 59, 3) := by decide +kernel
theorem d_Law_law_125 : decode b_Law_law 125 = .ok (.istore 5, 2) := by decide +kernel
theorem d_Law_law_127 : decode b_Law_law 127 = .ok (.aload_n 2, 1) := by decide +kernel
theorem d_Law_law_128 : decode b_Law_law 128 = .ok (.aload_n 0, 1) := by decide +kernel
theorem d_Law_law_129 : decode b_Law_law 129 = .ok (.iload 4, 2) := by decide +kernel
theorem d_Law_law_131 : decode b_Law_law 131 = .ok (.iconst 1, 1) := by decide +kernel
theorem d_Law_law_132 : decode b_Law_law 132 = .ok (.iadd, 1) := by decide +kernel
theorem d_Law_law_133 : decode b_Law_law 133 = .ok (.iaload, 1) := by decide +kernel
theorem d_Law_law_134 : decode b_Law_law 134 = .ok (.aload_n 0, 1) := by decide +kernel
theorem d_Law_law_135 : decode b_Law_law 135 = .ok (.iload 4, 2) := by decide +kernel
theorem d_Law_law_137 : decode b_Law_law 137 = .ok (.iconst 2, 1) := by decide +kernel
theorem d_Law_law_138 : decode b_Law_law 138 = .ok (.iadd, 1) := by decide +kernel
theorem d_Law_law_139 : decode b_Law_law 139 = .ok (.iaload, 1) := by decide +kernel
theorem d_Law_law_140 : decode b_Law_law 140 = .ok (.invokevirtual 64, 3) := by decide +kernel
theorem d_Law_law_143 : decode b_Law_law 143 = .ok (.istore 6, 2) := by decide +kernel
theorem d_Law_law_145 : decode b_Law_law 145 = .ok (.aload_n 2, 1) := by decide +kernel
theorem d_Law_law_146 : decode b_Law_law 146 = .ok (.invokevirtual 65, 3) := by decide +kernel
theorem d_Law_law_149 : decode b_Law_law 149 = .ok (.iload 5, 2) := by decide +kernel
theorem d_Law_law_151 : decode b_Law_law 151 = .ok (.if_icmp .eq 5, 3) := by decide +kernel
theorem d_Law_law_154 : decode b_Law_law 154 = .ok (.iconst 0, 1) := by decide +kernel
theorem d_Law_law_155 : decode b_Law_law 155 = .ok (.ireturn, 1) := by decide +kernel
theorem d_Law_law_156 : decode b_Law_law 156 = .ok (.iload 5, 2) := by decide +kernel
theorem d_Law_law_158 : decode b_Law_law 158 = .ok (.ifCond .ne 15, 3) := by decide +kernel
theorem d_Law_law_161 : decode b_Law_law 161 = .ok (.aload_n 3, 1) := by decide +kernel
theorem d_Law_law_162 : decode b_Law_law 162 = .ok (.iconst 0, 1) := by decide +kernel
theorem d_Law_law_163 : decode b_Law_law 163 = .ok (.laload, 1) := by decide +kernel
theorem d_Law_law_164 : decode b_Law_law 164 = .ok (.iload 6, 2) := by decide +kernel
theorem d_Law_law_166 : decode b_Law_law 166 = .ok (.i2l, 1) := by decide +kernel
theorem d_Law_law_167 : decode b_Law_law 167 = .ok (.lcmp, 1) := by decide +kernel
theorem d_Law_law_168 : decode b_Law_law 168 = .ok (.ifCond .eq 5, 3) := by decide +kernel
theorem d_Law_law_171 : decode b_Law_law 171 = .ok (.iconst 0, 1) := by decide +kernel
theorem d_Law_law_172 : decode b_Law_law 172 = .ok (.ireturn, 1) := by decide +kernel
theorem d_Law_law_173 : decode b_Law_law 173 = .ok (.goto 631, 3) := by decide +kernel
theorem d_Law_law_176 : decode b_Law_law 176 = .ok (.aload_n 1, 1) := by decide +kernel
theorem d_Law_law_177 : decode b_Law_law 177 = .ok (.invokevirtual 68, 3) := by decide +kernel
theorem d_Law_law_180 : decode b_Law_law 180 = .ok (.aload_n 2, 1) := by decide +kernel
theorem d_Law_law_181 : decode b_Law_law 181 = .ok (.invokevirtual 71, 3) := by decide +kernel
theorem d_Law_law_184 : decode b_Law_law 184 = .ok (.goto 620, 3) := by decide +kernel
theorem d_Law_law_187 : decode b_Law_law 187 = .ok (.aload_n 1, 1) := by decide +kernel
theorem d_Law_law_188 : decode b_Law_law 188 = .ok (.aload_n 0, 1) := by decide +kernel
theorem d_Law_law_189 : decode b_Law_law 189 = .ok (.iload 4, 2) := by decide +kernel
theorem d_Law_law_191 : decode b_Law_law 191 = .ok (.iconst 1, 1) := by decide +kernel
theorem d_Law_law_192 : decode b_Law_law 192 = .ok (.iadd, 1) := by decide +kernel
theorem d_Law_law_193 : decode b_Law_law 193 = .ok (.iaload, 1) := by decide +kernel
theorem d_Law_law_194 : decode b_Law_law 194 = .ok (.invokestatic 72, 3) := by decide +kernel
theorem d_Law_law_197 : decode b_Law_law 197 = .ok (.istore 5, 2) := by decide +kernel
theorem d_Law_law_199 : decode b_Law_law 199 = .ok (.aload_n 2, 1) := by decide +kernel
theorem d_Law_law_200 : decode b_Law_law 200 = .ok (.aload_n 0, 1) := by decide +kernel
theorem d_Law_law_201 : decode b_Law_law 201 = .ok (.iload 4, 2) := by decide +kernel
theorem d_Law_law_203 : decode b_Law_law 203 = .ok (.iconst 1, 1) := by decide +kernel
theorem d_Law_law_204 : decode b_Law_law 204 = .ok (.iadd, 1) := by decide +kernel
theorem d_Law_law_205 : decode b_Law_law 205 = .ok (.iaload, 1) := by decide +kernel
theorem d_Law_law_206 : decode b_Law_law 206 = .ok (.invokevirtual 75, 3) := by decide +kernel
theorem d_Law_law_209 : decode b_Law_law 209 = .ok (.aload_n 2, 1) := by decide +kernel
theorem d_Law_law_210 : decode b_Law_law 210 = .ok (.invokevirtual 65, 3) := by decide +kernel
theorem d_Law_law_213 : decode b_Law_law 213 = .ok (.iload 5, 2) := by decide +kernel
theorem d_Law_law_215 : decode b_Law_law 215 = .ok (.if_icmp .eq 5, 3) := by decide +kernel
theorem d_Law_law_218 : decode b_Law_law 218 = .ok (.iconst 0, 1) := by decide +kernel
theorem d_Law_law_219 : decode b_Law_law 219 = .ok (.ireturn, 1) := by decide +kernel
theorem d_Law_law_220 : decode b_Law_law 220 = .ok (.goto 584, 3) := by decide +kernel
theorem d_Law_law_223 : decode b_Law_law 223 = .ok (.aload_n 1, 1) := by decide +kernel
theorem d_Law_law_224 : decode b_Law_law 224 = .ok (.aload_n 0, 1) := by decide +kernel
theorem d_Law_law_225 : decode b_Law_law 225 = .ok (.iload 4, 2) := by decide +kernel
theorem d_Law_law_227 : decode b_Law_law 227 = .ok (.iconst 1, 1) := by decide +kernel
theorem d_Law_law_228 : decode b_Law_law 228 = .ok (.iadd, 1) := by decide +kernel
theorem d_Law_law_229 : decode b_Law_law 229 = .ok (.iaload, 1) := by decide +kernel
theorem d_Law_law_230 : decode b_Law_law 230 = .ok (.aload_n 0, 1) := by decide +kernel
theorem d_Law_law_231 : decode b_Law_law 231 = .ok (.iload 4, 2) := by decide +kernel
theorem d_Law_law_233 : decode b_Law_law 233 = .ok (.iconst 2, 1) := by decide +kernel
theorem d_Law_law_234 : decode b_Law_law 234 = .ok (.iadd, 1) := by decide +kernel
theorem d_Law_law_235 : decode b_Law_law 235 = .ok (.iaload, 1) := by decide +kernel
theorem d_Law_law_236 : decode b_Law_law 236 = .ok (.aload_n 0, 1) := by decide +kernel
theorem d_Law_law_237 : decode b_Law_law 237 = .ok (.iload 4, 2) := by decide +kernel
theorem d_Law_law_239 : decode b_Law_law 239 = .ok (.iconst 3, 1) := by decide +kernel
theorem d_Law_law_240 : decode b_Law_law 240 = .ok (.iadd, 1) := by decide +kernel
theorem d_Law_law_241 : decode b_Law_law 241 = .ok (.iaload, 1) := by decide +kernel
theorem d_Law_law_242 : decode b_Law_law 242 = .ok (.aload_n 0, 1) := by decide +kernel
theorem d_Law_law_243 : decode b_Law_law 243 = .ok (.iload 4, 2) := by decide +kernel
theorem d_Law_law_245 : decode b_Law_law 245 = .ok (.iconst 4, 1) := by decide +kernel
theorem d_Law_law_246 : decode b_Law_law 246 = .ok (.iadd, 1) := by decide +kernel
theorem d_Law_law_247 : decode b_Law_law 247 = .ok (.iaload, 1) := by decide +kernel
theorem d_Law_law_248 : decode b_Law_law 248 = .ok (.aload_n 0, 1) := by decide +kernel
theorem d_Law_law_249 : decode b_Law_law 249 = .ok (.iload 4, 2) := by decide +kernel
theorem d_Law_law_251 : decode b_Law_law 251 = .ok (.iconst 5, 1) := by decide +kernel
theorem d_Law_law_252 : decode b_Law_law 252 = .ok (.iadd, 1) := by decide +kernel
theorem d_Law_law_253 : decode b_Law_law 253 = .ok (.iaload, 1) := by decide +kernel
theorem d_Law_law_254 : decode b_Law_law 254 = .ok (.invokestatic 76, 3) := by decide +kernel
theorem d_Law_law_257 : decode b_Law_law 257 = .ok (.istore 5, 2) := by decide +kernel
theorem d_Law_law_259 : decode b_Law_law 259 = .ok (.aload_n 2, 1) := by decide +kernel
theorem d_Law_law_260 : decode b_Law_law 260 = .ok (.aload_n 0, 1) := by decide +kernel
theorem d_Law_law_261 : decode b_Law_law 261 = .ok (.iload 4, 2) := by decide +kernel
theorem d_Law_law_263 : decode b_Law_law 263 = .ok (.iconst 1, 1) := by decide +kernel
theorem d_Law_law_264 : decode b_Law_law 264 = .ok (.iadd, 1) := by decide +kernel
theorem d_Law_law_265 : decode b_Law_law 265 = .ok (.iaload, 1) := by decide +kernel
theorem d_Law_law_266 : decode b_Law_law 266 = .ok (.aload_n 0, 1) := by decide +kernel
theorem d_Law_law_267 : decode b_Law_law 267 = .ok (.iload 4, 2) := by decide +kernel
theorem d_Law_law_269 : decode b_Law_law 269 = .ok (.iconst 2, 1) := by decide +kernel
theorem d_Law_law_270 : decode b_Law_law 270 = .ok (.iadd, 1) := by decide +kernel
theorem d_Law_law_271 : decode b_Law_law 271 = .ok (.iaload, 1) := by decide +kernel
theorem d_Law_law_272 : decode b_Law_law 272 = .ok (.aload_n 0, 1) := by decide +kernel
theorem d_Law_law_273 : decode b_Law_law 273 = .ok (.iload 4, 2) := by decide +kernel
theorem d_Law_law_275 : decode b_Law_law 275 = .ok (.iconst 3, 1) := by decide +kernel
theorem d_Law_law_276 : decode b_Law_law 276 = .ok (.iadd, 1) := by decide +kernel
theorem d_Law_law_277 : decode b_Law_law 277 = .ok (.iaload, 1) := by decide +kernel
theorem d_Law_law_278 : decode b_Law_law 278 = .ok (.aload_n 0, 1) := by decide +kernel
theorem d_Law_law_279 : decode b_Law_law 279 = .ok (.iload 4, 2) := by decide +kernel
theorem d_Law_law_281 : decode b_Law_law 281 = .ok (.iconst 4, 1) := by decide +kernel
theorem d_Law_law_282 : decode b_Law_law 282 = .ok (.iadd, 1) := by decide +kernel
theorem d_Law_law_283 : decode b_Law_law 283 = .ok (.iaload, 1) := by decide +kernel
theorem d_Law_law_284 : decode b_Law_law 284 = .ok (.aload_n 0, 1) := by decide +kernel
theorem d_Law_law_285 : decode b_Law_law 285 = .ok (.iload 4, 2) := by decide +kernel
theorem d_Law_law_287 : decode b_Law_law 287 = .ok (.iconst 5, 1) := by decide +kernel
theorem d_Law_law_288 : decode b_Law_law 288 = .ok (.iadd, 1) := by decide +kernel
theorem d_Law_law_289 : decode b_Law_law 289 = .ok (.iaload, 1) := by decide +kernel
theorem d_Law_law_290 : decode b_Law_law 290 = .ok (.invokevirtual 79, 3) := by decide +kernel
theorem d_Law_law_293 : decode b_Law_law 293 = .ok (.aload_n 2, 1) := by decide +kernel
theorem d_Law_law_294 : decode b_Law_law 294 = .ok (.invokevirtual 65, 3) := by decide +kernel
theorem d_Law_law_297 : decode b_Law_law 297 = .ok (.iload 5, 2) := by decide +kernel
theorem d_Law_law_299 : decode b_Law_law 299 = .ok (.if_icmp .eq 5, 3) := by decide +kernel
theorem d_Law_law_302 : decode b_Law_law 302 = .ok (.iconst 0, 1) := by decide +kernel
theorem d_Law_law_303 : decode b_Law_law 303 = .ok (.ireturn, 1) := by decide +kernel
theorem d_Law_law_304 : decode b_Law_law 304 = .ok (.goto 500, 3) := by decide +kernel
theorem d_Law_law_307 : decode b_Law_law 307 = .ok (.aload_n 1, 1) := by decide +kernel
theorem d_Law_law_308 : decode b_Law_law 308 = .ok (.invokevirtual 80, 3) := by decide +kernel
theorem d_Law_law_311 : decode b_Law_law 311 = .ok (.aload_n 2, 1) := by decide +kernel
theorem d_Law_law_312 : decode b_Law_law 312 = .ok (.invokevirtual 84, 3) := by decide +kernel
theorem d_Law_law_315 : decode b_Law_law 315 = .ok (.if_icmp .eq 489, 3) := by decide +kernel
theorem d_Law_law_318 : decode b_Law_law 318 = .ok (.iconst 0, 1) := by decide +kernel
theorem d_Law_law_319 : decode b_Law_law 319 = .ok (.ireturn, 1) := by decide +kernel
theorem d_Law_law_320 : decode b_Law_law 320 = .ok (.aload_n 1, 1) := by decide +kernel
theorem d_Law_law_321 : decode b_Law_law 321 = .ok (.aload_n 0, 1) := by decide +kernel
theorem d_Law_law_322 : decode b_Law_law 322 = .ok (.iload 4, 2) := by decide +kernel
theorem d_Law_law_324 : decode b_Law_law 324 = .ok (.iconst 1, 1) := by decide +kernel
theorem d_Law_law_325 : decode b_Law_law 325 = .ok (.iadd, 1) := by decide +kernel
theorem d_Law_law_326 : decode b_Law_law 326 = .ok (.iaload, 1) := by decide +kernel
theorem d_Law_law_327 : decode b_Law_law 327 = .ok (.aload_n 3, 1) := by decide +kernel
theorem d_Law_law_328 : decode b_Law_law 328 = .ok (.invokestatic 85, 3) := by decide +kernel
theorem d_Law_law_331 : decode b_Law_law 331 = .ok (.istore 5, 2) := by decide +kernel
theorem d_Law_law_333 : decode b_Law_law 333 = .ok (.aload_n 2, 1) := by decide +kernel
theorem d_Law_law_334 : decode b_Law_law 334 = .ok (.aload_n 0, 1) := by decide +kernel
theorem d_Law_law_335 : decode b_Law_law 335 = .ok (.iload 4, 2) := by decide +kernel
theorem d_Law_law_337 : decode b_Law_law 337 = .ok (.iconst 1, 1) := by decide +kernel
theorem d_Law_law_338 : decode b_Law_law 338 = .ok (.iadd, 1) := by decide +kernel
theorem d_Law_law_339 : decode b_Law_law 339 = .ok (.iaload, 1) := by decide +kernel
theorem d_Law_law_340 : decode b_Law_law 340 = .ok (.invokevirtual 88, 3) := by decide +kernel
theorem d_Law_law_343 : decode b_Law_law 343 = .ok (.istore 6, 2) := by decide +kernel
theorem d_Law_law_345 : decode b_Law_law 345 = .ok (.aload_n 2, 1) := by decide +kernel
theorem d_Law_law_346 : decode b_Law_law 346 = .ok (.invokevirtual 65, 3) := by decide +kernel
theorem d_Law_law_349 : decode b_Law_law 349 = .ok (.iload 5, 2) := by decide +kernel
theorem d_Law_law_351 : decode b_Law_law 351 = .ok (.if_icmp .eq 5, 3) := by decide +kernel
theorem d_Law_law_354 : decode b_Law_law 354 = .ok (.iconst 0, 1) := by decide +kernel
theorem d_Law_law_355 : decode b_Law_law 355 = .ok (.ireturn, 1) := by decide +kernel
theorem d_Law_law_356 : decode b_Law_law 356 = .ok (.iload 5, 2) := by decide +kernel
theorem d_Law_law_358 : decode b_Law_law 358 = .ok (.ifCond .ne 15, 3) := by decide +kernel
theorem d_Law_law_361 : decode b_Law_law 361 = .ok (.aload_n 3, 1) := by decide +kernel
theorem d_Law_law_362 : decode b_Law_law 362 = .ok (.iconst 0, 1) := by decide +kernel
theorem d_Law_law_363 : decode b_Law_law 363 = .ok (.laload, 1) := by decide +kernel
theorem d_Law_law_364 : decode b_Law_law 364 = .ok (.iload 6, 2) := by decide +kernel
theorem d_Law_law_366 : decode b_Law_law 366 = .ok (.i2l, 1) := by decide +kernel
theorem d_Law_law_367 : decode b_Law_law 367 = .ok (.lcmp, 1) := by decide +kernel
theorem d_Law_law_368 : decode b_Law_law 368 = .ok (.ifCond .eq 5, 3) := by decide +kernel
theorem d_Law_law_371 : decode b_Law_law 371 = .ok (.iconst 0, 1) := by decide +kernel
theorem d_Law_law_372 : decode b_Law_law 372 = .ok (.ireturn, 1) := by decide +kernel
theorem d_Law_law_373 : decode b_Law_law 373 = .ok (.goto 431, 3) := by decide +kernel
theorem d_Law_law_376 : decode b_Law_law 376 = .ok (.aload_n 1, 1) := by decide +kernel
theorem d_Law_law_377 : decode b_Law_law 377 = .ok (.aload_n 3, 1) := by decide +kernel
theorem d_Law_law_378 : decode b_Law_law 378 = .ok (.invokestatic 89, 3) := by decide +kernel
theorem d_Law_law_381 : decode b_Law_law 381 = .ok (.istore 5, 2) := by decide +kernel
theorem d_Law_law_383 : decode b_Law_law 383 = .ok (.aload_n 2, 1) := by decide +kernel
theorem d_Law_law_384 : decode b_Law_law 384 = .ok (.invokevirtual 92, 3) := by decide +kernel
theorem d_Law_law_387 : decode b_Law_law 387 = .ok (.istore 6, 2) := by decide +kernel
theorem d_Law_law_389 : decode b_Law_law 389 = .ok (.aload_n 2, 1) := by decide +kernel
theorem d_Law_law_390 : decode b_Law_law 390 = .ok (.invokevirtual 65, 3) := by decide +kernel
theorem d_Law_law_393 : decode b_Law_law 393 = .ok (.iload 5, 2) := by decide +kernel
theorem d_Law_law_395 : decode b_Law_law 395 = .ok (.if_icmp .eq 5, 3) := by decide +kernel
theorem d_Law_law_398 : decode b_Law_law 398 = .ok (.iconst 0, 1) := by decide +kernel
theorem d_Law_law_399 : decode b_Law_law 399 = .ok (.ireturn, 1) := by decide +kernel
theorem d_Law_law_400 : decode b_Law_law 400 = .ok (.iload 5, 2) := by decide +kernel
theorem d_Law_law_402 : decode b_Law_law 402 = .ok (.ifCond .ne 15, 3) := by decide +kernel
theorem d_Law_law_405 : decode b_Law_law 405 = .ok (.aload_n 3, 1) := by decide +kernel
theorem d_Law_law_406 : decode b_Law_law 406 = .ok (.iconst 0, 1) := by decide +kernel
theorem d_Law_law_407 : decode b_Law_law 407 = .ok (.laload, 1) := by decide +kernel
theorem d_Law_law_408 : decode b_Law_law 408 = .ok (.iload 6, 2) := by decide +kernel
theorem d_Law_law_410 : decode b_Law_law 410 = .ok (.i2l, 1) := by decide +kernel
theorem d_Law_law_411 : decode b_Law_law 411 = .ok (.lcmp, 1) := by decide +kernel
theorem d_Law_law_412 : decode b_Law_law 412 = .ok (.ifCond .eq 5, 3) := by decide +kernel
theorem d_Law_law_415 : decode b_Law_law 415 = .ok (.iconst 0, 1) := by decide +kernel
theorem d_Law_law_416 : decode b_Law_law 416 = .ok (.ireturn, 1) := by decide +kernel
theorem d_Law_law_417 : decode b_Law_law 417 = .ok (.goto 387, 3) := by decide +kernel
theorem d_Law_law_420 : decode b_Law_law 420 = .ok (.aload_n 1, 1) := by decide +kernel
theorem d_Law_law_421 : decode b_Law_law 421 = .ok (.aload_n 0, 1) := by decide +kernel
theorem d_Law_law_422 : decode b_Law_law 422 = .ok (.iload 4, 2) := by decide +kernel
theorem d_Law_law_424 : decode b_Law_law 424 = .ok (.iconst 1, 1) := by decide +kernel
theorem d_Law_law_425 : decode b_Law_law 425 = .ok (.iadd, 1) := by decide +kernel
theorem d_Law_law_426 : decode b_Law_law 426 = .ok (.iaload, 1) := by decide +kernel
theorem d_Law_law_427 : decode b_Law_law 427 = .ok (.aload_n 0, 1) := by decide +kernel
theorem d_Law_law_428 : decode b_Law_law 428 = .ok (.iload 4, 2) := by decide +kernel
theorem d_Law_law_430 : decode b_Law_law 430 = .ok (.iconst 2, 1) := by decide +kernel
theorem d_Law_law_431 : decode b_Law_law 431 = .ok (.iadd, 1) := by decide +kernel
theorem d_Law_law_432 : decode b_Law_law 432 = .ok (.iaload, 1) := by decide +kernel
theorem d_Law_law_433 : decode b_Law_law 433 = .ok (.ifCond .eq 7, 3) := by decide +kernel
theorem d_Law_law_436 : decode b_Law_law 436 = .ok (.iconst 1, 1) := by decide +kernel
theorem d_Law_law_437 : decode b_Law_law 437 = .ok (.goto 4, 3) := by decide +kernel
theorem d_Law_law_440 : decode b_Law_law 440 = .ok (.iconst 0, 1) := by decide +kernel
theorem d_Law_law_441 : decode b_Law_law 441 = .ok (.aload_n 3, 1) := by decide +kernel
theorem d_Law_law_442 : decode b_Law_law 442 = .ok (.invokestatic 93, 3) := by decide +kernel
theorem d_Law_law_445 : decode b_Law_law 445 = .ok (.istore 5, 2) := by decide +kernel
theorem d_Law_law_447 : decode b_Law_law 447 = .ok (.aload_n 2, 1) := by decide +kernel
theorem d_Law_law_448 : decode b_Law_law 448 = .ok (.aload_n 0, 1) := by decide +kernel
theorem d_Law_law_449 : decode b_Law_law 449 = .ok (.iload 4, 2) := by decide +kernel
theorem d_Law_law_451 : decode b_Law_law 451 = .ok (.iconst 1, 1) := by decide +kernel
theorem d_Law_law_452 : decode b_Law_law 452 = .ok (.iadd, 1) := by decide +kernel
theorem d_Law_law_453 : decode b_Law_law 453 = .ok (.iaload, 1) := by decide +kernel
theorem d_Law_law_454 : decode b_Law_law 454 = .ok (.aload_n 0, 1) := by decide +kernel
theorem d_Law_law_455 : decode b_Law_law 455 = .ok (.iload 4, 2) := by decide +kernel
theorem d_Law_law_457 : decode b_Law_law 457 = .ok (.iconst 2, 1) := by decide +kernel
theorem d_Law_law_458 : decode b_Law_law 458 = .ok (.iadd, 1) := by decide +kernel
theorem d_Law_law_459 : decode b_Law_law 459 = .ok (.iaload, 1) := by decide +kernel
theorem d_Law_law_460 : decode b_Law_law 460 = .ok (.ifCond .eq 7, 3) := by decide +kernel
theorem d_Law_law_463 : decode b_Law_law 463 = .ok (.iconst 1, 1) := by decide +kernel
theorem d_Law_law_464 : decode b_Law_law 464 = .ok (.goto 4, 3) := by decide +kernel
theorem d_Law_law_467 : decode b_Law_law 467 = .ok (.iconst 0, 1) := by decide +kernel
theorem d_Law_law_468 : decode b_Law_law 468 = .ok (.invokevirtual 96, 3) := by decide +kernel
theorem d_Law_law_471 : decode b_Law_law 471 = .ok (.istore 6, 2) := by decide +kernel
theorem d_Law_law_473 : decode b_Law_law 473 = .ok (.aload_n 2, 1) := by decide +kernel
theorem d_Law_law_474 : decode b_Law_law 474 = .ok (.invokevirtual 65, 3) := by decide +kernel
theorem d_Law_law_477 : decode b_Law_law 477 = .ok (.iload 5, 2) := by decide +kernel
theorem d_Law_law_479 : decode b_Law_law 479 = .ok (.if_icmp .eq 5, 3) := by decide +kernel
theorem d_Law_law_482 : decode b_Law_law 482 = .ok (.iconst 0, 1) := by decide +kernel
theorem d_Law_law_483 : decode b_Law_law 483 = .ok (.ireturn, 1) := by decide +kernel
theorem d_Law_law_484 : decode b_Law_law 484 = .ok (.iload 5, 2) := by decide +kernel
theorem d_Law_law_486 : decode b_Law_law 486 = .ok (.ifCond .ne 15, 3) := by decide +kernel
theorem d_Law_law_489 : decode b_Law_law 489 = .ok (.aload_n 3, 1) := by decide +kernel
theorem d_Law_law_490 : decode b_Law_law 490 = .ok (.iconst 0, 1) := by decide +kernel
theorem d_Law_law_491 : decode b_Law_law 491 = .ok (.laload, 1) := by decide +kernel
theorem d_Law_law_492 : decode b_Law_law 492 = .ok (.iload 6, 2) := by decide +kernel
theorem d_Law_law_494 : decode b_Law_law 494 = .ok (.i2l, 1) := by decide +kernel
theorem d_Law_law_495 : decode b_Law_law 495 = .ok (.lcmp, 1) := by decide +kernel
theorem d_Law_law_496 : decode b_Law_law 496 = .ok (.ifCond .eq 5, 3) := by decide +kernel
theorem d_Law_law_499 : decode b_Law_law 499 = .ok (.iconst 0, 1) := by decide +kernel
theorem d_Law_law_500 : decode b_Law_law 500 = .ok (.ireturn, 1) := by decide +kernel
theorem d_Law_law_501 : decode b_Law_law 501 = .ok (.goto 303, 3) := by decide +kernel
theorem d_Law_law_504 : decode b_Law_law 504 = .ok (.aload_n 1, 1) := by decide +kernel
theorem d_Law_law_505 : decode b_Law_law 505 = .ok (.aload_n 0, 1) := by decide +kernel
theorem d_Law_law_506 : decode b_Law_law 506 = .ok (.iload 4, 2) := by decide +kernel
theorem d_Law_law_508 : decode b_Law_law 508 = .ok (.iconst 1, 1) := by decide +kernel
theorem d_Law_law_509 : decode b_Law_law 509 = .ok (.iadd, 1) := by decide +kernel
theorem d_Law_law_510 : decode b_Law_law 510 = .ok (.iaload, 1) := by decide +kernel
theorem d_Law_law_511 : decode b_Law_law 511 = .ok (.aload_n 0, 1) := by decide +kernel
theorem d_Law_law_512 : decode b_Law_law 512 = .ok (.iload 4, 2) := by decide +kernel
theorem d_Law_law_514 : decode b_Law_law 514 = .ok (.iconst 2, 1) := by decide +kernel
theorem d_Law_law_515 : decode b_Law_law 515 = .ok (.iadd, 1) := by decide +kernel
theorem d_Law_law_516 : decode b_Law_law 516 = .ok (.iaload, 1) := by decide +kernel
theorem d_Law_law_517 : decode b_Law_law 517 = .ok (.invokestatic 97, 3) := by decide +kernel
theorem d_Law_law_520 : decode b_Law_law 520 = .ok (.istore 5, 2) := by decide +kernel
theorem d_Law_law_522 : decode b_Law_law 522 = .ok (.aload_n 2, 1) := by decide +kernel
theorem d_Law_law_523 : decode b_Law_law 523 = .ok (.aload_n 0, 1) := by decide +kernel
theorem d_Law_law_524 : decode b_Law_law 524 = .ok (.iload 4, 2) := by decide +kernel
theorem d_Law_law_526 : decode b_Law_law 526 = .ok (.iconst 1, 1) := by decide +kernel
theorem d_Law_law_527 : decode b_Law_law 527 = .ok (.iadd, 1) := by decide +kernel
theorem d_Law_law_528 : decode b_Law_law 528 = .ok (.iaload, 1) := by decide +kernel
theorem d_Law_law_529 : decode b_Law_law 529 = .ok (.aload_n 0, 1) := by decide +kernel
theorem d_Law_law_530 : decode b_Law_law 530 = .ok (.iload 4, 2) := by decide +kernel
theorem d_Law_law_532 : decode b_Law_law 532 = .ok (.iconst 2, 1) := by decide +kernel
theorem d_Law_law_533 : decode b_Law_law 533 = .ok (.iadd, 1) := by decide +kernel
theorem d_Law_law_534 : decode b_Law_law 534 = .ok (.iaload, 1) := by decide +kernel
theorem d_Law_law_535 : decode b_Law_law 535 = .ok (.invokevirtual 100, 3) := by decide +kernel
theorem d_Law_law_538 : decode b_Law_law 538 = .ok (.aload_n 2, 1) := by decide +kernel
theorem d_Law_law_539 : decode b_Law_law 539 = .ok (.invokevirtual 65, 3) := by decide +kernel
theorem d_Law_law_542 : decode b_Law_law 542 = .ok (.iload 5, 2) := by decide +kernel
theorem d_Law_law_544 : decode b_Law_law 544 = .ok (.if_icmp .eq 5, 3) := by decide +kernel
theorem d_Law_law_547 : decode b_Law_law 547 = .ok (.iconst 0, 1) := by decide +kernel
theorem d_Law_law_548 : decode b_Law_law 548 = .ok (.ireturn, 1) := by decide +kernel
theorem d_Law_law_549 : decode b_Law_law 549 = .ok (.goto 255, 3) := by decide +kernel
theorem d_Law_law_552 : decode b_Law_law 552 = .ok (.aload_n 1, 1) := by decide +kernel
theorem d_Law_law_553 : decode b_Law_law 553 = .ok (.aload_n 0, 1) := by decide +kernel
theorem d_Law_law_554 : decode b_Law_law 554 = .ok (.iload 4, 2) := by decide +kernel
theorem d_Law_law_556 : decode b_Law_law 556 = .ok (.iconst 1, 1) := by decide +kernel
theorem d_Law_law_557 : decode b_Law_law 557 = .ok (.iadd, 1) := by decide +kernel
theorem d_Law_law_558 : decode b_Law_law 558 = .ok (.iaload, 1) := by decide +kernel
theorem d_Law_law_559 : decode b_Law_law 559 = .ok (.aload_n 3, 1) := by decide +kernel
theorem d_Law_law_560 : decode b_Law_law 560 = .ok (.invokestatic 101, 3) := by decide +kernel
theorem d_Law_law_563 : decode b_Law_law 563 = .ok (.istore 5, 2) := by decide +kernel
theorem d_Law_law_565 : decode b_Law_law 565 = .ok (.aload_n 2, 1) := by decide +kernel
theorem d_Law_law_566 : decode b_Law_law 566 = .ok (.aload_n 0, 1) := by decide +kernel
theorem d_Law_law_567 : decode b_Law_law 567 = .ok (.iload 4, 2) := by decide +kernel
theorem d_Law_law_569 : decode b_Law_law 569 = .ok (.iconst 1, 1) := by decide +kernel
theorem d_Law_law_570 : decode b_Law_law 570 = .ok (.iadd, 1) := by decide +kernel
theorem d_Law_law_571 : decode b_Law_law 571 = .ok (.iaload, 1) := by decide +kernel
theorem d_Law_law_572 : decode b_Law_law 572 = .ok (.invokevirtual 103, 3) := by decide +kernel
theorem d_Law_law_575 : decode b_Law_law 575 = .ok (.istore 6, 2) := by decide +kernel
theorem d_Law_law_577 : decode b_Law_law 577 = .ok (.aload_n 2, 1) := by decide +kernel
theorem d_Law_law_578 : decode b_Law_law 578 = .ok (.invokevirtual 65, 3) := by decide +kernel
theorem d_Law_law_581 : decode b_Law_law 581 = .ok (.iload 5, 2) := by decide +kernel
theorem d_Law_law_583 : decode b_Law_law 583 = .ok (.if_icmp .eq 5, 3) := by decide +kernel
theorem d_Law_law_586 : decode b_Law_law 586 = .ok (.iconst 0, 1) := by decide +kernel
theorem d_Law_law_587 : decode b_Law_law 587 = .ok (.ireturn, 1) := by decide +kernel
theorem d_Law_law_588 : decode b_Law_law 588 = .ok (.iload 5, 2) := by decide +kernel
theorem d_Law_law_590 : decode b_Law_law 590 = .ok (.ifCond .ne 15, 3) := by decide +kernel
theorem d_Law_law_593 : decode b_Law_law 593 = .ok (.aload_n 3, 1) := by decide +kernel
theorem d_Law_law_594 : decode b_Law_law 594 = .ok (.iconst 0, 1) := by decide +kernel
theorem d_Law_law_595 : decode b_Law_law 595 = .ok (.laload, 1) := by decide +kernel
theorem d_Law_law_596 : decode b_Law_law 596 = .ok (.iload 6, 2) := by decide +kernel
theorem d_Law_law_598 : decode b_Law_law 598 = .ok (.i2l, 1) := by decide +kernel
theorem d_Law_law_599 : decode b_Law_law 599 = .ok (.lcmp, 1) := by decide +kernel
theorem d_Law_law_600 : decode b_Law_law 600 = .ok (.ifCond .eq 5, 3) := by decide +kernel
theorem d_Law_law_603 : decode b_Law_law 603 = .ok (.iconst 0, 1) := by decide +kernel
theorem d_Law_law_604 : decode b_Law_law 604 = .ok (.ireturn, 1) := by decide +kernel
theorem d_Law_law_605 : decode b_Law_law 605 = .ok (.goto 199, 3) := by decide +kernel
theorem d_Law_law_608 : decode b_Law_law 608 = .ok (.aload_n 1, 1) := by decide +kernel
theorem d_Law_law_609 : decode b_Law_law 609 = .ok (.aload_n 0, 1) := by decide +kernel
theorem d_Law_law_610 : decode b_Law_law 610 = .ok (.iload 4, 2) := by decide +kernel
theorem d_Law_law_612 : decode b_Law_law 612 = .ok (.iconst 1, 1) := by decide +kernel
theorem d_Law_law_613 : decode b_Law_law 613 = .ok (.iadd, 1) := by decide +kernel
theorem d_Law_law_614 : decode b_Law_law 614 = .ok (.iaload, 1) := by decide +kernel
theorem d_Law_law_615 : decode b_Law_law 615 = .ok (.aload_n 3, 1) := by decide +kernel
theorem d_Law_law_616 : decode b_Law_law 616 = .ok (.invokestatic 104, 3) := by decide +kernel
theorem d_Law_law_619 : decode b_Law_law 619 = .ok (.istore 5, 2) := by decide +kernel
theorem d_Law_law_621 : decode b_Law_law 621 = .ok (.aload_n 2, 1) := by decide +kernel
theorem d_Law_law_622 : decode b_Law_law 622 = .ok (.aload_n 0, 1) := by decide +kernel
theorem d_Law_law_623 : decode b_Law_law 623 = .ok (.iload 4, 2) := by decide +kernel
theorem d_Law_law_625 : decode b_Law_law 625 = .ok (.iconst 1, 1) := by decide +kernel
theorem d_Law_law_626 : decode b_Law_law 626 = .ok (.iadd, 1) := by decide +kernel
theorem d_Law_law_627 : decode b_Law_law 627 = .ok (.iaload, 1) := by decide +kernel
theorem d_Law_law_628 : decode b_Law_law 628 = .ok (.invokevirtual 106, 3) := by decide +kernel
theorem d_Law_law_631 : decode b_Law_law 631 = .ok (.istore 6, 2) := by decide +kernel
theorem d_Law_law_633 : decode b_Law_law 633 = .ok (.aload_n 2, 1) := by decide +kernel
theorem d_Law_law_634 : decode b_Law_law 634 = .ok (.invokevirtual 65, 3) := by decide +kernel
theorem d_Law_law_637 : decode b_Law_law 637 = .ok (.iload 5, 2) := by decide +kernel
theorem d_Law_law_639 : decode b_Law_law 639 = .ok (.if_icmp .eq 5, 3) := by decide +kernel
theorem d_Law_law_642 : decode b_Law_law 642 = .ok (.iconst 0, 1) := by decide +kernel
theorem d_Law_law_643 : decode b_Law_law 643 = .ok (.ireturn, 1) := by decide +kernel
theorem d_Law_law_644 : decode b_Law_law 644 = .ok (.iload 5, 2) := by decide +kernel
theorem d_Law_law_646 : decode b_Law_law 646 = .ok (.ifCond .ne 15, 3) := by decide +kernel
theorem d_Law_law_649 : decode b_Law_law 649 = .ok (.aload_n 3, 1) := by decide +kernel
theorem d_Law_law_650 : decode b_Law_law 650 = .ok (.iconst 0, 1) := by decide +kernel
theorem d_Law_law_651 : decode b_Law_law 651 = .ok (.laload, 1) := by decide +kernel
theorem d_Law_law_652 : decode b_Law_law 652 = .ok (.iload 6, 2) := by decide +kernel
theorem d_Law_law_654 : decode b_Law_law 654 = .ok (.i2l, 1) := by decide +kernel
theorem d_Law_law_655 : decode b_Law_law 655 = .ok (.lcmp, 1) := by decide +kernel
theorem d_Law_law_656 : decode b_Law_law 656 = .ok (.ifCond .eq 5, 3) := by decide +kernel
theorem d_Law_law_659 : decode b_Law_law 659 = .ok (.iconst 0, 1) := by decide +kernel
theorem d_Law_law_660 : decode b_Law_law 660 = .ok (.ireturn, 1) := by decide +kernel
theorem d_Law_law_661 : decode b_Law_law 661 = .ok (.goto 143, 3) := by decide +kernel
theorem d_Law_law_664 : decode b_Law_law 664 = .ok (.aload_n 1, 1) := by decide +kernel
theorem d_Law_law_665 : decode b_Law_law 665 = .ok (.aload_n 0, 1) := by decide +kernel
theorem d_Law_law_666 : decode b_Law_law 666 = .ok (.iload 4, 2) := by decide +kernel
theorem d_Law_law_668 : decode b_Law_law 668 = .ok (.iconst 1, 1) := by decide +kernel
theorem d_Law_law_669 : decode b_Law_law 669 = .ok (.iadd, 1) := by decide +kernel
theorem d_Law_law_670 : decode b_Law_law 670 = .ok (.iaload, 1) := by decide +kernel
theorem d_Law_law_671 : decode b_Law_law 671 = .ok (.aload_n 0, 1) := by decide +kernel
theorem d_Law_law_672 : decode b_Law_law 672 = .ok (.iload 4, 2) := by decide +kernel
theorem d_Law_law_674 : decode b_Law_law 674 = .ok (.iconst 2, 1) := by decide +kernel
theorem d_Law_law_675 : decode b_Law_law 675 = .ok (.iadd, 1) := by decide +kernel
theorem d_Law_law_676 : decode b_Law_law 676 = .ok (.iaload, 1) := by decide +kernel
theorem d_Law_law_677 : decode b_Law_law 677 = .ok (.ifCond .eq 7, 3) := by decide +kernel
theorem d_Law_law_680 : decode b_Law_law 680 = .ok (.iconst 1, 1) := by decide +kernel
theorem d_Law_law_681 : decode b_Law_law 681 = .ok (.goto 4, 3) := by decide +kernel
theorem d_Law_law_684 : decode b_Law_law 684 = .ok (.iconst 0, 1) := by decide +kernel
theorem d_Law_law_685 : decode b_Law_law 685 = .ok (.aload_n 3, 1) := by decide +kernel
theorem d_Law_law_686 : decode b_Law_law 686 = .ok (.invokestatic 107, 3) := by decide +kernel
theorem d_Law_law_689 : decode b_Law_law 689 = .ok (.istore 5, 2) := by decide +kernel
theorem d_Law_law_691 : decode b_Law_law 691 = .ok (.aload_n 2, 1) := by decide +kernel
theorem d_Law_law_692 : decode b_Law_law 692 = .ok (.aload_n 0, 1) := by decide +kernel
theorem d_Law_law_693 : decode b_Law_law 693 = .ok (.iload 4, 2) := by decide +kernel
theorem d_Law_law_695 : decode b_Law_law 695 = .ok (.iconst 1, 1) := by decide +kernel
theorem d_Law_law_696 : decode b_Law_law 696 = .ok (.iadd, 1) := by decide +kernel
theorem d_Law_law_697 : decode b_Law_law 697 = .ok (.iaload, 1) := by decide +kernel
theorem d_Law_law_698 : decode b_Law_law 698 = .ok (.aload_n 0, 1) := by decide +kernel
theorem d_Law_law_699 : decode b_Law_law 699 = .ok (.iload 4, 2) := by decide +kernel
theorem d_Law_law_701 : decode b_Law_law 701 = .ok (.iconst 2, 1) := by decide +kernel
theorem d_Law_law_702 : decode b_Law_law 702 = .ok (.iadd, 1) := by decide +kernel
theorem d_Law_law_703 : decode b_Law_law 703 = .ok (.iaload, 1) := by decide +kernel
theorem d_Law_law_704 : decode b_Law_law 704 = .ok (.ifCond .eq 7, 3) := by decide +kernel
theorem d_Law_law_707 : decode b_Law_law 707 = .ok (.iconst 1, 1) := by decide +kernel
theorem d_Law_law_708 : decode b_Law_law 708 = .ok (.goto 4, 3) := by decide +kernel
theorem d_Law_law_711 : decode b_Law_law 711 = .ok (.iconst 0, 1) := by decide +kernel
theorem d_Law_law_712 : decode b_Law_law 712 = .ok (.invokevirtual 109, 3) := by decide +kernel
theorem d_Law_law_715 : decode b_Law_law 715 = .ok (.istore 6, 2) := by decide +kernel
theorem d_Law_law_717 : decode b_Law_law 717 = .ok (.aload_n 2, 1) := by decide +kernel
theorem d_Law_law_718 : decode b_Law_law 718 = .ok (.invokevirtual 65, 3) := by decide +kernel
theorem d_Law_law_721 : decode b_Law_law 721 = .ok (.iload 5, 2) := by decide +kernel
theorem d_Law_law_723 : decode b_Law_law 723 = .ok (.if_icmp .eq 5, 3) := by decide +kernel
theorem d_Law_law_726 : decode b_Law_law 726 = .ok (.iconst 0, 1) := by decide +kernel
theorem d_Law_law_727 : decode b_Law_law 727 = .ok (.ireturn, 1) := by decide +kernel
theorem d_Law_law_728 : decode b_Law_law 728 = .ok (.iload 5, 2) := by decide +kernel
theorem d_Law_law_730 : decode b_Law_law 730 = .ok (.ifCond .ne 15, 3) := by decide +kernel
theorem d_Law_law_733 : decode b_Law_law 733 = .ok (.aload_n 3, 1) := by decide +kernel
theorem d_Law_law_734 : decode b_Law_law 734 = .ok (.iconst 0, 1) := by decide +kernel
theorem d_Law_law_735 : decode b_Law_law 735 = .ok (.laload, 1) := by decide +kernel
theorem d_Law_law_736 : decode b_Law_law 736 = .ok (.iload 6, 2) := by decide +kernel
theorem d_Law_law_738 : decode b_Law_law 738 = .ok (.i2l, 1) := by decide +kernel
theorem d_Law_law_739 : decode b_Law_law 739 = .ok (.lcmp, 1) := by decide +kernel
theorem d_Law_law_740 : decode b_Law_law 740 = .ok (.ifCond .eq 5, 3) := by decide +kernel
theorem d_Law_law_743 : decode b_Law_law 743 = .ok (.iconst 0, 1) := by decide +kernel
theorem d_Law_law_744 : decode b_Law_law 744 = .ok (.ireturn, 1) := by decide +kernel
theorem d_Law_law_745 : decode b_Law_law 745 = .ok (.goto 59, 3) := by decide +kernel
theorem d_Law_law_748 : decode b_Law_law 748 = .ok (.aload_n 1, 1) := by decide +kernel
theorem d_Law_law_749 : decode b_Law_law 749 = .ok (.aload_n 0, 1) := by decide +kernel
theorem d_Law_law_750 : decode b_Law_law 750 = .ok (.iload 4, 2) := by decide +kernel
theorem d_Law_law_752 : decode b_Law_law 752 = .ok (.iconst 1, 1) := by decide +kernel
theorem d_Law_law_753 : decode b_Law_law 753 = .ok (.iadd, 1) := by decide +kernel
theorem d_Law_law_754 : decode b_Law_law 754 = .ok (.iaload, 1) := by decide +kernel
theorem d_Law_law_755 : decode b_Law_law 755 = .ok (.aload_n 3, 1) := by decide +kernel
theorem d_Law_law_756 : decode b_Law_law 756 = .ok (.invokestatic 110, 3) := by decide +kernel
theorem d_Law_law_759 : decode b_Law_law 759 = .ok (.istore 5, 2) := by decide +kernel
theorem d_Law_law_761 : decode b_Law_law 761 = .ok (.aload_n 2, 1) := by decide +kernel
theorem d_Law_law_762 : decode b_Law_law 762 = .ok (.aload_n 0, 1) := by decide +kernel
theorem d_Law_law_763 : decode b_Law_law 763 = .ok (.iload 4, 2) := by decide +kernel
theorem d_Law_law_765 : decode b_Law_law 765 = .ok (.iconst 1, 1) := by decide +kernel
theorem d_Law_law_766 : decode b_Law_law 766 = .ok (.iadd, 1) := by decide +kernel
theorem d_Law_law_767 : decode b_Law_law 767 = .ok (.iaload, 1) := by decide +kernel
theorem d_Law_law_768 : decode b_Law_law 768 = .ok (.invokevirtual 112, 3) := by decide +kernel
theorem d_Law_law_771 : decode b_Law_law 771 = .ok (.istore 6, 2) := by decide +kernel
theorem d_Law_law_773 : decode b_Law_law 773 = .ok (.aload_n 2, 1) := by decide +kernel
theorem d_Law_law_774 : decode b_Law_law 774 = .ok (.invokevirtual 65, 3) := by decide +kernel
theorem d_Law_law_777 : decode b_Law_law 777 = .ok (.iload 5, 2) := by decide +kernel
theorem d_Law_law_779 : decode b_Law_law 779 = .ok (.if_icmp .eq 5, 3) := by decide +kernel
theorem d_Law_law_782 : decode b_Law_law 782 = .ok (.iconst 0, 1) := by decide +kernel
theorem d_Law_law_783 : decode b_Law_law 783 = .ok (.ireturn, 1) := by decide +kernel
theorem d_Law_law_784 : decode b_Law_law 784 = .ok (.iload 5, 2) := by decide +kernel
theorem d_Law_law_786 : decode b_Law_law 786 = .ok (.ifCond .ne 15, 3) := by decide +kernel
theorem d_Law_law_789 : decode b_Law_law 789 = .ok (.aload_n 3, 1) := by decide +kernel
theorem d_Law_law_790 : decode b_Law_law 790 = .ok (.iconst 0, 1) := by decide +kernel
theorem d_Law_law_791 : decode b_Law_law 791 = .ok (.laload, 1) := by decide +kernel
theorem d_Law_law_792 : decode b_Law_law 792 = .ok (.iload 6, 2) := by decide +kernel
theorem d_Law_law_794 : decode b_Law_law 794 = .ok (.i2l, 1) := by decide +kernel
theorem d_Law_law_795 : decode b_Law_law 795 = .ok (.lcmp, 1) := by decide +kernel
theorem d_Law_law_796 : decode b_Law_law 796 = .ok (.ifCond .eq 5, 3) := by decide +kernel
theorem d_Law_law_799 : decode b_Law_law 799 = .ok (.iconst 0, 1) := by decide +kernel
theorem d_Law_law_800 : decode b_Law_law 800 = .ok (.ireturn, 1) := by decide +kernel
theorem d_Law_law_801 : decode b_Law_law 801 = .ok (.goto 3, 3) := by decide +kernel
theorem d_Law_law_804 : decode b_Law_law 804 = .ok (.iinc 4 6, 3) := by decide +kernel
theorem d_Law_law_807 : decode b_Law_law 807 = .ok (.goto (-784), 3) := by decide +kernel
theorem d_Law_law_810 : decode b_Law_law 810 = .ok (.iconst 1, 1) := by decide +kernel
theorem d_Law_law_811 : decode b_Law_law 811 = .ok (.ireturn, 1) := by decide +kernel
