/-! Decode rows of reference. -/
theorem d_Model_testsOf_0 : decode b_Model_testsOf 0 = .ok (.iconst 0, 1) := by decide +kernel
theorem d_Model_testsOf_1 : decode b_Model_testsOf 1 = .ok (.istore_n 2, 1) := by decide +kernel
theorem d_Model_testsOf_2 : decode b_Model_testsOf 2 = .ok (.iconst 0, 1) := by decide +kernel
theorem d_Model_testsOf_3 : decode b_Model_testsOf 3 = .ok (.istore_n 3, 1) := by decide +kernel
theorem d_Model_testsOf_4 : decode b_Model_testsOf 4 = .ok (.iload_n 3, 1) := by decide +kernel
theorem d_Model_testsOf_5 : decode b_Model_testsOf 5 = .ok (.aload_n 0, 1) := by decide +kernel
theorem d_Model_testsOf_6 : decode b_Model_testsOf 6 = .ok (.getfield 19, 3) := by decide +kernel
theorem d_Model_testsOf_9 : decode b_Model_testsOf 9 = .ok (.if_icmp .ge 31, 3) := by decide +kernel
theorem d_Model_testsOf_12 : decode b_Model_testsOf 12 = .ok (.iload_n 2, 1) := by decide +kernel
theorem d_Model_testsOf_13 : decode b_Model_testsOf 13 = .ok (.aload_n 0, 1) := by decide +kernel
theorem d_Model_testsOf_14 : decode b_Model_testsOf 14 = .ok (.getfield 23, 3) := by decide +kernel
theorem d_Model_testsOf_17 : decode b_Model_testsOf 17 = .ok (.bipush 8, 2) := by decide +kernel
theorem d_Model_testsOf_19 : decode b_Model_testsOf 19 = .ok (.iload_n 3, 1) := by decide +kernel
theorem d_Model_testsOf_20 : decode b_Model_testsOf 20 = .ok (.imul, 1) := by decide +kernel
theorem d_Model_testsOf_21 : decode b_Model_testsOf 21 = .ok (.iload_n 1, 1) := by decide +kernel
theorem d_Model_testsOf_22 : decode b_Model_testsOf 22 = .ok (.iadd, 1) := by decide +kernel
theorem d_Model_testsOf_23 : decode b_Model_testsOf 23 = .ok (.baload, 1) := by decide +kernel
theorem d_Model_testsOf_24 : decode b_Model_testsOf 24 = .ok (.ifCond .eq 7, 3) := by decide +kernel
theorem d_Model_testsOf_27 : decode b_Model_testsOf 27 = .ok (.iconst 1, 1) := by decide +kernel
theorem d_Model_testsOf_28 : decode b_Model_testsOf 28 = .ok (.goto 4, 3) := by decide +kernel
theorem d_Model_testsOf_31 : decode b_Model_testsOf 31 = .ok (.iconst 0, 1) := by decide +kernel
theorem d_Model_testsOf_32 : decode b_Model_testsOf 32 = .ok (.iadd, 1) := by decide +kernel
theorem d_Model_testsOf_33 : decode b_Model_testsOf 33 = .ok (.istore_n 2, 1) := by decide +kernel
theorem d_Model_testsOf_34 : decode b_Model_testsOf 34 = .ok (.iinc 3 1, 3) := by decide +kernel
theorem d_Model_testsOf_37 : decode b_Model_testsOf 37 = .ok (.goto (-33), 3) := by decide +kernel
theorem d_Model_testsOf_40 : decode b_Model_testsOf 40 = .ok (.iload_n 2, 1) := by decide +kernel
theorem d_Model_testsOf_41 : decode b_Model_testsOf 41 = .ok (.ireturn, 1) := by decide +kernel
theorem d_Model_aheadOf_0 : decode b_Model_aheadOf 0 = .ok (.aload_n 0, 1) := by decide +kernel
theorem d_Model_aheadOf_1 : decode b_Model_aheadOf 1 = .ok (.getfield 7, 3) := by decide +kernel
theorem d_Model_aheadOf_4 : decode b_Model_aheadOf 4 = .ok (.iload_n 1, 1) := by decide +kernel
theorem d_Model_aheadOf_5 : decode b_Model_aheadOf 5 = .ok (.iaload, 1) := by decide +kernel
theorem d_Model_aheadOf_6 : decode b_Model_aheadOf 6 = .ok (.bipush 9, 2) := by decide +kernel
theorem d_Model_aheadOf_8 : decode b_Model_aheadOf 8 = .ok (.if_icmp .ne 21, 3) := by decide +kernel
theorem d_Model_aheadOf_11 : decode b_Model_aheadOf 11 = .ok (.bipush 16, 2) := by decide +kernel
theorem d_Model_aheadOf_13 : decode b_Model_aheadOf 13 = .ok (.aload_n 0, 1) := by decide +kernel
theorem d_Model_aheadOf_14 : decode b_Model_aheadOf 14 = .ok (.aload_n 0, 1) := by decide +kernel
theorem d_Model_aheadOf_15 : decode b_Model_aheadOf 15 = .ok (.getfield 13, 3) := by decide +kernel
theorem d_Model_aheadOf_18 : decode b_Model_aheadOf 18 = .ok (.iload_n 1, 1) := by decide +kernel
theorem d_Model_aheadOf_19 : decode b_Model_aheadOf 19 = .ok (.iaload, 1) := by decide +kernel
theorem d_Model_aheadOf_20 : decode b_Model_aheadOf 20 = .ok (.invokevirtual 85, 3) := by decide +kernel
theorem d_Model_aheadOf_23 : decode b_Model_aheadOf 23 = .ok (.imul, 1) := by decide +kernel
theorem d_Model_aheadOf_24 : decode b_Model_aheadOf 24 = .ok (.iconst 1, 1) := by decide +kernel
theorem d_Model_aheadOf_25 : decode b_Model_aheadOf 25 = .ok (.iadd, 1) := by decide +kernel
theorem d_Model_aheadOf_26 : decode b_Model_aheadOf 26 = .ok (.goto 4, 3) := by decide +kernel
theorem d_Model_aheadOf_29 : decode b_Model_aheadOf 29 = .ok (.iconst 0, 1) := by decide +kernel
theorem d_Model_aheadOf_30 : decode b_Model_aheadOf 30 = .ok (.ireturn, 1) := by decide +kernel
theorem d_Model_place_0 : decode b_Model_place 0 = .ok (.iload_n 1, 1) := by decide +kernel
theorem d_Model_place_1 : decode b_Model_place 1 = .ok (.istore_n 2, 1) := by decide +kernel
theorem d_Model_place_2 : decode b_Model_place 2 = .ok (.iconst 0, 1) := by decide +kernel
theorem d_Model_place_3 : decode b_Model_place 3 = .ok (.istore_n 3, 1) := by decide +kernel
theorem d_Model_place_4 : decode b_Model_place 4 = .ok (.iload_n 3, 1) := by decide +kernel
theorem d_Model_place_5 : decode b_Model_place 5 = .ok (.iload_n 1, 1) := by decide +kernel
theorem d_Model_place_6 : decode b_Model_place 6 = .ok (.if_icmp .ge 17, 3) := by decide +kernel
theorem d_Model_place_9 : decode b_Model_place 9 = .ok (.iload_n 2, 1) := by decide +kernel
theorem d_Model_place_10 : decode b_Model_place 10 = .ok (.aload_n 0, 1) := by decide +kernel
theorem d_Model_place_11 : decode b_Model_place 11 = .ok (.iload_n 3, 1) := by decide +kernel
theorem d_Model_place_12 : decode b_Model_place 12 = .ok (.invokevirtual 88, 3) := by decide +kernel
theorem d_Model_place_15 : decode b_Model_place 15 = .ok (.iadd, 1) := by decide +kernel
theorem d_Model_place_16 : decode b_Model_place 16 = .ok (.istore_n 2, 1) := by decide +kernel
theorem d_Model_place_17 : decode b_Model_place 17 = .ok (.iinc 3 1, 3) := by decide +kernel
theorem d_Model_place_20 : decode b_Model_place 20 = .ok (.goto (-16), 3) := by decide +kernel
theorem d_Model_place_23 : decode b_Model_place 23 = .ok (.iload_n 2, 1) := by decide +kernel
theorem d_Model_place_24 : decode b_Model_place 24 = .ok (.ireturn, 1) := by decide +kernel
theorem d_Model_set_0 : decode b_Model_set 0 = .ok (.aload_n 0, 1) := by decide +kernel
theorem d_Model_set_1 : decode b_Model_set 1 = .ok (.iload_n 1, 1) := by decide +kernel
theorem d_Model_set_2 : decode b_Model_set 2 = .ok (.putfield 91, 3) := by decide +kernel
theorem d_Model_set_5 : decode b_Model_set 5 = .ok (.aload_n 0, 1) := by decide +kernel
theorem d_Model_set_6 : decode b_Model_set 6 = .ok (.iload_n 2, 1) := by decide +kernel
theorem d_Model_set_7 : decode b_Model_set 7 = .ok (.putfield 94, 3) := by decide +kernel
theorem d_Model_set_10 : decode b_Model_set 10 = .ok (.return_, 1) := by decide +kernel
theorem d_Model_test_0 : decode b_Model_test 0 = .ok (.iconst 0, 1) := by decide +kernel
theorem d_Model_test_1 : decode b_Model_test 1 = .ok (.istore 5, 2) := by decide +kernel
theorem d_Model_test_3 : decode b_Model_test 3 = .ok (.iload_n 2, 1) := by decide +kernel
theorem d_Model_test_4 : decode b_Model_test 4 = .ok (.istore 6, 2) := by decide +kernel
theorem d_Model_test_6 : decode b_Model_test 6 = .ok (.aload_n 0, 1) := by decide +kernel
theorem d_Model_test_7 : decode b_Model_test 7 = .ok (.getfield 23, 3) := by decide +kernel
theorem d_Model_test_10 : decode b_Model_test 10 = .ok (.bipush 8, 2) := by decide +kernel
theorem d_Model_test_12 : decode b_Model_test 12 = .ok (.iload 5, 2) := by decide +kernel
theorem d_Model_test_14 : decode b_Model_test 14 = .ok (.imul, 1) := by decide +kernel
theorem d_Model_test_15 : decode b_Model_test 15 = .ok (.iload_n 1, 1) := by decide +kernel
theorem d_Model_test_16 : decode b_Model_test 16 = .ok (.iadd, 1) := by decide +kernel
theorem d_Model_test_17 : decode b_Model_test 17 = .ok (.baload, 1) := by decide +kernel
theorem d_Model_test_18 : decode b_Model_test 18 = .ok (.ifCond .eq 8, 3) := by decide +kernel
theorem d_Model_test_21 : decode b_Model_test 21 = .ok (.iload 6, 2) := by decide +kernel
theorem d_Model_test_23 : decode b_Model_test 23 = .ok (.ifCond .le 34, 3) := by decide +kernel
theorem d_Model_test_26 : decode b_Model_test 26 = .ok (.iload 6, 2) := by decide +kernel
theorem d_Model_test_28 : decode b_Model_test 28 = .ok (.aload_n 0, 1) := by decide +kernel
theorem d_Model_test_29 : decode b_Model_test 29 = .ok (.getfield 23, 3) := by decide +kernel
theorem d_Model_test_32 : decode b_Model_test 32 = .ok (.bipush 8, 2) := by decide +kernel
theorem d_Model_test_34 : decode b_Model_test 34 = .ok (.iload 5, 2) := by decide +kernel
theorem d_Model_test_36 : decode b_Model_test 36 = .ok (.imul, 1) := by decide +kernel
theorem d_Model_test_37 : decode b_Model_test 37 = .ok (.iload_n 1, 1) := by decide +kernel
theorem d_Model_test_38 : decode b_Model_test 38 = .ok (.iadd, 1) := by decide +kernel
theorem d_Model_test_39 : decode b_Model_test 39 = .ok (.baload, 1) := by decide +kernel
theorem d_Model_test_40 : decode b_Model_test 40 = .ok (.ifCond .eq 7, 3) := by decide +kernel
theorem d_Model_test_43 : decode b_Model_test 43 = .ok (.iconst 1, 1) := by decide +kernel
theorem d_Model_test_44 : decode b_Model_test 44 = .ok (.goto 4, 3) := by decide +kernel
theorem d_Model_test_47 : decode b_Model_test 47 = .ok (.iconst 0, 1) := by decide +kernel
theorem d_Model_test_48 : decode b_Model_test 48 = .ok (.isub, 1) := by decide +kernel
theorem d_Model_test_49 : decode b_Model_test 49 = .ok (.istore 6, 2) := by decide +kernel
theorem d_Model_test_51 : decode b_Model_test 51 = .ok (.iinc 5 1, 3) := by decide +kernel
theorem d_Model_test_54 : decode b_Model_test 54 = .ok (.goto (-48), 3) := by decide +kernel
theorem d_Model_test_57 : decode b_Model_test 57 = .ok (.bipush 8, 2) := by decide +kernel
theorem d_Model_test_59 : decode b_Model_test 59 = .ok (.iload 5, 2) := by decide +kernel
theorem d_Model_test_61 : decode b_Model_test 61 = .ok (.imul, 1) := by decide +kernel
theorem d_Model_test_62 : decode b_Model_test 62 = .ok (.iload_n 1, 1) := by decide +kernel
theorem d_Model_test_63 : decode b_Model_test 63 = .ok (.iadd, 1) := by decide +kernel
theorem d_Model_test_64 : decode b_Model_test 64 = .ok (.istore 7, 2) := by decide +kernel
theorem d_Model_test_66 : decode b_Model_test 66 = .ok (.iload 4, 2) := by decide +kernel
theorem d_Model_test_68 : decode b_Model_test 68 = .ok (.bipush 16, 2) := by decide +kernel
theorem d_Model_test_70 : decode b_Model_test 70 = .ok (.aload_n 0, 1) := by decide +kernel
theorem d_Model_test_71 : decode b_Model_test 71 = .ok (.iload_n 1, 1) := by decide +kernel
theorem d_Model_test_72 : decode b_Model_test 72 = .ok (.invokevirtual 85, 3) := by decide +kernel
theorem d_Model_test_75 : decode b_Model_test 75 = .ok (.imul, 1) := by decide +kernel
theorem d_Model_test_76 : decode b_Model_test 76 = .ok (.iadd, 1) := by decide +kernel
theorem d_Model_test_77 : decode b_Model_test 77 = .ok (.istore 8, 2) := by decide +kernel
theorem d_Model_test_79 : decode b_Model_test 79 = .ok (.iload_n 3, 1) := by decide +kernel
theorem d_Model_test_80 : decode b_Model_test 80 = .ok (.tableswitch 219 0 14 #[76, 86, 96, 105, 123, 133, 148, 157, 123, 168, 183, 148, 157, 193, 208], 76) := by decide +kernel
theorem d_Model_test_156 : decode b_Model_test 156 = .ok (.aload_n 0, 1) := by decide +kernel
theorem d_Model_test_157 : decode b_Model_test 157 = .ok (.iconst 5, 1) := by decide +kernel
theorem d_Model_test_158 : decode b_Model_test 158 = .ok (.bipush 7, 2) := by decide +kernel
theorem d_Model_test_160 : decode b_Model_test 160 = .ok (.invokevirtual 100, 3) := by decide +kernel
theorem d_Model_test_163 : decode b_Model_test 163 = .ok (.goto 146, 3) := by decide +kernel
theorem d_Model_test_166 : decode b_Model_test 166 = .ok (.aload_n 0, 1) := by decide +kernel
theorem d_Model_test_167 : decode b_Model_test 167 = .ok (.iconst 0, 1) := by decide +kernel
theorem d_Model_test_168 : decode b_Model_test 168 = .ok (.iload 5, 2) := by decide +kernel
theorem d_Model_test_170 : decode b_Model_test 170 = .ok (.invokevirtual 100, 3) := by decide +kernel
theorem d_Model_test_173 : decode b_Model_test 173 = .ok (.goto 136, 3) := by decide +kernel
theorem d_Model_test_176 : decode b_Model_test 176 = .ok (.aload_n 0, 1) := by decide +kernel
theorem d_Model_test_177 : decode b_Model_test 177 = .ok (.iconst 3, 1) := by decide +kernel
theorem d_Model_test_178 : decode b_Model_test 178 = .ok (.iconst 0, 1) := by decide +kernel
theorem d_Model_test_179 : decode b_Model_test 179 = .ok (.invokevirtual 100, 3) := by decide +kernel
theorem d_Model_test_182 : decode b_Model_test 182 = .ok (.goto 127, 3) := by decide +kernel
theorem d_Model_test_185 : decode b_Model_test 185 = .ok (.aload_n 0, 1) := by decide +kernel
theorem d_Model_test_186 : decode b_Model_test 186 = .ok (.bipush 8, 2) := by decide +kernel
theorem d_Model_test_188 : decode b_Model_test 188 = .ok (.iload 4, 2) := by decide +kernel
theorem d_Model_test_190 : decode b_Model_test 190 = .ok (.bipush 16, 2) := by decide +kernel
theorem d_Model_test_192 : decode b_Model_test 192 = .ok (.iload_n 2, 1) := by decide +kernel
theorem d_Model_test_193 : decode b_Model_test 193 = .ok (.iconst 1, 1) := by decide +kernel
theorem d_Model_test_194 : decode b_Model_test 194 = .ok (.iadd, 1) := by decide +kernel
theorem d_Model_test_195 : decode b_Model_test 195 = .ok (.imul, 1) := by decide +kernel
theorem d_Model_test_196 : decode b_Model_test 196 = .ok (.iadd, 1) := by decide +kernel
theorem d_Model_test_197 : decode b_Model_test 197 = .ok (.invokevirtual 100, 3) := by decide +kernel
theorem d_Model_test_200 : decode b_Model_test 200 = .ok (.goto 109, 3) := by decide +kernel
theorem d_Model_test_203 : decode b_Model_test 203 = .ok (.aload_n 0, 1) := by decide +kernel
theorem d_Model_test_204 : decode b_Model_test 204 = .ok (.bipush 11, 2) := by decide +kernel
theorem d_Model_test_206 : decode b_Model_test 206 = .ok (.iconst 0, 1) := by decide +kernel
theorem d_Model_test_207 : decode b_Model_test 207 = .ok (.invokevirtual 100, 3) := by decide +kernel
theorem d_Model_test_210 : decode b_Model_test 210 = .ok (.goto 99, 3) := by decide +kernel
theorem d_Model_test_213 : decode b_Model_test 213 = .ok (.aload_n 0, 1) := by decide +kernel
theorem d_Model_test_214 : decode b_Model_test 214 = .ok (.iconst 0, 1) := by decide +kernel
theorem d_Model_test_215 : decode b_Model_test 215 = .ok (.aload_n 0, 1) := by decide +kernel
theorem d_Model_test_216 : decode b_Model_test 216 = .ok (.getfield 27, 3) := by decide +kernel
theorem d_Model_test_219 : decode b_Model_test 219 = .ok (.iload 7, 2) := by decide +kernel
theorem d_Model_test_221 : decode b_Model_test 221 = .ok (.iaload, 1) := by decide +kernel
theorem d_Model_test_222 : decode b_Model_test 222 = .ok (.invokevirtual 100, 3) := by decide +kernel
theorem d_Model_test_225 : decode b_Model_test 225 = .ok (.goto 84, 3) := by decide +kernel
theorem d_Model_test_228 : decode b_Model_test 228 = .ok (.aload_n 0, 1) := by decide +kernel
theorem d_Model_test_229 : decode b_Model_test 229 = .ok (.iconst 4, 1) := by decide +kernel
theorem d_Model_test_230 : decode b_Model_test 230 = .ok (.iconst 0, 1) := by decide +kernel
theorem d_Model_test_231 : decode b_Model_test 231 = .ok (.invokevirtual 100, 3) := by decide +kernel
theorem d_Model_test_234 : decode b_Model_test 234 = .ok (.goto 75, 3) := by decide +kernel
theorem d_Model_test_237 : decode b_Model_test 237 = .ok (.aload_n 0, 1) := by decide +kernel
theorem d_Model_test_238 : decode b_Model_test 238 = .ok (.bipush 8, 2) := by decide +kernel
theorem d_Model_test_240 : decode b_Model_test 240 = .ok (.iload 8, 2) := by decide +kernel
theorem d_Model_test_242 : decode b_Model_test 242 = .ok (.invokevirtual 100, 3) := by decide +kernel
theorem d_Model_test_245 : decode b_Model_test 245 = .ok (.goto 64, 3) := by decide +kernel
theorem d_Model_test_248 : decode b_Model_test 248 = .ok (.aload_n 0, 1) := by decide +kernel
theorem d_Model_test_249 : decode b_Model_test 249 = .ok (.iconst 0, 1) := by decide +kernel
theorem d_Model_test_250 : decode b_Model_test 250 = .ok (.aload_n 0, 1) := by decide +kernel
theorem d_Model_test_251 : decode b_Model_test 251 = .ok (.getfield 30, 3) := by decide +kernel
theorem d_Model_test_254 : decode b_Model_test 254 = .ok (.iload 7, 2) := by decide +kernel
theorem d_Model_test_256 : decode b_Model_test 256 = .ok (.iaload, 1) := by decide +kernel
theorem d_Model_test_257 : decode b_Model_test 257 = .ok (.invokevirtual 100, 3) := by decide +kernel
theorem d_Model_test_260 : decode b_Model_test 260 = .ok (.goto 49, 3) := by decide +kernel
theorem d_Model_test_263 : decode b_Model_test 263 = .ok (.aload_n 0, 1) := by decide +kernel
theorem d_Model_test_264 : decode b_Model_test 264 = .ok (.bipush 10, 2) := by decide +kernel
theorem d_Model_test_266 : decode b_Model_test 266 = .ok (.iconst 0, 1) := by decide +kernel
theorem d_Model_test_267 : decode b_Model_test 267 = .ok (.invokevirtual 100, 3) := by decide +kernel
theorem d_Model_test_270 : decode b_Model_test 270 = .ok (.goto 39, 3) := by decide +kernel
theorem d_Model_test_273 : decode b_Model_test 273 = .ok (.aload_n 0, 1) := by decide +kernel
theorem d_Model_test_274 : decode b_Model_test 274 = .ok (.iconst 0, 1) := by decide +kernel
theorem d_Model_test_275 : decode b_Model_test 275 = .ok (.aload_n 0, 1) := by decide +kernel
theorem d_Model_test_276 : decode b_Model_test 276 = .ok (.getfield 33, 3) := by decide +kernel
theorem d_Model_test_279 : decode b_Model_test 279 = .ok (.iload 7, 2) := by decide +kernel
theorem d_Model_test_281 : decode b_Model_test 281 = .ok (.iaload, 1) := by decide +kernel
theorem d_Model_test_282 : decode b_Model_test 282 = .ok (.invokevirtual 100, 3) := by decide +kernel
theorem d_Model_test_285 : decode b_Model_test 285 = .ok (.goto 24, 3) := by decide +kernel
theorem d_Model_test_288 : decode b_Model_test 288 = .ok (.aload_n 0, 1) := by decide +kernel
theorem d_Model_test_289 : decode b_Model_test 289 = .ok (.bipush 6, 2) := by decide +kernel
theorem d_Model_test_291 : decode b_Model_test 291 = .ok (.bipush 7, 2) := by decide +kernel
theorem d_Model_test_293 : decode b_Model_test 293 = .ok (.invokevirtual 100, 3) := by decide +kernel
theorem d_Model_test_296 : decode b_Model_test 296 = .ok (.goto 13, 3) := by decide +kernel
theorem d_Model_test_299 : decode b_Model_test 299 = .ok (.aload_n 0, 1) := by decide +kernel
theorem d_Model_test_300 : decode b_Model_test 300 = .ok (.bipush 7, 2) := by decide +kernel
theorem d_Model_test_302 : decode b_Model_test 302 = .ok (.iload 8, 2) := by decide +kernel
theorem d_Model_test_304 : decode b_Model_test 304 = .ok (.iconst 1, 1) := by decide +kernel
theorem d_Model_test_305 : decode b_Model_test 305 = .ok (.iadd, 1) := by decide +kernel
theorem d_Model_test_306 : decode b_Model_test 306 = .ok (.invokevirtual 100, 3) := by decide +kernel
theorem d_Model_test_309 : decode b_Model_test 309 = .ok (.return_, 1) := by decide +kernel
theorem d_Model_find_0 : decode b_Model_find 0 = .ok (.iconst 0, 1) := by decide +kernel
theorem d_Model_find_1 : decode b_Model_find 1 = .ok (.istore_n 2, 1) := by decide +kernel
theorem d_Model_find_2 : decode b_Model_find 2 = .ok (.aload_n 0, 1) := by decide +kernel
theorem d_Model_find_3 : decode b_Model_find 3 = .ok (.iload_n 2, 1) := by decide +kernel
theorem d_Model_find_4 : decode b_Model_find 4 = .ok (.iconst 1, 1) := by decide +kernel
theorem d_Model_find_5 : decode b_Model_find 5 = .ok (.iadd, 1) := by decide +kernel
theorem d_Model_find_6 : decode b_Model_find 6 = .ok (.invokevirtual 97, 3) := by decide +kernel
theorem d_Model_find_9 : decode b_Model_find 9 = .ok (.iload_n 1, 1) := by decide +kernel
theorem d_Model_find_10 : decode b_Model_find 10 = .ok (.if_icmp .gt 9, 3) := by decide +kernel
theorem d_Model_find_13 : decode b_Model_find 13 = .ok (.iinc 2 1, 3) := by decide +kernel
theorem d_Model_find_16 : decode b_Model_find 16 = .ok (.goto (-14), 3) := by decide +kernel
theorem d_Model_find_19 : decode b_Model_find 19 = .ok (.iload_n 1, 1) := by decide +kernel
theorem d_Model_find_20 : decode b_Model_find 20 = .ok (.aload_n 0, 1) := by decide +kernel
theorem d_Model_find_21 : decode b_Model_find 21 = .ok (.iload_n 2, 1) := by decide +kernel
theorem d_Model_find_22 : decode b_Model_find 22 = .ok (.invokevirtual 97, 3) := by decide +kernel
theorem d_Model_find_25 : decode b_Model_find 25 = .ok (.isub, 1) := by decide +kernel
theorem d_Model_find_26 : decode b_Model_find 26 = .ok (.istore_n 3, 1) := by decide +kernel
theorem d_Model_find_27 : decode b_Model_find 27 = .ok (.aload_n 0, 1) := by decide +kernel
theorem d_Model_find_28 : decode b_Model_find 28 = .ok (.iload_n 2, 1) := by decide +kernel
theorem d_Model_find_29 : decode b_Model_find 29 = .ok (.invokevirtual 88, 3) := by decide +kernel
theorem d_Model_find_32 : decode b_Model_find 32 = .ok (.istore 4, 2) := by decide +kernel
theorem d_Model_find_34 : decode b_Model_find 34 = .ok (.iload_n 3, 1) := by decide +kernel
theorem d_Model_find_35 : decode b_Model_find 35 = .ok (.iload 4, 2) := by decide +kernel
theorem d_Model_find_37 : decode b_Model_find 37 = .ok (.if_icmp .ne 57, 3) := by decide +kernel
theorem d_Model_find_40 : decode b_Model_find 40 = .ok (.aload_n 0, 1) := by decide +kernel
theorem d_Model_find_41 : decode b_Model_find 41 = .ok (.aload_n 0, 1) := by decide +kernel
theorem d_Model_find_42 : decode b_Model_find 42 = .ok (.getfield 7, 3) := by decide +kernel
theorem d_Model_find_45 : decode b_Model_find 45 = .ok (.iload_n 2, 1) := by decide +kernel
theorem d_Model_find_46 : decode b_Model_find 46 = .ok (.iaload, 1) := by decide +kernel
theorem d_Model_find_47 : decode b_Model_find 47 = .ok (.aload_n 0, 1) := by decide +kernel
theorem d_Model_find_48 : decode b_Model_find 48 = .ok (.getfield 7, 3) := by decide +kernel
theorem d_Model_find_51 : decode b_Model_find 51 = .ok (.iload_n 2, 1) := by decide +kernel
theorem d_Model_find_52 : decode b_Model_find 52 = .ok (.iaload, 1) := by decide +kernel
theorem d_Model_find_53 : decode b_Model_find 53 = .ok (.bipush 7, 2) := by decide +kernel
theorem d_Model_find_55 : decode b_Model_find 55 = .ok (.if_icmp .eq 14, 3) := by decide +kernel
theorem d_Model_find_58 : decode b_Model_find 58 = .ok (.aload_n 0, 1) := by decide +kernel
theorem d_Model_find_59 : decode b_Model_find 59 = .ok (.getfield 7, 3) := by decide +kernel
theorem d_Model_find_62 : decode b_Model_find 62 = .ok (.iload_n 2, 1) := by decide +kernel
theorem d_Model_find_63 : decode b_Model_find 63 = .ok (.iaload, 1) := by decide +kernel
theorem d_Model_find_64 : decode b_Model_find 64 = .ok (.bipush 8, 2) := by decide +kernel
theorem d_Model_find_66 : decode b_Model_find 66 = .ok (.if_icmp .ne 16, 3) := by decide +kernel
theorem d_Model_find_69 : decode b_Model_find 69 = .ok (.aload_n 0, 1) := by decide +kernel
theorem d_Model_find_70 : decode b_Model_find 70 = .ok (.aload_n 0, 1) := by decide +kernel
theorem d_Model_find_71 : decode b_Model_find 71 = .ok (.getfield 13, 3) := by decide +kernel
theorem d_Model_find_74 : decode b_Model_find 74 = .ok (.iload_n 2, 1) := by decide +kernel
theorem d_Model_find_75 : decode b_Model_find 75 = .ok (.iaload, 1) := by decide +kernel
theorem d_Model_find_76 : decode b_Model_find 76 = .ok (.invokevirtual 97, 3) := by decide +kernel
theorem d_Model_find_79 : decode b_Model_find 79 = .ok (.goto 9, 3) := by decide +kernel
theorem d_Model_find_82 : decode b_Model_find 82 = .ok (.aload_n 0, 1) := by decide +kernel
theorem d_Model_find_83 : decode b_Model_find 83 = .ok (.getfield 13, 3) := by decide +kernel
theorem d_Model_find_86 : decode b_Model_find 86 = .ok (.iload_n 2, 1) := by decide +kernel
theorem d_Model_find_87 : decode b_Model_find 87 = .ok (.iaload, 1) := by decide +kernel
theorem d_Model_find_88 : decode b_Model_find 88 = .ok (.invokevirtual 100, 3) := by decide +kernel
theorem d_Model_find_91 : decode b_Model_find 91 = .ok (.goto 44, 3) := by decide +kernel
theorem d_Model_find_94 : decode b_Model_find 94 = .ok (.iload_n 3, 1) := by decide +kernel
theorem d_Model_find_95 : decode b_Model_find 95 = .ok (.iload 4, 2) := by decide +kernel
theorem d_Model_find_97 : decode b_Model_find 97 = .ok (.iconst 1, 1) := by decide +kernel
theorem d_Model_find_98 : decode b_Model_find 98 = .ok (.isub, 1) := by decide +kernel
theorem d_Model_find_99 : decode b_Model_find 99 = .ok (.if_icmp .ne 13, 3) := by decide +kernel
theorem d_Model_find_102 : decode b_Model_find 102 = .ok (.aload_n 0, 1) := by decide +kernel
theorem d_Model_find_103 : decode b_Model_find 103 = .ok (.bipush 12, 2) := by decide +kernel
theorem d_Model_find_105 : decode b_Model_find 105 = .ok (.iconst 0, 1) := by decide +kernel
theorem d_Model_find_106 : decode b_Model_find 106 = .ok (.invokevirtual 100, 3) := by decide +kernel
theorem d_Model_find_109 : decode b_Model_find 109 = .ok (.goto 26, 3) := by decide +kernel
theorem d_Model_find_112 : decode b_Model_find 112 = .ok (.aload_n 0, 1) := by decide +kernel
theorem d_Model_find_113 : decode b_Model_find 113 = .ok (.aload_n 0, 1) := by decide +kernel
theorem d_Model_find_114 : decode b_Model_find 114 = .ok (.getfield 13, 3) := by decide +kernel
theorem d_Model_find_117 : decode b_Model_find 117 = .ok (.iload_n 2, 1) := by decide +kernel
theorem d_Model_find_118 : decode b_Model_find 118 = .ok (.iaload, 1) := by decide +kernel
theorem d_Model_find_119 : decode b_Model_find 119 = .ok (.iload_n 3, 1) := by decide +kernel
theorem d_Model_find_120 : decode b_Model_find 120 = .ok (.bipush 16, 2) := by decide +kernel
theorem d_Model_find_122 : decode b_Model_find 122 = .ok (.idiv, 1) := by decide +kernel
theorem d_Model_find_123 : decode b_Model_find 123 = .ok (.iload_n 3, 1) := by decide +kernel
theorem d_Model_find_124 : decode b_Model_find 124 = .ok (.bipush 16, 2) := by decide +kernel
theorem d_Model_find_126 : decode b_Model_find 126 = .ok (.irem, 1) := by decide +kernel
theorem d_Model_find_127 : decode b_Model_find 127 = .ok (.aload_n 0, 1) := by decide +kernel
theorem d_Model_find_128 : decode b_Model_find 128 = .ok (.iload_n 2, 1) := by decide +kernel
theorem d_Model_find_129 : decode b_Model_find 129 = .ok (.invokevirtual 97, 3) := by decide +kernel
theorem d_Model_find_132 : decode b_Model_find 132 = .ok (.invokevirtual 104, 3) := by decide +kernel
theorem d_Model_find_135 : decode b_Model_find 135 = .ok (.return_, 1) := by decide +kernel
set_option maxHeartbeats 4000000 in
set_option maxRecDepth 100000 in
theorem c_Model_testsOf (l : Launch) (D : va_G) (cI cZ cL : ClassId) (m0 o1 o2 o3 o4 o5 o6 o7 o8 o9 o10 o11 : Nat) (P K Hm ru lo hi tm sa ca ta tn : Nat → Int32) (fo1 fk1 : Int32) (co np n stat how pl la stt q dn : Nat) (th : Nat → Int32) (t : Nat) (hn : n ≤ 4) (ht : t < 8) (hru : rulR ru tm th) : pl_I l y_Model_testsOf b_Model_testsOf 4 .int ({ frames := 0, cells := 0, slots := 0, locals := 0 } : Room) pl_E0 D classes (TY cI cZ cL) [.ref m0, .int (nI t)] [(m0, .inr (6, [.int (nI co), .int (nI np), .ref o1, .ref o2, .ref o3, .int (nI n), .ref o4, .ref o5, .ref o6, .ref o7, .int fo1, .int fk1, .int (nI stat), .int (nI how), .int (nI pl), .int (nI la), .int (nI stt), .int (nI q), .ref o8, .ref o9, .int (nI dn), .ref o10, .ref o11])), (o4, .inl (cZ, 32, .inl ru))] (fun (r : Int32) (_ : Unit) => r = nI (cntR th t n)) (fun (_ : Unit) => [(m0, .inr (6, [.int (nI co), .int (nI np), .ref o1, .ref o2, .ref o3, .int (nI n), .ref o4, .ref o5, .ref o6, .ref o7, .int fo1, .int fk1, .int (nI stat), .int (nI how), .int (nI pl), .int (nI la), .int (nI stt), .int (nI q), .ref o8, .ref o9, .int (nI dn), .ref o10, .ref o11])), (o4, .inl (cZ, 32, .inl ru))]) := by
  refine pl_startI (by decide) (Nat.le_of_ble_eq_true rfl) ?_
  intro p e s m args below meth c A ls X hr hlk hin hK hP hD hS hA hE hl
  have X : CallFix p m c b_Model_testsOf 4 s args TG R_Model := X
  have hx := X.1
  have hb := X.2.1
  have hl : lv_has ls 4 [(0, .ref m0), (1, .int (nI t))] := hl
  refine lv_iconst (v := nI 0) hx hb d_Model_testsOf_0 (by decide) ?_
  refine lv_istore_n hx hb d_Model_testsOf_1 rfl hl (by decide) (lv' := [(2, .int (nI 0)), (0, .ref m0), (1, .int (nI t))]) rfl (fun ls hl => ?_)
  refine lv_iconst (v := nI 0) hx hb d_Model_testsOf_2 (by decide) ?_
  refine lv_istore_n hx hb d_Model_testsOf_3 rfl hl (by decide) (lv' := [(3, .int (nI 0)), (2, .int (nI 0)), (0, .ref m0), (1, .int (nI t))]) rfl (fun ls hl => ?_)
  have loop_4 : ∀ (k : Nat) (s0 : Nat) (H : Heap) (locs : List Loc) (ls : Array Slot), n - s0 = k → (s0 ≤ n) → va_P D classes [(m0, .inr (6, [.int (nI co), .int (nI np), .ref o1, .ref o2, .ref o3, .int (nI n), .ref o4, .ref o5, .ref o6, .ref o7, .int fo1, .int fk1, .int (nI stat), .int (nI how), .int (nI pl), .int (nI la), .int (nI stt), .int (nI q), .ref o8, .ref o9, .int (nI dn), .ref o10, .ref o11])), (o4, .inl (cZ, 32, .inl ru))] H → va_D A [(m0, .inr (6, [.int (nI co), .int (nI np), .ref o1, .ref o2, .ref o3, .int (nI n), .ref o4, .ref o5, .ref o6, .ref o7, .int fo1, .int fk1, .int (nI stat), .int (nI how), .int (nI pl), .int (nI la), .int (nI stt), .int (nI q), .ref o8, .ref o9, .int (nI dn), .ref o10, .ref o11])), (o4, .inl (cZ, 32, .inl ru))] → va_S A s.heap H locs → lv_has ls 4 [(3, .int (nI s0)), (2, .int (nI (cntR th t s0))), (0, .ref m0), (1, .int (nI t))] → W p l e ({ frames := 0, cells := 0, slots := 0, locals := 0 } : Room) s m args below meth c H locs 0 0 (MQ below (va_Qi (fun (r : Int32) (_ : Unit) => r = nI (cntR th t n)) (fun u => pl_out D classes (TY cI cZ cL) A ((fun (_ : Unit) => [(m0, .inr (6, [.int (nI co), .int (nI np), .ref o1, .ref o2, .ref o3, .int (nI n), .ref o4, .ref o5, .ref o6, .ref o7, .int fo1, .int fk1, .int (nI stat), .int (nI how), .int (nI pl), .int (nI la), .int (nI stt), .int (nI q), .ref o8, .ref o9, .int (nI dn), .ref o10, .ref o11])), (o4, .inl (cZ, 32, .inl ru))]) u)) A) args s 0 0 A) (F0 m 4 ls []) := by
    intro k
    induction k using Nat.strongRecOn with
    | _ k ih =>
    intro s0 H locs ls hk hs0 hP hD hS hl
    refine lv_iload_n hx hb d_Model_testsOf_4 rfl (lv_at hl 0 rfl) ?_
    refine lv_aload_n hx hb d_Model_testsOf_5 rfl (lv_at hl 2 rfl) ?_
    refine pl_get X fw_Model_19 hK hP 0 rfl (v := .int (nI n)) rfl d_Model_testsOf_6 ?_
    refine pl_icmp_ge X (by omega) (by omega) d_Model_testsOf_9 rfl (fun g9 => ?_) (fun g9 => ?_)
    · skip
      refine lv_iload_n hx hb d_Model_testsOf_40 rfl (lv_at hl 1 rfl) ?_
      exact pl_iret X hr hlk hK rfl () (by rw [show s0 = n by omega]) hP hD hS d_Model_testsOf_41
    · skip
      refine lv_iload_n hx hb d_Model_testsOf_12 rfl (lv_at hl 1 rfl) ?_
      refine lv_aload_n hx hb d_Model_testsOf_13 rfl (lv_at hl 2 rfl) ?_
      refine pl_get X fw_Model_23 hK hP 0 rfl (v := .ref o4) rfl d_Model_testsOf_14 ?_
      refine lv_bipush (v := nI 8) hx hb d_Model_testsOf_17 (by decide) ?_
      refine lv_iload_n hx hb d_Model_testsOf_19 rfl (lv_at hl 0 rfl) ?_
      refine pl_imul X d_Model_testsOf_20 (z := nI (s0 * 8)) (pk_mulC _ _) ?_
      refine lv_iload_n hx hb d_Model_testsOf_21 rfl (lv_at hl 3 rfl) ?_
      refine pl_iadd X d_Model_testsOf_22 (z := nI (s0 * 8 + t)) (nI_add _ _) ?_
      refine pl_zald X hK hP 1 1 rfl rfl (s0 * 8 + t) (by omega) (by decide) (z := bI (decide (¬ th (s0 * 8 + t) = -1))) (hru _ (by omega)).1 d_Model_testsOf_23 ?_
      refine pl_ifB_eq X d_Model_testsOf_24 rfl (fun g24 => ?_) (fun g24 => ?_)
      · skip
        refine lv_iconst (v := nI 0) hx hb d_Model_testsOf_31 (by decide) ?_
        refine pl_iadd X d_Model_testsOf_32 (z := nI (cntR th t (s0 + 1))) (by rw [cntR_no g24, nI_add]; rfl) ?_
        refine lv_istore_n hx hb d_Model_testsOf_33 rfl hl (by decide) (lv' := [(2, .int (nI (cntR th t (s0 + 1)))), (3, .int (nI s0)), (0, .ref m0), (1, .int (nI t))]) rfl (fun ls hl => ?_)
        refine lv_iinc hx hb d_Model_testsOf_34 hl (k := 1) rfl (nI_inc1 _) (by decide) (lv' := [(3, .int (nI (s0 + 1))), (2, .int (nI (cntR th t (s0 + 1)))), (0, .ref m0), (1, .int (nI t))]) rfl (fun ls hl => ?_)
        refine lv_goto hx hb d_Model_testsOf_37 rfl ?_
        exact ih _ (by omega) (s0 + 1) _ _ _ rfl (by omega) hP hD hS hl
      · skip
        refine lv_iconst (v := nI 1) hx hb d_Model_testsOf_27 (by decide) ?_
        refine lv_goto hx hb d_Model_testsOf_28 rfl ?_
        refine pl_iadd X d_Model_testsOf_32 (z := nI (cntR th t (s0 + 1))) (by rw [cntR_yes g24, nI_add]) ?_
        refine lv_istore_n hx hb d_Model_testsOf_33 rfl hl (by decide) (lv' := [(2, .int (nI (cntR th t (s0 + 1)))), (3, .int (nI s0)), (0, .ref m0), (1, .int (nI t))]) rfl (fun ls hl => ?_)
        refine lv_iinc hx hb d_Model_testsOf_34 hl (k := 1) rfl (nI_inc1 _) (by decide) (lv' := [(3, .int (nI (s0 + 1))), (2, .int (nI (cntR th t (s0 + 1)))), (0, .ref m0), (1, .int (nI t))]) rfl (fun ls hl => ?_)
        refine lv_goto hx hb d_Model_testsOf_37 rfl ?_
        exact ih _ (by omega) (s0 + 1) _ _ _ rfl (by omega) hP hD hS hl
  exact loop_4 _ 0 _ _ _ rfl (Nat.zero_le _) hP hD hS hl

set_option maxHeartbeats 4000000 in
set_option maxRecDepth 100000 in
theorem c_Model_aheadOf (l : Launch) (D : va_G) (cI cZ cL : ClassId) (m0 o1 o2 o3 o4 o5 o6 o7 o8 o9 o10 o11 : Nat) (P K Hm ru lo hi tm sa ca ta tn : Nat → Int32) (fo1 fk1 : Int32) (co np n stat how pl la stt q dn : Nat) (th : Nat → Int32) (i : Nat) (hn : n ≤ 4) (hnp : np ≤ 24) (hop : okP P np) (hok : okK P K np) (hru : rulR ru tm th) (hilt : i < np) : pl_I l y_Model_aheadOf b_Model_aheadOf 2 .int ({ frames := 1, cells := 0, slots := 0, locals := 23 } : Room) pl_E0 D classes (TY cI cZ cL) [.ref m0, .int (nI i)] [(m0, .inr (6, [.int (nI co), .int (nI np), .ref o1, .ref o2, .ref o3, .int (nI n), .ref o4, .ref o5, .ref o6, .ref o7, .int fo1, .int fk1, .int (nI stat), .int (nI how), .int (nI pl), .int (nI la), .int (nI stt), .int (nI q), .ref o8, .ref o9, .int (nI dn), .ref o10, .ref o11])), (o1, .inl (cI, 24, .inl P)), (o2, .inl (cI, 24, .inl K)), (o4, .inl (cZ, 32, .inl ru))] (fun (r : Int32) (_ : Unit) => r = nI (ahd P K th n i)) (fun (_ : Unit) => [(m0, .inr (6, [.int (nI co), .int (nI np), .ref o1, .ref o2, .ref o3, .int (nI n), .ref o4, .ref o5, .ref o6, .ref o7, .int fo1, .int fk1, .int (nI stat), .int (nI how), .int (nI pl), .int (nI la), .int (nI stt), .int (nI q), .ref o8, .ref o9, .int (nI dn), .ref o10, .ref o11])), (o1, .inl (cI, 24, .inl P)), (o2, .inl (cI, 24, .inl K)), (o4, .inl (cZ, 32, .inl ru))]) := by
  refine pl_startI (by decide) (Nat.le_of_ble_eq_true rfl) ?_
  intro p e s m args below meth c A ls X hr hlk hin hK hP hD hS hA hE hl
  have X : CallFix p m c b_Model_aheadOf 2 s args TG R_Model := X
  have hx := X.1
  have hb := X.2.1
  have hl : lv_has ls 2 [(0, .ref m0), (1, .int (nI i))] := hl
  obtain ⟨ho1, ho2⟩ := hop i hilt
  have hcn := cntR_le th (kn K i) n
  refine lv_aload_n hx hb d_Model_aheadOf_0 rfl (lv_at hl 0 rfl) ?_
  refine pl_get X fw_Model_7 hK hP 0 rfl (v := .ref o1) rfl d_Model_aheadOf_1 ?_
  refine lv_iload_n hx hb d_Model_aheadOf_4 rfl (lv_at hl 1 rfl) ?_
  refine pl_iald X hK hP 1 0 rfl rfl i (by omega) (by decide) (z := nI (opn P i)) ho1 d_Model_aheadOf_5 ?_
  refine lv_bipush (v := nI 9) hx hb d_Model_aheadOf_6 (by decide) ?_
  refine pl_icmp_ne X (by omega) (by decide) d_Model_aheadOf_8 rfl (fun g8 => ?_) (fun g8 => ?_)
  · skip
    refine lv_iconst (v := nI 0) hx hb d_Model_aheadOf_29 (by decide) ?_
    exact pl_iret X hr hlk hK rfl () (ahd_0 g8) hP hD hS d_Model_aheadOf_30
  · skip
    obtain ⟨hk1, hk2⟩ := okK_9 hok hilt g8
    refine lv_bipush (v := nI 16) hx hb d_Model_aheadOf_11 (by decide) ?_
    refine lv_aload_n hx hb d_Model_aheadOf_13 rfl (lv_at hl 0 rfl) ?_
    refine lv_aload_n hx hb d_Model_aheadOf_14 rfl (lv_at hl 0 rfl) ?_
    refine pl_get X fw_Model_13 hK hP 0 rfl (v := .ref o2) rfl d_Model_aheadOf_15 ?_
    refine lv_iload_n hx hb d_Model_aheadOf_18 rfl (lv_at hl 1 rfl) ?_
    refine pl_iald X hK hP 2 0 rfl rfl i (by omega) (by decide) (z := nI (kn K i)) hk1 d_Model_aheadOf_19 ?_
    refine pl_callVI X (rest := [.int (nI 16)]) (As := [.int (nI (kn K i))]) (b := m0) (c_Model_testsOf l D cI cZ cL m0 o1 o2 o3 o4 o5 o6 o7 o8 o9 o10 o11 P K Hm ru lo hi tm sa ca ta tn fo1 fk1 co np n stat how pl la stt q dn th (kn K i) hn hk2 hru) ck_Model_85 pl_E0_ok trivial hK hP hD hS hA (T := F_Model) (N := N_Model) (ci := 6) rfl 0 rfl [0, 3] [1, 2] [2, 0, 1, 3] rfl (by decide) (wr := [(o1, .inl (cI, 24, .inl P)), (o2, .inl (cI, 24, .inl K))]) rfl (by decide) (by decide) (wf := fun _ => [(m0, .inr (6, [.int (nI co), .int (nI np), .ref o1, .ref o2, .ref o3, .int (nI n), .ref o4, .ref o5, .ref o6, .ref o7, .int fo1, .int fk1, .int (nI stat), .int (nI how), .int (nI pl), .int (nI la), .int (nI stt), .int (nI q), .ref o8, .ref o9, .int (nI dn), .ref o10, .ref o11])), (o1, .inl (cI, 24, .inl P)), (o2, .inl (cI, 24, .inl K)), (o4, .inl (cZ, 32, .inl ru))]) (fun _ => rfl) (by decide) rfl hl.1 rfl (Nat.le_of_ble_eq_true rfl) (by decide) (by decide) d_Model_aheadOf_20 (fun r u0 H locs hcq hP hD hS => ?_)
    subst hcq
    refine pl_imul X d_Model_aheadOf_23 (z := nI ((cntR th (kn K i) n) * 16)) (pk_mulC _ _) ?_
    refine lv_iconst (v := nI 1) hx hb d_Model_aheadOf_24 (by decide) ?_
    refine pl_iadd X d_Model_aheadOf_25 (z := nI ((cntR th (kn K i) n) * 16 + 1)) (nI_add _ _) ?_
    refine lv_goto hx hb d_Model_aheadOf_26 rfl ?_
    exact pl_iret X hr hlk hK rfl () (ahd_1 g8) hP hD hS d_Model_aheadOf_30

set_option maxHeartbeats 4000000 in
set_option maxRecDepth 100000 in
theorem c_Model_place (l : Launch) (D : va_G) (cI cZ cL : ClassId) (m0 o1 o2 o3 o4 o5 o6 o7 o8 o9 o10 o11 : Nat) (P K Hm ru lo hi tm sa ca ta tn : Nat → Int32) (fo1 fk1 : Int32) (co np n stat how pl la stt q dn : Nat) (th : Nat → Int32) (i : Nat) (hn : n ≤ 4) (hnp : np ≤ 24) (hop : okP P np) (hok : okK P K np) (hru : rulR ru tm th) (hile : i ≤ np) : pl_I l y_Model_place b_Model_place 4 .int ({ frames := 2, cells := 0, slots := 0, locals := 44 } : Room) pl_E0 D classes (TY cI cZ cL) [.ref m0, .int (nI i)] [(m0, .inr (6, [.int (nI co), .int (nI np), .ref o1, .ref o2, .ref o3, .int (nI n), .ref o4, .ref o5, .ref o6, .ref o7, .int fo1, .int fk1, .int (nI stat), .int (nI how), .int (nI pl), .int (nI la), .int (nI stt), .int (nI q), .ref o8, .ref o9, .int (nI dn), .ref o10, .ref o11])), (o1, .inl (cI, 24, .inl P)), (o2, .inl (cI, 24, .inl K)), (o4, .inl (cZ, 32, .inl ru))] (fun (r : Int32) (_ : Unit) => r = nI (plc P K th n i)) (fun (_ : Unit) => [(m0, .inr (6, [.int (nI co), .int (nI np), .ref o1, .ref o2, .ref o3, .int (nI n), .ref o4, .ref o5, .ref o6, .ref o7, .int fo1, .int fk1, .int (nI stat), .int (nI how), .int (nI pl), .int (nI la), .int (nI stt), .int (nI q), .ref o8, .ref o9, .int (nI dn), .ref o10, .ref o11])), (o1, .inl (cI, 24, .inl P)), (o2, .inl (cI, 24, .inl K)), (o4, .inl (cZ, 32, .inl ru))]) := by
  refine pl_startI (by decide) (Nat.le_of_ble_eq_true rfl) ?_
  intro p e s m args below meth c A ls X hr hlk hin hK hP hD hS hA hE hl
  have X : CallFix p m c b_Model_place 4 s args TG R_Model := X
  have hx := X.1
  have hb := X.2.1
  have hl : lv_has ls 4 [(0, .ref m0), (1, .int (nI i))] := hl
  refine lv_iload_n hx hb d_Model_place_0 rfl (lv_at hl 1 rfl) ?_
  refine lv_istore_n hx hb d_Model_place_1 rfl hl (by decide) (lv' := [(2, .int (nI i)), (0, .ref m0), (1, .int (nI i))]) rfl (fun ls hl => ?_)
  refine lv_iconst (v := nI 0) hx hb d_Model_place_2 (by decide) ?_
  refine lv_istore_n hx hb d_Model_place_3 rfl hl (by decide) (lv' := [(3, .int (nI 0)), (2, .int (nI i)), (0, .ref m0), (1, .int (nI i))]) rfl (fun ls hl => ?_)
  have loop_4 : ∀ (k : Nat) (j : Nat) (H : Heap) (locs : List Loc) (ls : Array Slot), i - j = k → (j ≤ i) → va_P D classes [(m0, .inr (6, [.int (nI co), .int (nI np), .ref o1, .ref o2, .ref o3, .int (nI n), .ref o4, .ref o5, .ref o6, .ref o7, .int fo1, .int fk1, .int (nI stat), .int (nI how), .int (nI pl), .int (nI la), .int (nI stt), .int (nI q), .ref o8, .ref o9, .int (nI dn), .ref o10, .ref o11])), (o1, .inl (cI, 24, .inl P)), (o2, .inl (cI, 24, .inl K)), (o4, .inl (cZ, 32, .inl ru))] H → va_D A [(m0, .inr (6, [.int (nI co), .int (nI np), .ref o1, .ref o2, .ref o3, .int (nI n), .ref o4, .ref o5, .ref o6, .ref o7, .int fo1, .int fk1, .int (nI stat), .int (nI how), .int (nI pl), .int (nI la), .int (nI stt), .int (nI q), .ref o8, .ref o9, .int (nI dn), .ref o10, .ref o11])), (o1, .inl (cI, 24, .inl P)), (o2, .inl (cI, 24, .inl K)), (o4, .inl (cZ, 32, .inl ru))] → va_S A s.heap H locs → lv_has ls 4 [(3, .int (nI j)), (2, .int (nI (i - j + plc P K th n j))), (0, .ref m0), (1, .int (nI i))] → W p l e ({ frames := 2, cells := 0, slots := 0, locals := 44 } : Room) s m args below meth c H locs 0 0 (MQ below (va_Qi (fun (r : Int32) (_ : Unit) => r = nI (plc P K th n i)) (fun u => pl_out D classes (TY cI cZ cL) A ((fun (_ : Unit) => [(m0, .inr (6, [.int (nI co), .int (nI np), .ref o1, .ref o2, .ref o3, .int (nI n), .ref o4, .ref o5, .ref o6, .ref o7, .int fo1, .int fk1, .int (nI stat), .int (nI how), .int (nI pl), .int (nI la), .int (nI stt), .int (nI q), .ref o8, .ref o9, .int (nI dn), .ref o10, .ref o11])), (o1, .inl (cI, 24, .inl P)), (o2, .inl (cI, 24, .inl K)), (o4, .inl (cZ, 32, .inl ru))]) u)) A) args s 0 0 A) (F0 m 4 ls []) := by
    intro k
    induction k using Nat.strongRecOn with
    | _ k ih =>
    intro j H locs ls hk hj0 hP hD hS hl
    refine lv_iload_n hx hb d_Model_place_4 rfl (lv_at hl 0 rfl) ?_
    refine lv_iload_n hx hb d_Model_place_5 rfl (lv_at hl 3 rfl) ?_
    refine pl_icmp_ge X (by omega) (by omega) d_Model_place_6 rfl (fun g6 => ?_) (fun g6 => ?_)
    · skip
      refine lv_iload_n hx hb d_Model_place_23 rfl (lv_at hl 1 rfl) ?_
      exact pl_iret X hr hlk hK rfl () (by rw [show j = i by omega, Nat.sub_self, Nat.zero_add]) hP hD hS d_Model_place_24
    · skip
      refine lv_iload_n hx hb d_Model_place_9 rfl (lv_at hl 1 rfl) ?_
      refine lv_aload_n hx hb d_Model_place_10 rfl (lv_at hl 2 rfl) ?_
      refine lv_iload_n hx hb d_Model_place_11 rfl (lv_at hl 0 rfl) ?_
      refine pl_callVI X (rest := [.int (nI (i - j + plc P K th n j))]) (As := [.int (nI j)]) (b := m0) (c_Model_aheadOf l D cI cZ cL m0 o1 o2 o3 o4 o5 o6 o7 o8 o9 o10 o11 P K Hm ru lo hi tm sa ca ta tn fo1 fk1 co np n stat how pl la stt q dn th j hn hnp hop hok hru (by omega)) ck_Model_88 pl_E0_ok trivial hK hP hD hS hA (T := F_Model) (N := N_Model) (ci := 6) rfl 0 rfl [0, 1, 2, 3] [] [0, 1, 2, 3] rfl (by decide) (wr := []) rfl (by decide) (by decide) (wf := fun _ => [(m0, .inr (6, [.int (nI co), .int (nI np), .ref o1, .ref o2, .ref o3, .int (nI n), .ref o4, .ref o5, .ref o6, .ref o7, .int fo1, .int fk1, .int (nI stat), .int (nI how), .int (nI pl), .int (nI la), .int (nI stt), .int (nI q), .ref o8, .ref o9, .int (nI dn), .ref o10, .ref o11])), (o1, .inl (cI, 24, .inl P)), (o2, .inl (cI, 24, .inl K)), (o4, .inl (cZ, 32, .inl ru))]) (fun _ => rfl) (by decide) rfl hl.1 rfl (Nat.le_of_ble_eq_true rfl) (by decide) (by decide) d_Model_place_12 (fun r u0 H locs hcq hP hD hS => ?_)
      subst hcq
      refine pl_iadd X d_Model_place_15 (z := nI (i - (j + 1) + plc P K th n (j + 1))) (by rw [nI_add]; congr 1; simp only [plc]; omega) ?_
      refine lv_istore_n hx hb d_Model_place_16 rfl hl (by decide) (lv' := [(2, .int (nI (i - (j + 1) + plc P K th n (j + 1)))), (3, .int (nI j)), (0, .ref m0), (1, .int (nI i))]) rfl (fun ls hl => ?_)
      refine lv_iinc hx hb d_Model_place_17 hl (k := 1) rfl (nI_inc1 _) (by decide) (lv' := [(3, .int (nI (j + 1))), (2, .int (nI (i - (j + 1) + plc P K th n (j + 1)))), (0, .ref m0), (1, .int (nI i))]) rfl (fun ls hl => ?_)
      refine lv_goto hx hb d_Model_place_20 rfl ?_
      exact ih _ (by omega) (j + 1) _ _ _ rfl (by omega) hP hD hS hl
  exact loop_4 _ 0 _ _ _ rfl (Nat.zero_le _) hP hD hS hl

set_option maxHeartbeats 4000000 in
set_option maxRecDepth 100000 in
theorem c_Model_set (l : Launch) (D : va_G) (cI cZ cL : ClassId) (m0 o1 o2 o3 o4 o5 o6 o7 o8 o9 o10 o11 : Nat) (P K Hm ru lo hi tm sa ca ta tn : Nat → Int32) (fo1 fk1 : Int32) (co np n stat how pl la stt q dn : Nat) (x y : Int32)  : pl_V l y_Model_set b_Model_set 3 ({ frames := 0, cells := 0, slots := 0, locals := 0 } : Room) pl_E0 D classes (TY cI cZ cL) [.ref m0, .int x, .int y] [(m0, .inr (6, [.int (nI co), .int (nI np), .ref o1, .ref o2, .ref o3, .int (nI n), .ref o4, .ref o5, .ref o6, .ref o7, .int fo1, .int fk1, .int (nI stat), .int (nI how), .int (nI pl), .int (nI la), .int (nI stt), .int (nI q), .ref o8, .ref o9, .int (nI dn), .ref o10, .ref o11]))] (fun _ : Unit => True) (fun (_ : Unit) => [(m0, .inr (6, [.int (nI co), .int (nI np), .ref o1, .ref o2, .ref o3, .int (nI n), .ref o4, .ref o5, .ref o6, .ref o7, .int x, .int y, .int (nI stat), .int (nI how), .int (nI pl), .int (nI la), .int (nI stt), .int (nI q), .ref o8, .ref o9, .int (nI dn), .ref o10, .ref o11]))]) := by
  refine pl_startV (by decide) (Nat.le_of_ble_eq_true rfl) ?_
  intro p e s m args below meth c A ls X hr hlk hin hK hP hD hS hA hE hl
  have X : CallFix p m c b_Model_set 3 s args TG R_Model := X
  have hx := X.1
  have hb := X.2.1
  have hl : lv_has ls 3 [(0, .ref m0), (1, .int x), (2, .int y)] := hl
  refine lv_aload_n hx hb d_Model_set_0 rfl (lv_at hl 0 rfl) ?_
  refine lv_iload_n hx hb d_Model_set_1 rfl (lv_at hl 1 rfl) ?_
  refine pl_put X fw_Model_91 fp_Model rfl hK hP hD hS 0 rfl (v := .int x) rfl rfl (Nat.le_of_ble_eq_true rfl) d_Model_set_2 (ws' := [(m0, .inr (6, [.int (nI co), .int (nI np), .ref o1, .ref o2, .ref o3, .int (nI n), .ref o4, .ref o5, .ref o6, .ref o7, .int x, .int fk1, .int (nI stat), .int (nI how), .int (nI pl), .int (nI la), .int (nI stt), .int (nI q), .ref o8, .ref o9, .int (nI dn), .ref o10, .ref o11]))]) rfl (fun H locs hP hD hS => ?_)
  refine lv_aload_n hx hb d_Model_set_5 rfl (lv_at hl 0 rfl) ?_
  refine lv_iload_n hx hb d_Model_set_6 rfl (lv_at hl 2 rfl) ?_
  refine pl_put X fw_Model_94 fp_Model rfl hK hP hD hS 0 rfl (v := .int y) rfl rfl (Nat.le_of_ble_eq_true rfl) d_Model_set_7 (ws' := [(m0, .inr (6, [.int (nI co), .int (nI np), .ref o1, .ref o2, .ref o3, .int (nI n), .ref o4, .ref o5, .ref o6, .ref o7, .int x, .int y, .int (nI stat), .int (nI how), .int (nI pl), .int (nI la), .int (nI stt), .int (nI q), .ref o8, .ref o9, .int (nI dn), .ref o10, .ref o11]))]) rfl (fun H locs hP hD hS => ?_)
  exact pl_vret X hr hlk hK () trivial hP hD hS d_Model_set_10

set_option maxHeartbeats 4000000 in
set_option maxRecDepth 100000 in
theorem c_Model_test_0 (l : Launch) (D : va_G) (cI cZ cL : ClassId) (m0 o1 o2 o3 o4 o5 o6 o7 o8 o9 o10 o11 : Nat) (P K Hm ru lo hi tm sa ca ta tn : Nat → Int32) (fo1 fk1 : Int32) (co np n stat how pl la stt q dn : Nat) (th : Nat → Int32) (t k0 z : Nat) (hn : n ≤ 4) (ht : t < 8) (hk0 : k0 < cntR th t n) (hz : z ≤ 1600) (hru : rulR ru tm th) : pl_V l y_Model_test b_Model_test 9 ({ frames := 1, cells := 0, slots := 0, locals := 23 } : Room) pl_E0 D classes (TY cI cZ cL) [.ref m0, .int (nI t), .int (nI k0), .int (nI 0), .int (nI z)] [(m0, .inr (6, [.int (nI co), .int (nI np), .ref o1, .ref o2, .ref o3, .int (nI n), .ref o4, .ref o5, .ref o6, .ref o7, .int fo1, .int fk1, .int (nI stat), .int (nI how), .int (nI pl), .int (nI la), .int (nI stt), .int (nI q), .ref o8, .ref o9, .int (nI dn), .ref o10, .ref o11])), (o4, .inl (cZ, 32, .inl ru)), (o5, .inl (cI, 32, .inl lo)), (o6, .inl (cI, 32, .inl hi)), (o7, .inl (cI, 32, .inl tm))] (fun u : Nat => u < n ∧ ¬ th (u * 8 + t) = -1 ∧ cntR th t u = k0) (fun (u : Nat) => [(m0, .inr (6, [.int (nI co), .int (nI np), .ref o1, .ref o2, .ref o3, .int (nI n), .ref o4, .ref o5, .ref o6, .ref o7, .int (nI 5), .int (nI 7), .int (nI stat), .int (nI how), .int (nI pl), .int (nI la), .int (nI stt), .int (nI q), .ref o8, .ref o9, .int (nI dn), .ref o10, .ref o11])), (o4, .inl (cZ, 32, .inl ru)), (o5, .inl (cI, 32, .inl lo)), (o6, .inl (cI, 32, .inl hi)), (o7, .inl (cI, 32, .inl tm))]) := by
  refine pl_startV (by decide) (Nat.le_of_ble_eq_true rfl) ?_
  intro p e s m args below meth c A ls X hr hlk hin hK hP hD hS hA hE hl
  have X : CallFix p m c b_Model_test 9 s args TG R_Model := X
  have hx := X.1
  have hb := X.2.1
  have hl : lv_has ls 9 [(0, .ref m0), (1, .int (nI t)), (2, .int (nI k0)), (3, .int (nI 0)), (4, .int (nI z))] := hl
  have hcn := cntR_le th t n
  refine lv_iconst (v := nI 0) hx hb d_Model_test_0 (by decide) ?_
  refine lv_istore hx hb d_Model_test_1 hl (by decide) (lv' := [(5, .int (nI 0)), (0, .ref m0), (1, .int (nI t)), (2, .int (nI k0)), (3, .int (nI 0)), (4, .int (nI z))]) rfl (fun ls hl => ?_)
  refine lv_iload_n hx hb d_Model_test_3 rfl (lv_at hl 3 rfl) ?_
  refine lv_istore hx hb d_Model_test_4 hl (by decide) (lv' := [(6, .int (nI k0)), (5, .int (nI 0)), (0, .ref m0), (1, .int (nI t)), (2, .int (nI k0)), (3, .int (nI 0)), (4, .int (nI z))]) rfl (fun ls hl => ?_)
  have loop_6 : ∀ (k : Nat) (s0 : Nat) (H : Heap) (locs : List Loc) (ls : Array Slot), n - s0 = k → (s0 ≤ n) → (cntR th t s0 ≤ k0) → va_P D classes [(m0, .inr (6, [.int (nI co), .int (nI np), .ref o1, .ref o2, .ref o3, .int (nI n), .ref o4, .ref o5, .ref o6, .ref o7, .int fo1, .int fk1, .int (nI stat), .int (nI how), .int (nI pl), .int (nI la), .int (nI stt), .int (nI q), .ref o8, .ref o9, .int (nI dn), .ref o10, .ref o11])), (o4, .inl (cZ, 32, .inl ru)), (o5, .inl (cI, 32, .inl lo)), (o6, .inl (cI, 32, .inl hi)), (o7, .inl (cI, 32, .inl tm))] H → va_D A [(m0, .inr (6, [.int (nI co), .int (nI np), .ref o1, .ref o2, .ref o3, .int (nI n), .ref o4, .ref o5, .ref o6, .ref o7, .int fo1, .int fk1, .int (nI stat), .int (nI how), .int (nI pl), .int (nI la), .int (nI stt), .int (nI q), .ref o8, .ref o9, .int (nI dn), .ref o10, .ref o11])), (o4, .inl (cZ, 32, .inl ru)), (o5, .inl (cI, 32, .inl lo)), (o6, .inl (cI, 32, .inl hi)), (o7, .inl (cI, 32, .inl tm))] → va_S A s.heap H locs → lv_has ls 9 [(6, .int (nI (k0 - cntR th t s0))), (5, .int (nI s0)), (0, .ref m0), (1, .int (nI t)), (2, .int (nI k0)), (3, .int (nI 0)), (4, .int (nI z))] → W p l e ({ frames := 1, cells := 0, slots := 0, locals := 23 } : Room) s m args below meth c H locs 0 0 (MQ below (va_Qv (fun u : Nat => u < n ∧ ¬ th (u * 8 + t) = -1 ∧ cntR th t u = k0) (fun u => pl_out D classes (TY cI cZ cL) A ((fun (u : Nat) => [(m0, .inr (6, [.int (nI co), .int (nI np), .ref o1, .ref o2, .ref o3, .int (nI n), .ref o4, .ref o5, .ref o6, .ref o7, .int (nI 5), .int (nI 7), .int (nI stat), .int (nI how), .int (nI pl), .int (nI la), .int (nI stt), .int (nI q), .ref o8, .ref o9, .int (nI dn), .ref o10, .ref o11])), (o4, .inl (cZ, 32, .inl ru)), (o5, .inl (cI, 32, .inl lo)), (o6, .inl (cI, 32, .inl hi)), (o7, .inl (cI, 32, .inl tm))]) u)) A) args s 0 0 A) (F0 m 6 ls []) := by
    intro k
    induction k using Nat.strongRecOn with
    | _ k ih =>
    intro s0 H locs ls hk hs0 hc0 hP hD hS hl
    have hsn : s0 < n := by rcases Nat.lt_or_eq_of_le hs0 with q | q; exact q; (rw [q] at hc0; omega)
    refine lv_aload_n hx hb d_Model_test_6 rfl (lv_at hl 2 rfl) ?_
    refine pl_get X fw_Model_23 hK hP 0 rfl (v := .ref o4) rfl d_Model_test_7 ?_
    refine lv_bipush (v := nI 8) hx hb d_Model_test_10 (by decide) ?_
    refine lv_iload hx hb d_Model_test_12 (lv_at hl 1 rfl) ?_
    refine pl_imul X d_Model_test_14 (z := nI (s0 * 8)) (pk_mulC _ _) ?_
    refine lv_iload_n hx hb d_Model_test_15 rfl (lv_at hl 3 rfl) ?_
    refine pl_iadd X d_Model_test_16 (z := nI (s0 * 8 + t)) (nI_add _ _) ?_
    refine pl_zald X hK hP 1 1 rfl rfl (s0 * 8 + t) (by omega) (by decide) (z := bI (decide (¬ th (s0 * 8 + t) = -1))) (hru _ (by omega)).1 d_Model_test_17 ?_
    refine pl_ifB_eq X d_Model_test_18 rfl (fun g18 => ?_) (fun g18 => ?_)
    · skip
      refine lv_iload hx hb d_Model_test_26 (lv_at hl 0 rfl) ?_
      refine lv_aload_n hx hb d_Model_test_28 rfl (lv_at hl 2 rfl) ?_
      refine pl_get X fw_Model_23 hK hP 0 rfl (v := .ref o4) rfl d_Model_test_29 ?_
      refine lv_bipush (v := nI 8) hx hb d_Model_test_32 (by decide) ?_
      refine lv_iload hx hb d_Model_test_34 (lv_at hl 1 rfl) ?_
      refine pl_imul X d_Model_test_36 (z := nI (s0 * 8)) (pk_mulC _ _) ?_
      refine lv_iload_n hx hb d_Model_test_37 rfl (lv_at hl 3 rfl) ?_
      refine pl_iadd X d_Model_test_38 (z := nI (s0 * 8 + t)) (nI_add _ _) ?_
      refine pl_zald X hK hP 1 1 rfl rfl (s0 * 8 + t) (by omega) (by decide) (z := bI (decide (¬ th (s0 * 8 + t) = -1))) (hru _ (by omega)).1 d_Model_test_39 ?_
      refine pl_ifB_eq X d_Model_test_40 rfl (fun g40 => ?_) (fun g40 => ?_)
      · skip
        refine lv_iconst (v := nI 0) hx hb d_Model_test_47 (by decide) ?_
        refine pl_isub X d_Model_test_48 (z := nI (k0 - cntR th t (s0 + 1))) (by rw [cntR_no g40, pk_sub (by omega)]; rfl) ?_
        refine lv_istore hx hb d_Model_test_49 hl (by decide) (lv' := [(6, .int (nI (k0 - cntR th t (s0 + 1)))), (5, .int (nI s0)), (0, .ref m0), (1, .int (nI t)), (2, .int (nI k0)), (3, .int (nI 0)), (4, .int (nI z))]) rfl (fun ls hl => ?_)
        refine lv_iinc hx hb d_Model_test_51 hl (k := 1) rfl (nI_inc1 _) (by decide) (lv' := [(5, .int (nI (s0 + 1))), (6, .int (nI (k0 - cntR th t (s0 + 1)))), (0, .ref m0), (1, .int (nI t)), (2, .int (nI k0)), (3, .int (nI 0)), (4, .int (nI z))]) rfl (fun ls hl => ?_)
        refine lv_goto hx hb d_Model_test_54 rfl ?_
        exact ih _ (by omega) (s0 + 1) _ _ _ rfl (by omega) (by rw [cntR_no g40]; exact hc0) hP hD hS (lv_sub hl [1, 0, 2, 3, 4, 5, 6] rfl)
      · skip
        exact absurd g40 (by rw [g18]; decide)
    · skip
      refine lv_iload hx hb d_Model_test_21 (lv_at hl 0 rfl) ?_
      refine pl_if_le X (by omega) d_Model_test_23 rfl (fun g23 => ?_) (fun g23 => ?_)
      · skip
        refine lv_bipush (v := nI 8) hx hb d_Model_test_57 (by decide) ?_
        refine lv_iload hx hb d_Model_test_59 (lv_at hl 1 rfl) ?_
        refine pl_imul X d_Model_test_61 (z := nI (s0 * 8)) (pk_mulC _ _) ?_
        refine lv_iload_n hx hb d_Model_test_62 rfl (lv_at hl 3 rfl) ?_
        refine pl_iadd X d_Model_test_63 (z := nI (s0 * 8 + t)) (nI_add _ _) ?_
        refine lv_istore hx hb d_Model_test_64 hl (by decide) (lv' := [(7, .int (nI (s0 * 8 + t))), (6, .int (nI (k0 - cntR th t s0))), (5, .int (nI s0)), (0, .ref m0), (1, .int (nI t)), (2, .int (nI k0)), (3, .int (nI 0)), (4, .int (nI z))]) rfl (fun ls hl => ?_)
        refine lv_iload hx hb d_Model_test_66 (lv_at hl 7 rfl) ?_
        refine lv_bipush (v := nI 16) hx hb d_Model_test_68 (by decide) ?_
        refine lv_aload_n hx hb d_Model_test_70 rfl (lv_at hl 3 rfl) ?_
        refine lv_iload_n hx hb d_Model_test_71 rfl (lv_at hl 4 rfl) ?_
        refine pl_callVI X (rest := [.int (nI 16), .int (nI z)]) (As := [.int (nI t)]) (b := m0) (c_Model_testsOf l D cI cZ cL m0 o1 o2 o3 o4 o5 o6 o7 o8 o9 o10 o11 P K Hm ru lo hi tm sa ca ta tn fo1 fk1 co np n stat how pl la stt q dn th t hn ht hru) ck_Model_85 pl_E0_ok trivial hK hP hD hS hA (T := F_Model) (N := N_Model) (ci := 6) rfl 0 rfl [0, 1] [2, 3, 4] [3, 4, 0, 1, 2] rfl (by decide) (wr := [(o5, .inl (cI, 32, .inl lo)), (o6, .inl (cI, 32, .inl hi)), (o7, .inl (cI, 32, .inl tm))]) rfl (by decide) (by decide) (wf := fun _ => [(m0, .inr (6, [.int (nI co), .int (nI np), .ref o1, .ref o2, .ref o3, .int (nI n), .ref o4, .ref o5, .ref o6, .ref o7, .int fo1, .int fk1, .int (nI stat), .int (nI how), .int (nI pl), .int (nI la), .int (nI stt), .int (nI q), .ref o8, .ref o9, .int (nI dn), .ref o10, .ref o11])), (o4, .inl (cZ, 32, .inl ru)), (o5, .inl (cI, 32, .inl lo)), (o6, .inl (cI, 32, .inl hi)), (o7, .inl (cI, 32, .inl tm))]) (fun _ => rfl) (by decide) rfl hl.1 rfl (Nat.le_of_ble_eq_true rfl) (by decide) (by decide) d_Model_test_72 (fun r u0 H locs hcq hP hD hS => ?_)
        subst hcq
        refine pl_imul X d_Model_test_75 (z := nI ((cntR th t n) * 16)) (pk_mulC _ _) ?_
        refine pl_iadd X d_Model_test_76 (z := nI (z + (cntR th t n) * 16)) (nI_add _ _) ?_
        refine lv_istore hx hb d_Model_test_77 hl (by decide) (lv' := [(8, .int (nI (z + (cntR th t n) * 16))), (7, .int (nI (s0 * 8 + t))), (6, .int (nI (k0 - cntR th t s0))), (5, .int (nI s0)), (0, .ref m0), (1, .int (nI t)), (2, .int (nI k0)), (3, .int (nI 0)), (4, .int (nI z))]) rfl (fun ls hl => ?_)
        refine lv_iload_n hx hb d_Model_test_79 rfl (lv_at hl 7 rfl) ?_
        refine lv_tableIn hx hb d_Model_test_80 (by decide) (by decide) (off := 76) (by decide) (tgt := 156) rfl ?_
        refine lv_aload_n hx hb d_Model_test_156 rfl (lv_at hl 4 rfl) ?_
        refine lv_iconst (v := nI 5) hx hb d_Model_test_157 (by decide) ?_
        refine lv_bipush (v := nI 7) hx hb d_Model_test_158 (by decide) ?_
        refine pl_callVV X (rest := []) (As := [.int (nI 5), .int (nI 7)]) (b := m0) (c_Model_set l D cI cZ cL m0 o1 o2 o3 o4 o5 o6 o7 o8 o9 o10 o11 P K Hm ru lo hi tm sa ca ta tn fo1 fk1 co np n stat how pl la stt q dn (nI 5) (nI 7)) ck_Model_100 pl_E0_ok trivial hK hP hD hS hA (T := F_Model) (N := N_Model) (ci := 6) rfl 0 rfl [0] [1, 2, 3, 4] [4, 0, 1, 2, 3] rfl (by decide) (wr := [(o4, .inl (cZ, 32, .inl ru)), (o5, .inl (cI, 32, .inl lo)), (o6, .inl (cI, 32, .inl hi)), (o7, .inl (cI, 32, .inl tm))]) rfl (by decide) (by decide) (wf := fun _ => [(m0, .inr (6, [.int (nI co), .int (nI np), .ref o1, .ref o2, .ref o3, .int (nI n), .ref o4, .ref o5, .ref o6, .ref o7, .int (nI 5), .int (nI 7), .int (nI stat), .int (nI how), .int (nI pl), .int (nI la), .int (nI stt), .int (nI q), .ref o8, .ref o9, .int (nI dn), .ref o10, .ref o11])), (o4, .inl (cZ, 32, .inl ru)), (o5, .inl (cI, 32, .inl lo)), (o6, .inl (cI, 32, .inl hi)), (o7, .inl (cI, 32, .inl tm))]) (fun _ => rfl) (by decide) rfl hl.1 rfl (Nat.le_of_ble_eq_true rfl) (by decide) (by decide) d_Model_test_160 (fun u0 H locs hcq hP hD hS => ?_)
        refine lv_goto hx hb d_Model_test_163 rfl ?_
        exact pl_vret X hr hlk hK s0 ⟨hsn, rn_yes g18, by omega⟩ hP hD hS d_Model_test_309
      · skip
        refine lv_iload hx hb d_Model_test_26 (lv_at hl 0 rfl) ?_
        refine lv_aload_n hx hb d_Model_test_28 rfl (lv_at hl 2 rfl) ?_
        refine pl_get X fw_Model_23 hK hP 0 rfl (v := .ref o4) rfl d_Model_test_29 ?_
        refine lv_bipush (v := nI 8) hx hb d_Model_test_32 (by decide) ?_
        refine lv_iload hx hb d_Model_test_34 (lv_at hl 1 rfl) ?_
        refine pl_imul X d_Model_test_36 (z := nI (s0 * 8)) (pk_mulC _ _) ?_
        refine lv_iload_n hx hb d_Model_test_37 rfl (lv_at hl 3 rfl) ?_
        refine pl_iadd X d_Model_test_38 (z := nI (s0 * 8 + t)) (nI_add _ _) ?_
        refine pl_zald X hK hP 1 1 rfl rfl (s0 * 8 + t) (by omega) (by decide) (z := bI (decide (¬ th (s0 * 8 + t) = -1))) (hru _ (by omega)).1 d_Model_test_39 ?_
        refine pl_ifB_eq X d_Model_test_40 rfl (fun g40 => ?_) (fun g40 => ?_)
        · skip
          exact absurd g40 (by rw [g18]; decide)
        · skip
          refine lv_iconst (v := nI 1) hx hb d_Model_test_43 (by decide) ?_
          refine lv_goto hx hb d_Model_test_44 rfl ?_
          refine pl_isub X d_Model_test_48 (z := nI (k0 - cntR th t (s0 + 1))) (by rw [cntR_yes g40, pk_sub (by omega)]; rfl) ?_
          refine lv_istore hx hb d_Model_test_49 hl (by decide) (lv' := [(6, .int (nI (k0 - cntR th t (s0 + 1)))), (5, .int (nI s0)), (0, .ref m0), (1, .int (nI t)), (2, .int (nI k0)), (3, .int (nI 0)), (4, .int (nI z))]) rfl (fun ls hl => ?_)
          refine lv_iinc hx hb d_Model_test_51 hl (k := 1) rfl (nI_inc1 _) (by decide) (lv' := [(5, .int (nI (s0 + 1))), (6, .int (nI (k0 - cntR th t (s0 + 1)))), (0, .ref m0), (1, .int (nI t)), (2, .int (nI k0)), (3, .int (nI 0)), (4, .int (nI z))]) rfl (fun ls hl => ?_)
          refine lv_goto hx hb d_Model_test_54 rfl ?_
          exact ih _ (by omega) (s0 + 1) _ _ _ rfl (by omega) (by rw [cntR_yes g40]; omega) hP hD hS (lv_sub hl [1, 0, 2, 3, 4, 5, 6] rfl)
  exact loop_6 _ 0 _ _ _ rfl (Nat.zero_le _) (Nat.zero_le _) hP hD hS hl

set_option maxHeartbeats 4000000 in
set_option maxRecDepth 100000 in
theorem c_Model_test_1 (l : Launch) (D : va_G) (cI cZ cL : ClassId) (m0 o1 o2 o3 o4 o5 o6 o7 o8 o9 o10 o11 : Nat) (P K Hm ru lo hi tm sa ca ta tn : Nat → Int32) (fo1 fk1 : Int32) (co np n stat how pl la stt q dn : Nat) (th : Nat → Int32) (t k0 z : Nat) (hn : n ≤ 4) (ht : t < 8) (hk0 : k0 < cntR th t n) (hz : z ≤ 1600) (hru : rulR ru tm th) : pl_V l y_Model_test b_Model_test 9 ({ frames := 1, cells := 0, slots := 0, locals := 23 } : Room) pl_E0 D classes (TY cI cZ cL) [.ref m0, .int (nI t), .int (nI k0), .int (nI 1), .int (nI z)] [(m0, .inr (6, [.int (nI co), .int (nI np), .ref o1, .ref o2, .ref o3, .int (nI n), .ref o4, .ref o5, .ref o6, .ref o7, .int fo1, .int fk1, .int (nI stat), .int (nI how), .int (nI pl), .int (nI la), .int (nI stt), .int (nI q), .ref o8, .ref o9, .int (nI dn), .ref o10, .ref o11])), (o4, .inl (cZ, 32, .inl ru)), (o5, .inl (cI, 32, .inl lo)), (o6, .inl (cI, 32, .inl hi)), (o7, .inl (cI, 32, .inl tm))] (fun u : Nat => u < n ∧ ¬ th (u * 8 + t) = -1 ∧ cntR th t u = k0) (fun (u : Nat) => [(m0, .inr (6, [.int (nI co), .int (nI np), .ref o1, .ref o2, .ref o3, .int (nI n), .ref o4, .ref o5, .ref o6, .ref o7, .int (nI 0), .int (nI u), .int (nI stat), .int (nI how), .int (nI pl), .int (nI la), .int (nI stt), .int (nI q), .ref o8, .ref o9, .int (nI dn), .ref o10, .ref o11])), (o4, .inl (cZ, 32, .inl ru)), (o5, .inl (cI, 32, .inl lo)), (o6, .inl (cI, 32, .inl hi)), (o7, .inl (cI, 32, .inl tm))]) := by
  refine pl_startV (by decide) (Nat.le_of_ble_eq_true rfl) ?_
  intro p e s m args below meth c A ls X hr hlk hin hK hP hD hS hA hE hl
  have X : CallFix p m c b_Model_test 9 s args TG R_Model := X
  have hx := X.1
  have hb := X.2.1
  have hl : lv_has ls 9 [(0, .ref m0), (1, .int (nI t)), (2, .int (nI k0)), (3, .int (nI 1)), (4, .int (nI z))] := hl
  have hcn := cntR_le th t n
  refine lv_iconst (v := nI 0) hx hb d_Model_test_0 (by decide) ?_
  refine lv_istore hx hb d_Model_test_1 hl (by decide) (lv' := [(5, .int (nI 0)), (0, .ref m0), (1, .int (nI t)), (2, .int (nI k0)), (3, .int (nI 1)), (4, .int (nI z))]) rfl (fun ls hl => ?_)
  refine lv_iload_n hx hb d_Model_test_3 rfl (lv_at hl 3 rfl) ?_
  refine lv_istore hx hb d_Model_test_4 hl (by decide) (lv' := [(6, .int (nI k0)), (5, .int (nI 0)), (0, .ref m0), (1, .int (nI t)), (2, .int (nI k0)), (3, .int (nI 1)), (4, .int (nI z))]) rfl (fun ls hl => ?_)
  have loop_6 : ∀ (k : Nat) (s0 : Nat) (H : Heap) (locs : List Loc) (ls : Array Slot), n - s0 = k → (s0 ≤ n) → (cntR th t s0 ≤ k0) → va_P D classes [(m0, .inr (6, [.int (nI co), .int (nI np), .ref o1, .ref o2, .ref o3, .int (nI n), .ref o4, .ref o5, .ref o6, .ref o7, .int fo1, .int fk1, .int (nI stat), .int (nI how), .int (nI pl), .int (nI la), .int (nI stt), .int (nI q), .ref o8, .ref o9, .int (nI dn), .ref o10, .ref o11])), (o4, .inl (cZ, 32, .inl ru)), (o5, .inl (cI, 32, .inl lo)), (o6, .inl (cI, 32, .inl hi)), (o7, .inl (cI, 32, .inl tm))] H → va_D A [(m0, .inr (6, [.int (nI co), .int (nI np), .ref o1, .ref o2, .ref o3, .int (nI n), .ref o4, .ref o5, .ref o6, .ref o7, .int fo1, .int fk1, .int (nI stat), .int (nI how), .int (nI pl), .int (nI la), .int (nI stt), .int (nI q), .ref o8, .ref o9, .int (nI dn), .ref o10, .ref o11])), (o4, .inl (cZ, 32, .inl ru)), (o5, .inl (cI, 32, .inl lo)), (o6, .inl (cI, 32, .inl hi)), (o7, .inl (cI, 32, .inl tm))] → va_S A s.heap H locs → lv_has ls 9 [(6, .int (nI (k0 - cntR th t s0))), (5, .int (nI s0)), (0, .ref m0), (1, .int (nI t)), (2, .int (nI k0)), (3, .int (nI 1)), (4, .int (nI z))] → W p l e ({ frames := 1, cells := 0, slots := 0, locals := 23 } : Room) s m args below meth c H locs 0 0 (MQ below (va_Qv (fun u : Nat => u < n ∧ ¬ th (u * 8 + t) = -1 ∧ cntR th t u = k0) (fun u => pl_out D classes (TY cI cZ cL) A ((fun (u : Nat) => [(m0, .inr (6, [.int (nI co), .int (nI np), .ref o1, .ref o2, .ref o3, .int (nI n), .ref o4, .ref o5, .ref o6, .ref o7, .int (nI 0), .int (nI u), .int (nI stat), .int (nI how), .int (nI pl), .int (nI la), .int (nI stt), .int (nI q), .ref o8, .ref o9, .int (nI dn), .ref o10, .ref o11])), (o4, .inl (cZ, 32, .inl ru)), (o5, .inl (cI, 32, .inl lo)), (o6, .inl (cI, 32, .inl hi)), (o7, .inl (cI, 32, .inl tm))]) u)) A) args s 0 0 A) (F0 m 6 ls []) := by
    intro k
    induction k using Nat.strongRecOn with
    | _ k ih =>
    intro s0 H locs ls hk hs0 hc0 hP hD hS hl
    have hsn : s0 < n := by rcases Nat.lt_or_eq_of_le hs0 with q | q; exact q; (rw [q] at hc0; omega)
    refine lv_aload_n hx hb d_Model_test_6 rfl (lv_at hl 2 rfl) ?_
    refine pl_get X fw_Model_23 hK hP 0 rfl (v := .ref o4) rfl d_Model_test_7 ?_
    refine lv_bipush (v := nI 8) hx hb d_Model_test_10 (by decide) ?_
    refine lv_iload hx hb d_Model_test_12 (lv_at hl 1 rfl) ?_
    refine pl_imul X d_Model_test_14 (z := nI (s0 * 8)) (pk_mulC _ _) ?_
    refine lv_iload_n hx hb d_Model_test_15 rfl (lv_at hl 3 rfl) ?_
    refine pl_iadd X d_Model_test_16 (z := nI (s0 * 8 + t)) (nI_add _ _) ?_
    refine pl_zald X hK hP 1 1 rfl rfl (s0 * 8 + t) (by omega) (by decide) (z := bI (decide (¬ th (s0 * 8 + t) = -1))) (hru _ (by omega)).1 d_Model_test_17 ?_
    refine pl_ifB_eq X d_Model_test_18 rfl (fun g18 => ?_) (fun g18 => ?_)
    · skip
      refine lv_iload hx hb d_Model_test_26 (lv_at hl 0 rfl) ?_
      refine lv_aload_n hx hb d_Model_test_28 rfl (lv_at hl 2 rfl) ?_
      refine pl_get X fw_Model_23 hK hP 0 rfl (v := .ref o4) rfl d_Model_test_29 ?_
      refine lv_bipush (v := nI 8) hx hb d_Model_test_32 (by decide) ?_
      refine lv_iload hx hb d_Model_test_34 (lv_at hl 1 rfl) ?_
      refine pl_imul X d_Model_test_36 (z := nI (s0 * 8)) (pk_mulC _ _) ?_
      refine lv_iload_n hx hb d_Model_test_37 rfl (lv_at hl 3 rfl) ?_
      refine pl_iadd X d_Model_test_38 (z := nI (s0 * 8 + t)) (nI_add _ _) ?_
      refine pl_zald X hK hP 1 1 rfl rfl (s0 * 8 + t) (by omega) (by decide) (z := bI (decide (¬ th (s0 * 8 + t) = -1))) (hru _ (by omega)).1 d_Model_test_39 ?_
      refine pl_ifB_eq X d_Model_test_40 rfl (fun g40 => ?_) (fun g40 => ?_)
      · skip
        refine lv_iconst (v := nI 0) hx hb d_Model_test_47 (by decide) ?_
        refine pl_isub X d_Model_test_48 (z := nI (k0 - cntR th t (s0 + 1))) (by rw [cntR_no g40, pk_sub (by omega)]; rfl) ?_
        refine lv_istore hx hb d_Model_test_49 hl (by decide) (lv' := [(6, .int (nI (k0 - cntR th t (s0 + 1)))), (5, .int (nI s0)), (0, .ref m0), (1, .int (nI t)), (2, .int (nI k0)), (3, .int (nI 1)), (4, .int (nI z))]) rfl (fun ls hl => ?_)
        refine lv_iinc hx hb d_Model_test_51 hl (k := 1) rfl (nI_inc1 _) (by decide) (lv' := [(5, .int (nI (s0 + 1))), (6, .int (nI (k0 - cntR th t (s0 + 1)))), (0, .ref m0), (1, .int (nI t)), (2, .int (nI k0)), (3, .int (nI 1)), (4, .int (nI z))]) rfl (fun ls hl => ?_)
        refine lv_goto hx hb d_Model_test_54 rfl ?_
        exact ih _ (by omega) (s0 + 1) _ _ _ rfl (by omega) (by rw [cntR_no g40]; exact hc0) hP hD hS (lv_sub hl [1, 0, 2, 3, 4, 5, 6] rfl)
      · skip
        exact absurd g40 (by rw [g18]; decide)
    · skip
      refine lv_iload hx hb d_Model_test_21 (lv_at hl 0 rfl) ?_
      refine pl_if_le X (by omega) d_Model_test_23 rfl (fun g23 => ?_) (fun g23 => ?_)
      · skip
        refine lv_bipush (v := nI 8) hx hb d_Model_test_57 (by decide) ?_
        refine lv_iload hx hb d_Model_test_59 (lv_at hl 1 rfl) ?_
        refine pl_imul X d_Model_test_61 (z := nI (s0 * 8)) (pk_mulC _ _) ?_
        refine lv_iload_n hx hb d_Model_test_62 rfl (lv_at hl 3 rfl) ?_
        refine pl_iadd X d_Model_test_63 (z := nI (s0 * 8 + t)) (nI_add _ _) ?_
        refine lv_istore hx hb d_Model_test_64 hl (by decide) (lv' := [(7, .int (nI (s0 * 8 + t))), (6, .int (nI (k0 - cntR th t s0))), (5, .int (nI s0)), (0, .ref m0), (1, .int (nI t)), (2, .int (nI k0)), (3, .int (nI 1)), (4, .int (nI z))]) rfl (fun ls hl => ?_)
        refine lv_iload hx hb d_Model_test_66 (lv_at hl 7 rfl) ?_
        refine lv_bipush (v := nI 16) hx hb d_Model_test_68 (by decide) ?_
        refine lv_aload_n hx hb d_Model_test_70 rfl (lv_at hl 3 rfl) ?_
        refine lv_iload_n hx hb d_Model_test_71 rfl (lv_at hl 4 rfl) ?_
        refine pl_callVI X (rest := [.int (nI 16), .int (nI z)]) (As := [.int (nI t)]) (b := m0) (c_Model_testsOf l D cI cZ cL m0 o1 o2 o3 o4 o5 o6 o7 o8 o9 o10 o11 P K Hm ru lo hi tm sa ca ta tn fo1 fk1 co np n stat how pl la stt q dn th t hn ht hru) ck_Model_85 pl_E0_ok trivial hK hP hD hS hA (T := F_Model) (N := N_Model) (ci := 6) rfl 0 rfl [0, 1] [2, 3, 4] [3, 4, 0, 1, 2] rfl (by decide) (wr := [(o5, .inl (cI, 32, .inl lo)), (o6, .inl (cI, 32, .inl hi)), (o7, .inl (cI, 32, .inl tm))]) rfl (by decide) (by decide) (wf := fun _ => [(m0, .inr (6, [.int (nI co), .int (nI np), .ref o1, .ref o2, .ref o3, .int (nI n), .ref o4, .ref o5, .ref o6, .ref o7, .int fo1, .int fk1, .int (nI stat), .int (nI how), .int (nI pl), .int (nI la), .int (nI stt), .int (nI q), .ref o8, .ref o9, .int (nI dn), .ref o10, .ref o11])), (o4, .inl (cZ, 32, .inl ru)), (o5, .inl (cI, 32, .inl lo)), (o6, .inl (cI, 32, .inl hi)), (o7, .inl (cI, 32, .inl tm))]) (fun _ => rfl) (by decide) rfl hl.1 rfl (Nat.le_of_ble_eq_true rfl) (by decide) (by decide) d_Model_test_72 (fun r u0 H locs hcq hP hD hS => ?_)
        subst hcq
        refine pl_imul X d_Model_test_75 (z := nI ((cntR th t n) * 16)) (pk_mulC _ _) ?_
        refine pl_iadd X d_Model_test_76 (z := nI (z + (cntR th t n) * 16)) (nI_add _ _) ?_
        refine lv_istore hx hb d_Model_test_77 hl (by decide) (lv' := [(8, .int (nI (z + (cntR th t n) * 16))), (7, .int (nI (s0 * 8 + t))), (6, .int (nI (k0 - cntR th t s0))), (5, .int (nI s0)), (0, .ref m0), (1, .int (nI t)), (2, .int (nI k0)), (3, .int (nI 1)), (4, .int (nI z))]) rfl (fun ls hl => ?_)
        refine lv_iload_n hx hb d_Model_test_79 rfl (lv_at hl 7 rfl) ?_
        refine lv_tableIn hx hb d_Model_test_80 (by decide) (by decide) (off := 86) (by decide) (tgt := 166) rfl ?_
        refine lv_aload_n hx hb d_Model_test_166 rfl (lv_at hl 4 rfl) ?_
        refine lv_iconst (v := nI 0) hx hb d_Model_test_167 (by decide) ?_
        refine lv_iload hx hb d_Model_test_168 (lv_at hl 3 rfl) ?_
        refine pl_callVV X (rest := []) (As := [.int (nI 0), .int (nI s0)]) (b := m0) (c_Model_set l D cI cZ cL m0 o1 o2 o3 o4 o5 o6 o7 o8 o9 o10 o11 P K Hm ru lo hi tm sa ca ta tn fo1 fk1 co np n stat how pl la stt q dn (nI 0) (nI s0)) ck_Model_100 pl_E0_ok trivial hK hP hD hS hA (T := F_Model) (N := N_Model) (ci := 6) rfl 0 rfl [0] [1, 2, 3, 4] [4, 0, 1, 2, 3] rfl (by decide) (wr := [(o4, .inl (cZ, 32, .inl ru)), (o5, .inl (cI, 32, .inl lo)), (o6, .inl (cI, 32, .inl hi)), (o7, .inl (cI, 32, .inl tm))]) rfl (by decide) (by decide) (wf := fun _ => [(m0, .inr (6, [.int (nI co), .int (nI np), .ref o1, .ref o2, .ref o3, .int (nI n), .ref o4, .ref o5, .ref o6, .ref o7, .int (nI 0), .int (nI s0), .int (nI stat), .int (nI how), .int (nI pl), .int (nI la), .int (nI stt), .int (nI q), .ref o8, .ref o9, .int (nI dn), .ref o10, .ref o11])), (o4, .inl (cZ, 32, .inl ru)), (o5, .inl (cI, 32, .inl lo)), (o6, .inl (cI, 32, .inl hi)), (o7, .inl (cI, 32, .inl tm))]) (fun _ => rfl) (by decide) rfl hl.1 rfl (Nat.le_of_ble_eq_true rfl) (by decide) (by decide) d_Model_test_170 (fun u0 H locs hcq hP hD hS => ?_)
        refine lv_goto hx hb d_Model_test_173 rfl ?_
        exact pl_vret X hr hlk hK s0 ⟨hsn, rn_yes g18, by omega⟩ hP hD hS d_Model_test_309
      · skip
        refine lv_iload hx hb d_Model_test_26 (lv_at hl 0 rfl) ?_
        refine lv_aload_n hx hb d_Model_test_28 rfl (lv_at hl 2 rfl) ?_
        refine pl_get X fw_Model_23 hK hP 0 rfl (v := .ref o4) rfl d_Model_test_29 ?_
        refine lv_bipush (v := nI 8) hx hb d_Model_test_32 (by decide) ?_
        refine lv_iload hx hb d_Model_test_34 (lv_at hl 1 rfl) ?_
        refine pl_imul X d_Model_test_36 (z := nI (s0 * 8)) (pk_mulC _ _) ?_
        refine lv_iload_n hx hb d_Model_test_37 rfl (lv_at hl 3 rfl) ?_
        refine pl_iadd X d_Model_test_38 (z := nI (s0 * 8 + t)) (nI_add _ _) ?_
        refine pl_zald X hK hP 1 1 rfl rfl (s0 * 8 + t) (by omega) (by decide) (z := bI (decide (¬ th (s0 * 8 + t) = -1))) (hru _ (by omega)).1 d_Model_test_39 ?_
        refine pl_ifB_eq X d_Model_test_40 rfl (fun g40 => ?_) (fun g40 => ?_)
        · skip
          exact absurd g40 (by rw [g18]; decide)
        · skip
          refine lv_iconst (v := nI 1) hx hb d_Model_test_43 (by decide) ?_
          refine lv_goto hx hb d_Model_test_44 rfl ?_
          refine pl_isub X d_Model_test_48 (z := nI (k0 - cntR th t (s0 + 1))) (by rw [cntR_yes g40, pk_sub (by omega)]; rfl) ?_
          refine lv_istore hx hb d_Model_test_49 hl (by decide) (lv' := [(6, .int (nI (k0 - cntR th t (s0 + 1)))), (5, .int (nI s0)), (0, .ref m0), (1, .int (nI t)), (2, .int (nI k0)), (3, .int (nI 1)), (4, .int (nI z))]) rfl (fun ls hl => ?_)
          refine lv_iinc hx hb d_Model_test_51 hl (k := 1) rfl (nI_inc1 _) (by decide) (lv' := [(5, .int (nI (s0 + 1))), (6, .int (nI (k0 - cntR th t (s0 + 1)))), (0, .ref m0), (1, .int (nI t)), (2, .int (nI k0)), (3, .int (nI 1)), (4, .int (nI z))]) rfl (fun ls hl => ?_)
          refine lv_goto hx hb d_Model_test_54 rfl ?_
          exact ih _ (by omega) (s0 + 1) _ _ _ rfl (by omega) (by rw [cntR_yes g40]; omega) hP hD hS (lv_sub hl [1, 0, 2, 3, 4, 5, 6] rfl)
  exact loop_6 _ 0 _ _ _ rfl (Nat.zero_le _) (Nat.zero_le _) hP hD hS hl

set_option maxHeartbeats 4000000 in
set_option maxRecDepth 100000 in
theorem c_Model_test_2 (l : Launch) (D : va_G) (cI cZ cL : ClassId) (m0 o1 o2 o3 o4 o5 o6 o7 o8 o9 o10 o11 : Nat) (P K Hm ru lo hi tm sa ca ta tn : Nat → Int32) (fo1 fk1 : Int32) (co np n stat how pl la stt q dn : Nat) (th : Nat → Int32) (t k0 z : Nat) (hn : n ≤ 4) (ht : t < 8) (hk0 : k0 < cntR th t n) (hz : z ≤ 1600) (hru : rulR ru tm th) : pl_V l y_Model_test b_Model_test 9 ({ frames := 1, cells := 0, slots := 0, locals := 23 } : Room) pl_E0 D classes (TY cI cZ cL) [.ref m0, .int (nI t), .int (nI k0), .int (nI 2), .int (nI z)] [(m0, .inr (6, [.int (nI co), .int (nI np), .ref o1, .ref o2, .ref o3, .int (nI n), .ref o4, .ref o5, .ref o6, .ref o7, .int fo1, .int fk1, .int (nI stat), .int (nI how), .int (nI pl), .int (nI la), .int (nI stt), .int (nI q), .ref o8, .ref o9, .int (nI dn), .ref o10, .ref o11])), (o4, .inl (cZ, 32, .inl ru)), (o5, .inl (cI, 32, .inl lo)), (o6, .inl (cI, 32, .inl hi)), (o7, .inl (cI, 32, .inl tm))] (fun u : Nat => u < n ∧ ¬ th (u * 8 + t) = -1 ∧ cntR th t u = k0) (fun (u : Nat) => [(m0, .inr (6, [.int (nI co), .int (nI np), .ref o1, .ref o2, .ref o3, .int (nI n), .ref o4, .ref o5, .ref o6, .ref o7, .int (nI 3), .int (nI 0), .int (nI stat), .int (nI how), .int (nI pl), .int (nI la), .int (nI stt), .int (nI q), .ref o8, .ref o9, .int (nI dn), .ref o10, .ref o11])), (o4, .inl (cZ, 32, .inl ru)), (o5, .inl (cI, 32, .inl lo)), (o6, .inl (cI, 32, .inl hi)), (o7, .inl (cI, 32, .inl tm))]) := by
  refine pl_startV (by decide) (Nat.le_of_ble_eq_true rfl) ?_
  intro p e s m args below meth c A ls X hr hlk hin hK hP hD hS hA hE hl
  have X : CallFix p m c b_Model_test 9 s args TG R_Model := X
  have hx := X.1
  have hb := X.2.1
  have hl : lv_has ls 9 [(0, .ref m0), (1, .int (nI t)), (2, .int (nI k0)), (3, .int (nI 2)), (4, .int (nI z))] := hl
  have hcn := cntR_le th t n
  refine lv_iconst (v := nI 0) hx hb d_Model_test_0 (by decide) ?_
  refine lv_istore hx hb d_Model_test_1 hl (by decide) (lv' := [(5, .int (nI 0)), (0, .ref m0), (1, .int (nI t)), (2, .int (nI k0)), (3, .int (nI 2)), (4, .int (nI z))]) rfl (fun ls hl => ?_)
  refine lv_iload_n hx hb d_Model_test_3 rfl (lv_at hl 3 rfl) ?_
  refine lv_istore hx hb d_Model_test_4 hl (by decide) (lv' := [(6, .int (nI k0)), (5, .int (nI 0)), (0, .ref m0), (1, .int (nI t)), (2, .int (nI k0)), (3, .int (nI 2)), (4, .int (nI z))]) rfl (fun ls hl => ?_)
  have loop_6 : ∀ (k : Nat) (s0 : Nat) (H : Heap) (locs : List Loc) (ls : Array Slot), n - s0 = k → (s0 ≤ n) → (cntR th t s0 ≤ k0) → va_P D classes [(m0, .inr (6, [.int (nI co), .int (nI np), .ref o1, .ref o2, .ref o3, .int (nI n), .ref o4, .ref o5, .ref o6, .ref o7, .int fo1, .int fk1, .int (nI stat), .int (nI how), .int (nI pl), .int (nI la), .int (nI stt), .int (nI q), .ref o8, .ref o9, .int (nI dn), .ref o10, .ref o11])), (o4, .inl (cZ, 32, .inl ru)), (o5, .inl (cI, 32, .inl lo)), (o6, .inl (cI, 32, .inl hi)), (o7, .inl (cI, 32, .inl tm))] H → va_D A [(m0, .inr (6, [.int (nI co), .int (nI np), .ref o1, .ref o2, .ref o3, .int (nI n), .ref o4, .ref o5, .ref o6, .ref o7, .int fo1, .int fk1, .int (nI stat), .int (nI how), .int (nI pl), .int (nI la), .int (nI stt), .int (nI q), .ref o8, .ref o9, .int (nI dn), .ref o10, .ref o11])), (o4, .inl (cZ, 32, .inl ru)), (o5, .inl (cI, 32, .inl lo)), (o6, .inl (cI, 32, .inl hi)), (o7, .inl (cI, 32, .inl tm))] → va_S A s.heap H locs → lv_has ls 9 [(6, .int (nI (k0 - cntR th t s0))), (5, .int (nI s0)), (0, .ref m0), (1, .int (nI t)), (2, .int (nI k0)), (3, .int (nI 2)), (4, .int (nI z))] → W p l e ({ frames := 1, cells := 0, slots := 0, locals := 23 } : Room) s m args below meth c H locs 0 0 (MQ below (va_Qv (fun u : Nat => u < n ∧ ¬ th (u * 8 + t) = -1 ∧ cntR th t u = k0) (fun u => pl_out D classes (TY cI cZ cL) A ((fun (u : Nat) => [(m0, .inr (6, [.int (nI co), .int (nI np), .ref o1, .ref o2, .ref o3, .int (nI n), .ref o4, .ref o5, .ref o6, .ref o7, .int (nI 3), .int (nI 0), .int (nI stat), .int (nI how), .int (nI pl), .int (nI la), .int (nI stt), .int (nI q), .ref o8, .ref o9, .int (nI dn), .ref o10, .ref o11])), (o4, .inl (cZ, 32, .inl ru)), (o5, .inl (cI, 32, .inl lo)), (o6, .inl (cI, 32, .inl hi)), (o7, .inl (cI, 32, .inl tm))]) u)) A) args s 0 0 A) (F0 m 6 ls []) := by
    intro k
    induction k using Nat.strongRecOn with
    | _ k ih =>
    intro s0 H locs ls hk hs0 hc0 hP hD hS hl
    have hsn : s0 < n := by rcases Nat.lt_or_eq_of_le hs0 with q | q; exact q; (rw [q] at hc0; omega)
    refine lv_aload_n hx hb d_Model_test_6 rfl (lv_at hl 2 rfl) ?_
    refine pl_get X fw_Model_23 hK hP 0 rfl (v := .ref o4) rfl d_Model_test_7 ?_
    refine lv_bipush (v := nI 8) hx hb d_Model_test_10 (by decide) ?_
    refine lv_iload hx hb d_Model_test_12 (lv_at hl 1 rfl) ?_
    refine pl_imul X d_Model_test_14 (z := nI (s0 * 8)) (pk_mulC _ _) ?_
    refine lv_iload_n hx hb d_Model_test_15 rfl (lv_at hl 3 rfl) ?_
    refine pl_iadd X d_Model_test_16 (z := nI (s0 * 8 + t)) (nI_add _ _) ?_
    refine pl_zald X hK hP 1 1 rfl rfl (s0 * 8 + t) (by omega) (by decide) (z := bI (decide (¬ th (s0 * 8 + t) = -1))) (hru _ (by omega)).1 d_Model_test_17 ?_
    refine pl_ifB_eq X d_Model_test_18 rfl (fun g18 => ?_) (fun g18 => ?_)
    · skip
      refine lv_iload hx hb d_Model_test_26 (lv_at hl 0 rfl) ?_
      refine lv_aload_n hx hb d_Model_test_28 rfl (lv_at hl 2 rfl) ?_
      refine pl_get X fw_Model_23 hK hP 0 rfl (v := .ref o4) rfl d_Model_test_29 ?_
      refine lv_bipush (v := nI 8) hx hb d_Model_test_32 (by decide) ?_
      refine lv_iload hx hb d_Model_test_34 (lv_at hl 1 rfl) ?_
      refine pl_imul X d_Model_test_36 (z := nI (s0 * 8)) (pk_mulC _ _) ?_
      refine lv_iload_n hx hb d_Model_test_37 rfl (lv_at hl 3 rfl) ?_
      refine pl_iadd X d_Model_test_38 (z := nI (s0 * 8 + t)) (nI_add _ _) ?_
      refine pl_zald X hK hP 1 1 rfl rfl (s0 * 8 + t) (by omega) (by decide) (z := bI (decide (¬ th (s0 * 8 + t) = -1))) (hru _ (by omega)).1 d_Model_test_39 ?_
      refine pl_ifB_eq X d_Model_test_40 rfl (fun g40 => ?_) (fun g40 => ?_)
      · skip
        refine lv_iconst (v := nI 0) hx hb d_Model_test_47 (by decide) ?_
        refine pl_isub X d_Model_test_48 (z := nI (k0 - cntR th t (s0 + 1))) (by rw [cntR_no g40, pk_sub (by omega)]; rfl) ?_
        refine lv_istore hx hb d_Model_test_49 hl (by decide) (lv' := [(6, .int (nI (k0 - cntR th t (s0 + 1)))), (5, .int (nI s0)), (0, .ref m0), (1, .int (nI t)), (2, .int (nI k0)), (3, .int (nI 2)), (4, .int (nI z))]) rfl (fun ls hl => ?_)
        refine lv_iinc hx hb d_Model_test_51 hl (k := 1) rfl (nI_inc1 _) (by decide) (lv' := [(5, .int (nI (s0 + 1))), (6, .int (nI (k0 - cntR th t (s0 + 1)))), (0, .ref m0), (1, .int (nI t)), (2, .int (nI k0)), (3, .int (nI 2)), (4, .int (nI z))]) rfl (fun ls hl => ?_)
        refine lv_goto hx hb d_Model_test_54 rfl ?_
        exact ih _ (by omega) (s0 + 1) _ _ _ rfl (by omega) (by rw [cntR_no g40]; exact hc0) hP hD hS (lv_sub hl [1, 0, 2, 3, 4, 5, 6] rfl)
      · skip
        exact absurd g40 (by rw [g18]; decide)
    · skip
      refine lv_iload hx hb d_Model_test_21 (lv_at hl 0 rfl) ?_
      refine pl_if_le X (by omega) d_Model_test_23 rfl (fun g23 => ?_) (fun g23 => ?_)
      · skip
        refine lv_bipush (v := nI 8) hx hb d_Model_test_57 (by decide) ?_
        refine lv_iload hx hb d_Model_test_59 (lv_at hl 1 rfl) ?_
        refine pl_imul X d_Model_test_61 (z := nI (s0 * 8)) (pk_mulC _ _) ?_
        refine lv_iload_n hx hb d_Model_test_62 rfl (lv_at hl 3 rfl) ?_
        refine pl_iadd X d_Model_test_63 (z := nI (s0 * 8 + t)) (nI_add _ _) ?_
        refine lv_istore hx hb d_Model_test_64 hl (by decide) (lv' := [(7, .int (nI (s0 * 8 + t))), (6, .int (nI (k0 - cntR th t s0))), (5, .int (nI s0)), (0, .ref m0), (1, .int (nI t)), (2, .int (nI k0)), (3, .int (nI 2)), (4, .int (nI z))]) rfl (fun ls hl => ?_)
        refine lv_iload hx hb d_Model_test_66 (lv_at hl 7 rfl) ?_
        refine lv_bipush (v := nI 16) hx hb d_Model_test_68 (by decide) ?_
        refine lv_aload_n hx hb d_Model_test_70 rfl (lv_at hl 3 rfl) ?_
        refine lv_iload_n hx hb d_Model_test_71 rfl (lv_at hl 4 rfl) ?_
        refine pl_callVI X (rest := [.int (nI 16), .int (nI z)]) (As := [.int (nI t)]) (b := m0) (c_Model_testsOf l D cI cZ cL m0 o1 o2 o3 o4 o5 o6 o7 o8 o9 o10 o11 P K Hm ru lo hi tm sa ca ta tn fo1 fk1 co np n stat how pl la stt q dn th t hn ht hru) ck_Model_85 pl_E0_ok trivial hK hP hD hS hA (T := F_Model) (N := N_Model) (ci := 6) rfl 0 rfl [0, 1] [2, 3, 4] [3, 4, 0, 1, 2] rfl (by decide) (wr := [(o5, .inl (cI, 32, .inl lo)), (o6, .inl (cI, 32, .inl hi)), (o7, .inl (cI, 32, .inl tm))]) rfl (by decide) (by decide) (wf := fun _ => [(m0, .inr (6, [.int (nI co), .int (nI np), .ref o1, .ref o2, .ref o3, .int (nI n), .ref o4, .ref o5, .ref o6, .ref o7, .int fo1, .int fk1, .int (nI stat), .int (nI how), .int (nI pl), .int (nI la), .int (nI stt), .int (nI q), .ref o8, .ref o9, .int (nI dn), .ref o10, .ref o11])), (o4, .inl (cZ, 32, .inl ru)), (o5, .inl (cI, 32, .inl lo)), (o6, .inl (cI, 32, .inl hi)), (o7, .inl (cI, 32, .inl tm))]) (fun _ => rfl) (by decide) rfl hl.1 rfl (Nat.le_of_ble_eq_true rfl) (by decide) (by decide) d_Model_test_72 (fun r u0 H locs hcq hP hD hS => ?_)
        subst hcq
        refine pl_imul X d_Model_test_75 (z := nI ((cntR th t n) * 16)) (pk_mulC _ _) ?_
        refine pl_iadd X d_Model_test_76 (z := nI (z + (cntR th t n) * 16)) (nI_add _ _) ?_
        refine lv_istore hx hb d_Model_test_77 hl (by decide) (lv' := [(8, .int (nI (z + (cntR th t n) * 16))), (7, .int (nI (s0 * 8 + t))), (6, .int (nI (k0 - cntR th t s0))), (5, .int (nI s0)), (0, .ref m0), (1, .int (nI t)), (2, .int (nI k0)), (3, .int (nI 2)), (4, .int (nI z))]) rfl (fun ls hl => ?_)
        refine lv_iload_n hx hb d_Model_test_79 rfl (lv_at hl 7 rfl) ?_
        refine lv_tableIn hx hb d_Model_test_80 (by decide) (by decide) (off := 96) (by decide) (tgt := 176) rfl ?_
        refine lv_aload_n hx hb d_Model_test_176 rfl (lv_at hl 4 rfl) ?_
        refine lv_iconst (v := nI 3) hx hb d_Model_test_177 (by decide) ?_
        refine lv_iconst (v := nI 0) hx hb d_Model_test_178 (by decide) ?_
        refine pl_callVV X (rest := []) (As := [.int (nI 3), .int (nI 0)]) (b := m0) (c_Model_set l D cI cZ cL m0 o1 o2 o3 o4 o5 o6 o7 o8 o9 o10 o11 P K Hm ru lo hi tm sa ca ta tn fo1 fk1 co np n stat how pl la stt q dn (nI 3) (nI 0)) ck_Model_100 pl_E0_ok trivial hK hP hD hS hA (T := F_Model) (N := N_Model) (ci := 6) rfl 0 rfl [0] [1, 2, 3, 4] [4, 0, 1, 2, 3] rfl (by decide) (wr := [(o4, .inl (cZ, 32, .inl ru)), (o5, .inl (cI, 32, .inl lo)), (o6, .inl (cI, 32, .inl hi)), (o7, .inl (cI, 32, .inl tm))]) rfl (by decide) (by decide) (wf := fun _ => [(m0, .inr (6, [.int (nI co), .int (nI np), .ref o1, .ref o2, .ref o3, .int (nI n), .ref o4, .ref o5, .ref o6, .ref o7, .int (nI 3), .int (nI 0), .int (nI stat), .int (nI how), .int (nI pl), .int (nI la), .int (nI stt), .int (nI q), .ref o8, .ref o9, .int (nI dn), .ref o10, .ref o11])), (o4, .inl (cZ, 32, .inl ru)), (o5, .inl (cI, 32, .inl lo)), (o6, .inl (cI, 32, .inl hi)), (o7, .inl (cI, 32, .inl tm))]) (fun _ => rfl) (by decide) rfl hl.1 rfl (Nat.le_of_ble_eq_true rfl) (by decide) (by decide) d_Model_test_179 (fun u0 H locs hcq hP hD hS => ?_)
        refine lv_goto hx hb d_Model_test_182 rfl ?_
        exact pl_vret X hr hlk hK s0 ⟨hsn, rn_yes g18, by omega⟩ hP hD hS d_Model_test_309
      · skip
        refine lv_iload hx hb d_Model_test_26 (lv_at hl 0 rfl) ?_
        refine lv_aload_n hx hb d_Model_test_28 rfl (lv_at hl 2 rfl) ?_
        refine pl_get X fw_Model_23 hK hP 0 rfl (v := .ref o4) rfl d_Model_test_29 ?_
        refine lv_bipush (v := nI 8) hx hb d_Model_test_32 (by decide) ?_
        refine lv_iload hx hb d_Model_test_34 (lv_at hl 1 rfl) ?_
        refine pl_imul X d_Model_test_36 (z := nI (s0 * 8)) (pk_mulC _ _) ?_
        refine lv_iload_n hx hb d_Model_test_37 rfl (lv_at hl 3 rfl) ?_
        refine pl_iadd X d_Model_test_38 (z := nI (s0 * 8 + t)) (nI_add _ _) ?_
        refine pl_zald X hK hP 1 1 rfl rfl (s0 * 8 + t) (by omega) (by decide) (z := bI (decide (¬ th (s0 * 8 + t) = -1))) (hru _ (by omega)).1 d_Model_test_39 ?_
        refine pl_ifB_eq X d_Model_test_40 rfl (fun g40 => ?_) (fun g40 => ?_)
        · skip
          exact absurd g40 (by rw [g18]; decide)
        · skip
          refine lv_iconst (v := nI 1) hx hb d_Model_test_43 (by decide) ?_
          refine lv_goto hx hb d_Model_test_44 rfl ?_
          refine pl_isub X d_Model_test_48 (z := nI (k0 - cntR th t (s0 + 1))) (by rw [cntR_yes g40, pk_sub (by omega)]; rfl) ?_
          refine lv_istore hx hb d_Model_test_49 hl (by decide) (lv' := [(6, .int (nI (k0 - cntR th t (s0 + 1)))), (5, .int (nI s0)), (0, .ref m0), (1, .int (nI t)), (2, .int (nI k0)), (3, .int (nI 2)), (4, .int (nI z))]) rfl (fun ls hl => ?_)
          refine lv_iinc hx hb d_Model_test_51 hl (k := 1) rfl (nI_inc1 _) (by decide) (lv' := [(5, .int (nI (s0 + 1))), (6, .int (nI (k0 - cntR th t (s0 + 1)))), (0, .ref m0), (1, .int (nI t)), (2, .int (nI k0)), (3, .int (nI 2)), (4, .int (nI z))]) rfl (fun ls hl => ?_)
          refine lv_goto hx hb d_Model_test_54 rfl ?_
          exact ih _ (by omega) (s0 + 1) _ _ _ rfl (by omega) (by rw [cntR_yes g40]; omega) hP hD hS (lv_sub hl [1, 0, 2, 3, 4, 5, 6] rfl)
  exact loop_6 _ 0 _ _ _ rfl (Nat.zero_le _) (Nat.zero_le _) hP hD hS hl

set_option maxHeartbeats 4000000 in
set_option maxRecDepth 100000 in
theorem c_Model_test_3 (l : Launch) (D : va_G) (cI cZ cL : ClassId) (m0 o1 o2 o3 o4 o5 o6 o7 o8 o9 o10 o11 : Nat) (P K Hm ru lo hi tm sa ca ta tn : Nat → Int32) (fo1 fk1 : Int32) (co np n stat how pl la stt q dn : Nat) (th : Nat → Int32) (t k0 z : Nat) (hn : n ≤ 4) (ht : t < 8) (hk0 : k0 < cntR th t n) (hz : z ≤ 1600) (hru : rulR ru tm th) : pl_V l y_Model_test b_Model_test 9 ({ frames := 1, cells := 0, slots := 0, locals := 23 } : Room) pl_E0 D classes (TY cI cZ cL) [.ref m0, .int (nI t), .int (nI k0), .int (nI 3), .int (nI z)] [(m0, .inr (6, [.int (nI co), .int (nI np), .ref o1, .ref o2, .ref o3, .int (nI n), .ref o4, .ref o5, .ref o6, .ref o7, .int fo1, .int fk1, .int (nI stat), .int (nI how), .int (nI pl), .int (nI la), .int (nI stt), .int (nI q), .ref o8, .ref o9, .int (nI dn), .ref o10, .ref o11])), (o4, .inl (cZ, 32, .inl ru)), (o5, .inl (cI, 32, .inl lo)), (o6, .inl (cI, 32, .inl hi)), (o7, .inl (cI, 32, .inl tm))] (fun u : Nat => u < n ∧ ¬ th (u * 8 + t) = -1 ∧ cntR th t u = k0) (fun (u : Nat) => [(m0, .inr (6, [.int (nI co), .int (nI np), .ref o1, .ref o2, .ref o3, .int (nI n), .ref o4, .ref o5, .ref o6, .ref o7, .int (nI 8), .int (nI (z + (k0 + 1) * 16)), .int (nI stat), .int (nI how), .int (nI pl), .int (nI la), .int (nI stt), .int (nI q), .ref o8, .ref o9, .int (nI dn), .ref o10, .ref o11])), (o4, .inl (cZ, 32, .inl ru)), (o5, .inl (cI, 32, .inl lo)), (o6, .inl (cI, 32, .inl hi)), (o7, .inl (cI, 32, .inl tm))]) := by
  refine pl_startV (by decide) (Nat.le_of_ble_eq_true rfl) ?_
  intro p e s m args below meth c A ls X hr hlk hin hK hP hD hS hA hE hl
  have X : CallFix p m c b_Model_test 9 s args TG R_Model := X
  have hx := X.1
  have hb := X.2.1
  have hl : lv_has ls 9 [(0, .ref m0), (1, .int (nI t)), (2, .int (nI k0)), (3, .int (nI 3)), (4, .int (nI z))] := hl
  have hcn := cntR_le th t n
  refine lv_iconst (v := nI 0) hx hb d_Model_test_0 (by decide) ?_
  refine lv_istore hx hb d_Model_test_1 hl (by decide) (lv' := [(5, .int (nI 0)), (0, .ref m0), (1, .int (nI t)), (2, .int (nI k0)), (3, .int (nI 3)), (4, .int (nI z))]) rfl (fun ls hl => ?_)
  refine lv_iload_n hx hb d_Model_test_3 rfl (lv_at hl 3 rfl) ?_
  refine lv_istore hx hb d_Model_test_4 hl (by decide) (lv' := [(6, .int (nI k0)), (5, .int (nI 0)), (0, .ref m0), (1, .int (nI t)), (2, .int (nI k0)), (3, .int (nI 3)), (4, .int (nI z))]) rfl (fun ls hl => ?_)
  have loop_6 : ∀ (k : Nat) (s0 : Nat) (H : Heap) (locs : List Loc) (ls : Array Slot), n - s0 = k → (s0 ≤ n) → (cntR th t s0 ≤ k0) → va_P D classes [(m0, .inr (6, [.int (nI co), .int (nI np), .ref o1, .ref o2, .ref o3, .int (nI n), .ref o4, .ref o5, .ref o6, .ref o7, .int fo1, .int fk1, .int (nI stat), .int (nI how), .int (nI pl), .int (nI la), .int (nI stt), .int (nI q), .ref o8, .ref o9, .int (nI dn), .ref o10, .ref o11])), (o4, .inl (cZ, 32, .inl ru)), (o5, .inl (cI, 32, .inl lo)), (o6, .inl (cI, 32, .inl hi)), (o7, .inl (cI, 32, .inl tm))] H → va_D A [(m0, .inr (6, [.int (nI co), .int (nI np), .ref o1, .ref o2, .ref o3, .int (nI n), .ref o4, .ref o5, .ref o6, .ref o7, .int fo1, .int fk1, .int (nI stat), .int (nI how), .int (nI pl), .int (nI la), .int (nI stt), .int (nI q), .ref o8, .ref o9, .int (nI dn), .ref o10, .ref o11])), (o4, .inl (cZ, 32, .inl ru)), (o5, .inl (cI, 32, .inl lo)), (o6, .inl (cI, 32, .inl hi)), (o7, .inl (cI, 32, .inl tm))] → va_S A s.heap H locs → lv_has ls 9 [(6, .int (nI (k0 - cntR th t s0))), (5, .int (nI s0)), (0, .ref m0), (1, .int (nI t)), (2, .int (nI k0)), (3, .int (nI 3)), (4, .int (nI z))] → W p l e ({ frames := 1, cells := 0, slots := 0, locals := 23 } : Room) s m args below meth c H locs 0 0 (MQ below (va_Qv (fun u : Nat => u < n ∧ ¬ th (u * 8 + t) = -1 ∧ cntR th t u = k0) (fun u => pl_out D classes (TY cI cZ cL) A ((fun (u : Nat) => [(m0, .inr (6, [.int (nI co), .int (nI np), .ref o1, .ref o2, .ref o3, .int (nI n), .ref o4, .ref o5, .ref o6, .ref o7, .int (nI 8), .int (nI (z + (k0 + 1) * 16)), .int (nI stat), .int (nI how), .int (nI pl), .int (nI la), .int (nI stt), .int (nI q), .ref o8, .ref o9, .int (nI dn), .ref o10, .ref o11])), (o4, .inl (cZ, 32, .inl ru)), (o5, .inl (cI, 32, .inl lo)), (o6, .inl (cI, 32, .inl hi)), (o7, .inl (cI, 32, .inl tm))]) u)) A) args s 0 0 A) (F0 m 6 ls []) := by
    intro k
    induction k using Nat.strongRecOn with
    | _ k ih =>
    intro s0 H locs ls hk hs0 hc0 hP hD hS hl
    have hsn : s0 < n := by rcases Nat.lt_or_eq_of_le hs0 with q | q; exact q; (rw [q] at hc0; omega)
    refine lv_aload_n hx hb d_Model_test_6 rfl (lv_at hl 2 rfl) ?_
    refine pl_get X fw_Model_23 hK hP 0 rfl (v := .ref o4) rfl d_Model_test_7 ?_
    refine lv_bipush (v := nI 8) hx hb d_Model_test_10 (by decide) ?_
    refine lv_iload hx hb d_Model_test_12 (lv_at hl 1 rfl) ?_
    refine pl_imul X d_Model_test_14 (z := nI (s0 * 8)) (pk_mulC _ _) ?_
    refine lv_iload_n hx hb d_Model_test_15 rfl (lv_at hl 3 rfl) ?_
    refine pl_iadd X d_Model_test_16 (z := nI (s0 * 8 + t)) (nI_add _ _) ?_
    refine pl_zald X hK hP 1 1 rfl rfl (s0 * 8 + t) (by omega) (by decide) (z := bI (decide (¬ th (s0 * 8 + t) = -1))) (hru _ (by omega)).1 d_Model_test_17 ?_
    refine pl_ifB_eq X d_Model_test_18 rfl (fun g18 => ?_) (fun g18 => ?_)
    · skip
      refine lv_iload hx hb d_Model_test_26 (lv_at hl 0 rfl) ?_
      refine lv_aload_n hx hb d_Model_test_28 rfl (lv_at hl 2 rfl) ?_
      refine pl_get X fw_Model_23 hK hP 0 rfl (v := .ref o4) rfl d_Model_test_29 ?_
      refine lv_bipush (v := nI 8) hx hb d_Model_test_32 (by decide) ?_
      refine lv_iload hx hb d_Model_test_34 (lv_at hl 1 rfl) ?_
      refine pl_imul X d_Model_test_36 (z := nI (s0 * 8)) (pk_mulC _ _) ?_
      refine lv_iload_n hx hb d_Model_test_37 rfl (lv_at hl 3 rfl) ?_
      refine pl_iadd X d_Model_test_38 (z := nI (s0 * 8 + t)) (nI_add _ _) ?_
      refine pl_zald X hK hP 1 1 rfl rfl (s0 * 8 + t) (by omega) (by decide) (z := bI (decide (¬ th (s0 * 8 + t) = -1))) (hru _ (by omega)).1 d_Model_test_39 ?_
      refine pl_ifB_eq X d_Model_test_40 rfl (fun g40 => ?_) (fun g40 => ?_)
      · skip
        refine lv_iconst (v := nI 0) hx hb d_Model_test_47 (by decide) ?_
        refine pl_isub X d_Model_test_48 (z := nI (k0 - cntR th t (s0 + 1))) (by rw [cntR_no g40, pk_sub (by omega)]; rfl) ?_
        refine lv_istore hx hb d_Model_test_49 hl (by decide) (lv' := [(6, .int (nI (k0 - cntR th t (s0 + 1)))), (5, .int (nI s0)), (0, .ref m0), (1, .int (nI t)), (2, .int (nI k0)), (3, .int (nI 3)), (4, .int (nI z))]) rfl (fun ls hl => ?_)
        refine lv_iinc hx hb d_Model_test_51 hl (k := 1) rfl (nI_inc1 _) (by decide) (lv' := [(5, .int (nI (s0 + 1))), (6, .int (nI (k0 - cntR th t (s0 + 1)))), (0, .ref m0), (1, .int (nI t)), (2, .int (nI k0)), (3, .int (nI 3)), (4, .int (nI z))]) rfl (fun ls hl => ?_)
        refine lv_goto hx hb d_Model_test_54 rfl ?_
        exact ih _ (by omega) (s0 + 1) _ _ _ rfl (by omega) (by rw [cntR_no g40]; exact hc0) hP hD hS (lv_sub hl [1, 0, 2, 3, 4, 5, 6] rfl)
      · skip
        exact absurd g40 (by rw [g18]; decide)
    · skip
      refine lv_iload hx hb d_Model_test_21 (lv_at hl 0 rfl) ?_
      refine pl_if_le X (by omega) d_Model_test_23 rfl (fun g23 => ?_) (fun g23 => ?_)
      · skip
        refine lv_bipush (v := nI 8) hx hb d_Model_test_57 (by decide) ?_
        refine lv_iload hx hb d_Model_test_59 (lv_at hl 1 rfl) ?_
        refine pl_imul X d_Model_test_61 (z := nI (s0 * 8)) (pk_mulC _ _) ?_
        refine lv_iload_n hx hb d_Model_test_62 rfl (lv_at hl 3 rfl) ?_
        refine pl_iadd X d_Model_test_63 (z := nI (s0 * 8 + t)) (nI_add _ _) ?_
        refine lv_istore hx hb d_Model_test_64 hl (by decide) (lv' := [(7, .int (nI (s0 * 8 + t))), (6, .int (nI (k0 - cntR th t s0))), (5, .int (nI s0)), (0, .ref m0), (1, .int (nI t)), (2, .int (nI k0)), (3, .int (nI 3)), (4, .int (nI z))]) rfl (fun ls hl => ?_)
        refine lv_iload hx hb d_Model_test_66 (lv_at hl 7 rfl) ?_
        refine lv_bipush (v := nI 16) hx hb d_Model_test_68 (by decide) ?_
        refine lv_aload_n hx hb d_Model_test_70 rfl (lv_at hl 3 rfl) ?_
        refine lv_iload_n hx hb d_Model_test_71 rfl (lv_at hl 4 rfl) ?_
        refine pl_callVI X (rest := [.int (nI 16), .int (nI z)]) (As := [.int (nI t)]) (b := m0) (c_Model_testsOf l D cI cZ cL m0 o1 o2 o3 o4 o5 o6 o7 o8 o9 o10 o11 P K Hm ru lo hi tm sa ca ta tn fo1 fk1 co np n stat how pl la stt q dn th t hn ht hru) ck_Model_85 pl_E0_ok trivial hK hP hD hS hA (T := F_Model) (N := N_Model) (ci := 6) rfl 0 rfl [0, 1] [2, 3, 4] [3, 4, 0, 1, 2] rfl (by decide) (wr := [(o5, .inl (cI, 32, .inl lo)), (o6, .inl (cI, 32, .inl hi)), (o7, .inl (cI, 32, .inl tm))]) rfl (by decide) (by decide) (wf := fun _ => [(m0, .inr (6, [.int (nI co), .int (nI np), .ref o1, .ref o2, .ref o3, .int (nI n), .ref o4, .ref o5, .ref o6, .ref o7, .int fo1, .int fk1, .int (nI stat), .int (nI how), .int (nI pl), .int (nI la), .int (nI stt), .int (nI q), .ref o8, .ref o9, .int (nI dn), .ref o10, .ref o11])), (o4, .inl (cZ, 32, .inl ru)), (o5, .inl (cI, 32, .inl lo)), (o6, .inl (cI, 32, .inl hi)), (o7, .inl (cI, 32, .inl tm))]) (fun _ => rfl) (by decide) rfl hl.1 rfl (Nat.le_of_ble_eq_true rfl) (by decide) (by decide) d_Model_test_72 (fun r u0 H locs hcq hP hD hS => ?_)
        subst hcq
        refine pl_imul X d_Model_test_75 (z := nI ((cntR th t n) * 16)) (pk_mulC _ _) ?_
        refine pl_iadd X d_Model_test_76 (z := nI (z + (cntR th t n) * 16)) (nI_add _ _) ?_
        refine lv_istore hx hb d_Model_test_77 hl (by decide) (lv' := [(8, .int (nI (z + (cntR th t n) * 16))), (7, .int (nI (s0 * 8 + t))), (6, .int (nI (k0 - cntR th t s0))), (5, .int (nI s0)), (0, .ref m0), (1, .int (nI t)), (2, .int (nI k0)), (3, .int (nI 3)), (4, .int (nI z))]) rfl (fun ls hl => ?_)
        refine lv_iload_n hx hb d_Model_test_79 rfl (lv_at hl 7 rfl) ?_
        refine lv_tableIn hx hb d_Model_test_80 (by decide) (by decide) (off := 105) (by decide) (tgt := 185) rfl ?_
        refine lv_aload_n hx hb d_Model_test_185 rfl (lv_at hl 4 rfl) ?_
        refine lv_bipush (v := nI 8) hx hb d_Model_test_186 (by decide) ?_
        refine lv_iload hx hb d_Model_test_188 (lv_at hl 8 rfl) ?_
        refine lv_bipush (v := nI 16) hx hb d_Model_test_190 (by decide) ?_
        refine lv_iload_n hx hb d_Model_test_192 rfl (lv_at hl 6 rfl) ?_
        refine lv_iconst (v := nI 1) hx hb d_Model_test_193 (by decide) ?_
        refine pl_iadd X d_Model_test_194 (z := nI (k0 + 1)) (nI_add _ _) ?_
        refine pl_imul X d_Model_test_195 (z := nI ((k0 + 1) * 16)) (pk_mulC _ _) ?_
        refine pl_iadd X d_Model_test_196 (z := nI (z + (k0 + 1) * 16)) (nI_add _ _) ?_
        refine pl_callVV X (rest := []) (As := [.int (nI 8), .int (nI (z + (k0 + 1) * 16))]) (b := m0) (c_Model_set l D cI cZ cL m0 o1 o2 o3 o4 o5 o6 o7 o8 o9 o10 o11 P K Hm ru lo hi tm sa ca ta tn fo1 fk1 co np n stat how pl la stt q dn (nI 8) (nI (z + (k0 + 1) * 16))) ck_Model_100 pl_E0_ok trivial hK hP hD hS hA (T := F_Model) (N := N_Model) (ci := 6) rfl 0 rfl [0] [1, 2, 3, 4] [4, 0, 1, 2, 3] rfl (by decide) (wr := [(o4, .inl (cZ, 32, .inl ru)), (o5, .inl (cI, 32, .inl lo)), (o6, .inl (cI, 32, .inl hi)), (o7, .inl (cI, 32, .inl tm))]) rfl (by decide) (by decide) (wf := fun _ => [(m0, .inr (6, [.int (nI co), .int (nI np), .ref o1, .ref o2, .ref o3, .int (nI n), .ref o4, .ref o5, .ref o6, .ref o7, .int (nI 8), .int (nI (z + (k0 + 1) * 16)), .int (nI stat), .int (nI how), .int (nI pl), .int (nI la), .int (nI stt), .int (nI q), .ref o8, .ref o9, .int (nI dn), .ref o10, .ref o11])), (o4, .inl (cZ, 32, .inl ru)), (o5, .inl (cI, 32, .inl lo)), (o6, .inl (cI, 32, .inl hi)), (o7, .inl (cI, 32, .inl tm))]) (fun _ => rfl) (by decide) rfl hl.1 rfl (Nat.le_of_ble_eq_true rfl) (by decide) (by decide) d_Model_test_197 (fun u0 H locs hcq hP hD hS => ?_)
        refine lv_goto hx hb d_Model_test_200 rfl ?_
        exact pl_vret X hr hlk hK s0 ⟨hsn, rn_yes g18, by omega⟩ hP hD hS d_Model_test_309
      · skip
        refine lv_iload hx hb d_Model_test_26 (lv_at hl 0 rfl) ?_
        refine lv_aload_n hx hb d_Model_test_28 rfl (lv_at hl 2 rfl) ?_
        refine pl_get X fw_Model_23 hK hP 0 rfl (v := .ref o4) rfl d_Model_test_29 ?_
        refine lv_bipush (v := nI 8) hx hb d_Model_test_32 (by decide) ?_
        refine lv_iload hx hb d_Model_test_34 (lv_at hl 1 rfl) ?_
        refine pl_imul X d_Model_test_36 (z := nI (s0 * 8)) (pk_mulC _ _) ?_
        refine lv_iload_n hx hb d_Model_test_37 rfl (lv_at hl 3 rfl) ?_
        refine pl_iadd X d_Model_test_38 (z := nI (s0 * 8 + t)) (nI_add _ _) ?_
        refine pl_zald X hK hP 1 1 rfl rfl (s0 * 8 + t) (by omega) (by decide) (z := bI (decide (¬ th (s0 * 8 + t) = -1))) (hru _ (by omega)).1 d_Model_test_39 ?_
        refine pl_ifB_eq X d_Model_test_40 rfl (fun g40 => ?_) (fun g40 => ?_)
        · skip
          exact absurd g40 (by rw [g18]; decide)
        · skip
          refine lv_iconst (v := nI 1) hx hb d_Model_test_43 (by decide) ?_
          refine lv_goto hx hb d_Model_test_44 rfl ?_
          refine pl_isub X d_Model_test_48 (z := nI (k0 - cntR th t (s0 + 1))) (by rw [cntR_yes g40, pk_sub (by omega)]; rfl) ?_
          refine lv_istore hx hb d_Model_test_49 hl (by decide) (lv' := [(6, .int (nI (k0 - cntR th t (s0 + 1)))), (5, .int (nI s0)), (0, .ref m0), (1, .int (nI t)), (2, .int (nI k0)), (3, .int (nI 3)), (4, .int (nI z))]) rfl (fun ls hl => ?_)
          refine lv_iinc hx hb d_Model_test_51 hl (k := 1) rfl (nI_inc1 _) (by decide) (lv' := [(5, .int (nI (s0 + 1))), (6, .int (nI (k0 - cntR th t (s0 + 1)))), (0, .ref m0), (1, .int (nI t)), (2, .int (nI k0)), (3, .int (nI 3)), (4, .int (nI z))]) rfl (fun ls hl => ?_)
          refine lv_goto hx hb d_Model_test_54 rfl ?_
          exact ih _ (by omega) (s0 + 1) _ _ _ rfl (by omega) (by rw [cntR_yes g40]; omega) hP hD hS (lv_sub hl [1, 0, 2, 3, 4, 5, 6] rfl)
  exact loop_6 _ 0 _ _ _ rfl (Nat.zero_le _) (Nat.zero_le _) hP hD hS hl

set_option maxHeartbeats 4000000 in
set_option maxRecDepth 100000 in
theorem c_Model_test_4 (l : Launch) (D : va_G) (cI cZ cL : ClassId) (m0 o1 o2 o3 o4 o5 o6 o7 o8 o9 o10 o11 : Nat) (P K Hm ru lo hi tm sa ca ta tn : Nat → Int32) (fo1 fk1 : Int32) (co np n stat how pl la stt q dn : Nat) (th : Nat → Int32) (t k0 z : Nat) (hn : n ≤ 4) (ht : t < 8) (hk0 : k0 < cntR th t n) (hz : z ≤ 1600) (hru : rulR ru tm th) : pl_V l y_Model_test b_Model_test 9 ({ frames := 1, cells := 0, slots := 0, locals := 23 } : Room) pl_E0 D classes (TY cI cZ cL) [.ref m0, .int (nI t), .int (nI k0), .int (nI 4), .int (nI z)] [(m0, .inr (6, [.int (nI co), .int (nI np), .ref o1, .ref o2, .ref o3, .int (nI n), .ref o4, .ref o5, .ref o6, .ref o7, .int fo1, .int fk1, .int (nI stat), .int (nI how), .int (nI pl), .int (nI la), .int (nI stt), .int (nI q), .ref o8, .ref o9, .int (nI dn), .ref o10, .ref o11])), (o4, .inl (cZ, 32, .inl ru)), (o5, .inl (cI, 32, .inl lo)), (o6, .inl (cI, 32, .inl hi)), (o7, .inl (cI, 32, .inl tm))] (fun u : Nat => u < n ∧ ¬ th (u * 8 + t) = -1 ∧ cntR th t u = k0) (fun (u : Nat) => [(m0, .inr (6, [.int (nI co), .int (nI np), .ref o1, .ref o2, .ref o3, .int (nI n), .ref o4, .ref o5, .ref o6, .ref o7, .int (nI 11), .int (nI 0), .int (nI stat), .int (nI how), .int (nI pl), .int (nI la), .int (nI stt), .int (nI q), .ref o8, .ref o9, .int (nI dn), .ref o10, .ref o11])), (o4, .inl (cZ, 32, .inl ru)), (o5, .inl (cI, 32, .inl lo)), (o6, .inl (cI, 32, .inl hi)), (o7, .inl (cI, 32, .inl tm))]) := by
  refine pl_startV (by decide) (Nat.le_of_ble_eq_true rfl) ?_
  intro p e s m args below meth c A ls X hr hlk hin hK hP hD hS hA hE hl
  have X : CallFix p m c b_Model_test 9 s args TG R_Model := X
  have hx := X.1
  have hb := X.2.1
  have hl : lv_has ls 9 [(0, .ref m0), (1, .int (nI t)), (2, .int (nI k0)), (3, .int (nI 4)), (4, .int (nI z))] := hl
  have hcn := cntR_le th t n
  refine lv_iconst (v := nI 0) hx hb d_Model_test_0 (by decide) ?_
  refine lv_istore hx hb d_Model_test_1 hl (by decide) (lv' := [(5, .int (nI 0)), (0, .ref m0), (1, .int (nI t)), (2, .int (nI k0)), (3, .int (nI 4)), (4, .int (nI z))]) rfl (fun ls hl => ?_)
  refine lv_iload_n hx hb d_Model_test_3 rfl (lv_at hl 3 rfl) ?_
  refine lv_istore hx hb d_Model_test_4 hl (by decide) (lv' := [(6, .int (nI k0)), (5, .int (nI 0)), (0, .ref m0), (1, .int (nI t)), (2, .int (nI k0)), (3, .int (nI 4)), (4, .int (nI z))]) rfl (fun ls hl => ?_)
  have loop_6 : ∀ (k : Nat) (s0 : Nat) (H : Heap) (locs : List Loc) (ls : Array Slot), n - s0 = k → (s0 ≤ n) → (cntR th t s0 ≤ k0) → va_P D classes [(m0, .inr (6, [.int (nI co), .int (nI np), .ref o1, .ref o2, .ref o3, .int (nI n), .ref o4, .ref o5, .ref o6, .ref o7, .int fo1, .int fk1, .int (nI stat), .int (nI how), .int (nI pl), .int (nI la), .int (nI stt), .int (nI q), .ref o8, .ref o9, .int (nI dn), .ref o10, .ref o11])), (o4, .inl (cZ, 32, .inl ru)), (o5, .inl (cI, 32, .inl lo)), (o6, .inl (cI, 32, .inl hi)), (o7, .inl (cI, 32, .inl tm))] H → va_D A [(m0, .inr (6, [.int (nI co), .int (nI np), .ref o1, .ref o2, .ref o3, .int (nI n), .ref o4, .ref o5, .ref o6, .ref o7, .int fo1, .int fk1, .int (nI stat), .int (nI how), .int (nI pl), .int (nI la), .int (nI stt), .int (nI q), .ref o8, .ref o9, .int (nI dn), .ref o10, .ref o11])), (o4, .inl (cZ, 32, .inl ru)), (o5, .inl (cI, 32, .inl lo)), (o6, .inl (cI, 32, .inl hi)), (o7, .inl (cI, 32, .inl tm))] → va_S A s.heap H locs → lv_has ls 9 [(6, .int (nI (k0 - cntR th t s0))), (5, .int (nI s0)), (0, .ref m0), (1, .int (nI t)), (2, .int (nI k0)), (3, .int (nI 4)), (4, .int (nI z))] → W p l e ({ frames := 1, cells := 0, slots := 0, locals := 23 } : Room) s m args below meth c H locs 0 0 (MQ below (va_Qv (fun u : Nat => u < n ∧ ¬ th (u * 8 + t) = -1 ∧ cntR th t u = k0) (fun u => pl_out D classes (TY cI cZ cL) A ((fun (u : Nat) => [(m0, .inr (6, [.int (nI co), .int (nI np), .ref o1, .ref o2, .ref o3, .int (nI n), .ref o4, .ref o5, .ref o6, .ref o7, .int (nI 11), .int (nI 0), .int (nI stat), .int (nI how), .int (nI pl), .int (nI la), .int (nI stt), .int (nI q), .ref o8, .ref o9, .int (nI dn), .ref o10, .ref o11])), (o4, .inl (cZ, 32, .inl ru)), (o5, .inl (cI, 32, .inl lo)), (o6, .inl (cI, 32, .inl hi)), (o7, .inl (cI, 32, .inl tm))]) u)) A) args s 0 0 A) (F0 m 6 ls []) := by
    intro k
    induction k using Nat.strongRecOn with
    | _ k ih =>
    intro s0 H locs ls hk hs0 hc0 hP hD hS hl
    have hsn : s0 < n := by rcases Nat.lt_or_eq_of_le hs0 with q | q; exact q; (rw [q] at hc0; omega)
    refine lv_aload_n hx hb d_Model_test_6 rfl (lv_at hl 2 rfl) ?_
    refine pl_get X fw_Model_23 hK hP 0 rfl (v := .ref o4) rfl d_Model_test_7 ?_
    refine lv_bipush (v := nI 8) hx hb d_Model_test_10 (by decide) ?_
    refine lv_iload hx hb d_Model_test_12 (lv_at hl 1 rfl) ?_
    refine pl_imul X d_Model_test_14 (z := nI (s0 * 8)) (pk_mulC _ _) ?_
    refine lv_iload_n hx hb d_Model_test_15 rfl (lv_at hl 3 rfl) ?_
    refine pl_iadd X d_Model_test_16 (z := nI (s0 * 8 + t)) (nI_add _ _) ?_
    refine pl_zald X hK hP 1 1 rfl rfl (s0 * 8 + t) (by omega) (by decide) (z := bI (decide (¬ th (s0 * 8 + t) = -1))) (hru _ (by omega)).1 d_Model_test_17 ?_
    refine pl_ifB_eq X d_Model_test_18 rfl (fun g18 => ?_) (fun g18 => ?_)
    · skip
      refine lv_iload hx hb d_Model_test_26 (lv_at hl 0 rfl) ?_
      refine lv_aload_n hx hb d_Model_test_28 rfl (lv_at hl 2 rfl) ?_
      refine pl_get X fw_Model_23 hK hP 0 rfl (v := .ref o4) rfl d_Model_test_29 ?_
      refine lv_bipush (v := nI 8) hx hb d_Model_test_32 (by decide) ?_
      refine lv_iload hx hb d_Model_test_34 (lv_at hl 1 rfl) ?_
      refine pl_imul X d_Model_test_36 (z := nI (s0 * 8)) (pk_mulC _ _) ?_
      refine lv_iload_n hx hb d_Model_test_37 rfl (lv_at hl 3 rfl) ?_
      refine pl_iadd X d_Model_test_38 (z := nI (s0 * 8 + t)) (nI_add _ _) ?_
      refine pl_zald X hK hP 1 1 rfl rfl (s0 * 8 + t) (by omega) (by decide) (z := bI (decide (¬ th (s0 * 8 + t) = -1))) (hru _ (by omega)).1 d_Model_test_39 ?_
      refine pl_ifB_eq X d_Model_test_40 rfl (fun g40 => ?_) (fun g40 => ?_)
      · skip
        refine lv_iconst (v := nI 0) hx hb d_Model_test_47 (by decide) ?_
        refine pl_isub X d_Model_test_48 (z := nI (k0 - cntR th t (s0 + 1))) (by rw [cntR_no g40, pk_sub (by omega)]; rfl) ?_
        refine lv_istore hx hb d_Model_test_49 hl (by decide) (lv' := [(6, .int (nI (k0 - cntR th t (s0 + 1)))), (5, .int (nI s0)), (0, .ref m0), (1, .int (nI t)), (2, .int (nI k0)), (3, .int (nI 4)), (4, .int (nI z))]) rfl (fun ls hl => ?_)
        refine lv_iinc hx hb d_Model_test_51 hl (k := 1) rfl (nI_inc1 _) (by decide) (lv' := [(5, .int (nI (s0 + 1))), (6, .int (nI (k0 - cntR th t (s0 + 1)))), (0, .ref m0), (1, .int (nI t)), (2, .int (nI k0)), (3, .int (nI 4)), (4, .int (nI z))]) rfl (fun ls hl => ?_)
        refine lv_goto hx hb d_Model_test_54 rfl ?_
        exact ih _ (by omega) (s0 + 1) _ _ _ rfl (by omega) (by rw [cntR_no g40]; exact hc0) hP hD hS (lv_sub hl [1, 0, 2, 3, 4, 5, 6] rfl)
      · skip
        exact absurd g40 (by rw [g18]; decide)
    · skip
      refine lv_iload hx hb d_Model_test_21 (lv_at hl 0 rfl) ?_
      refine pl_if_le X (by omega) d_Model_test_23 rfl (fun g23 => ?_) (fun g23 => ?_)
      · skip
        refine lv_bipush (v := nI 8) hx hb d_Model_test_57 (by decide) ?_
        refine lv_iload hx hb d_Model_test_59 (lv_at hl 1 rfl) ?_
        refine pl_imul X d_Model_test_61 (z := nI (s0 * 8)) (pk_mulC _ _) ?_
        refine lv_iload_n hx hb d_Model_test_62 rfl (lv_at hl 3 rfl) ?_
        refine pl_iadd X d_Model_test_63 (z := nI (s0 * 8 + t)) (nI_add _ _) ?_
        refine lv_istore hx hb d_Model_test_64 hl (by decide) (lv' := [(7, .int (nI (s0 * 8 + t))), (6, .int (nI (k0 - cntR th t s0))), (5, .int (nI s0)), (0, .ref m0), (1, .int (nI t)), (2, .int (nI k0)), (3, .int (nI 4)), (4, .int (nI z))]) rfl (fun ls hl => ?_)
        refine lv_iload hx hb d_Model_test_66 (lv_at hl 7 rfl) ?_
        refine lv_bipush (v := nI 16) hx hb d_Model_test_68 (by decide) ?_
        refine lv_aload_n hx hb d_Model_test_70 rfl (lv_at hl 3 rfl) ?_
        refine lv_iload_n hx hb d_Model_test_71 rfl (lv_at hl 4 rfl) ?_
        refine pl_callVI X (rest := [.int (nI 16), .int (nI z)]) (As := [.int (nI t)]) (b := m0) (c_Model_testsOf l D cI cZ cL m0 o1 o2 o3 o4 o5 o6 o7 o8 o9 o10 o11 P K Hm ru lo hi tm sa ca ta tn fo1 fk1 co np n stat how pl la stt q dn th t hn ht hru) ck_Model_85 pl_E0_ok trivial hK hP hD hS hA (T := F_Model) (N := N_Model) (ci := 6) rfl 0 rfl [0, 1] [2, 3, 4] [3, 4, 0, 1, 2] rfl (by decide) (wr := [(o5, .inl (cI, 32, .inl lo)), (o6, .inl (cI, 32, .inl hi)), (o7, .inl (cI, 32, .inl tm))]) rfl (by decide) (by decide) (wf := fun _ => [(m0, .inr (6, [.int (nI co), .int (nI np), .ref o1, .ref o2, .ref o3, .int (nI n), .ref o4, .ref o5, .ref o6, .ref o7, .int fo1, .int fk1, .int (nI stat), .int (nI how), .int (nI pl), .int (nI la), .int (nI stt), .int (nI q), .ref o8, .ref o9, .int (nI dn), .ref o10, .ref o11])), (o4, .inl (cZ, 32, .inl ru)), (o5, .inl (cI, 32, .inl lo)), (o6, .inl (cI, 32, .inl hi)), (o7, .inl (cI, 32, .inl tm))]) (fun _ => rfl) (by decide) rfl hl.1 rfl (Nat.le_of_ble_eq_true rfl) (by decide) (by decide) d_Model_test_72 (fun r u0 H locs hcq hP hD hS => ?_)
        subst hcq
        refine pl_imul X d_Model_test_75 (z := nI ((cntR th t n) * 16)) (pk_mulC _ _) ?_
        refine pl_iadd X d_Model_test_76 (z := nI (z + (cntR th t n) * 16)) (nI_add _ _) ?_
        refine lv_istore hx hb d_Model_test_77 hl (by decide) (lv' := [(8, .int (nI (z + (cntR th t n) * 16))), (7, .int (nI (s0 * 8 + t))), (6, .int (nI (k0 - cntR th t s0))), (5, .int (nI s0)), (0, .ref m0), (1, .int (nI t)), (2, .int (nI k0)), (3, .int (nI 4)), (4, .int (nI z))]) rfl (fun ls hl => ?_)
        refine lv_iload_n hx hb d_Model_test_79 rfl (lv_at hl 7 rfl) ?_
        refine lv_tableIn hx hb d_Model_test_80 (by decide) (by decide) (off := 123) (by decide) (tgt := 203) rfl ?_
        refine lv_aload_n hx hb d_Model_test_203 rfl (lv_at hl 4 rfl) ?_
        refine lv_bipush (v := nI 11) hx hb d_Model_test_204 (by decide) ?_
        refine lv_iconst (v := nI 0) hx hb d_Model_test_206 (by decide) ?_
        refine pl_callVV X (rest := []) (As := [.int (nI 11), .int (nI 0)]) (b := m0) (c_Model_set l D cI cZ cL m0 o1 o2 o3 o4 o5 o6 o7 o8 o9 o10 o11 P K Hm ru lo hi tm sa ca ta tn fo1 fk1 co np n stat how pl la stt q dn (nI 11) (nI 0)) ck_Model_100 pl_E0_ok trivial hK hP hD hS hA (T := F_Model) (N := N_Model) (ci := 6) rfl 0 rfl [0] [1, 2, 3, 4] [4, 0, 1, 2, 3] rfl (by decide) (wr := [(o4, .inl (cZ, 32, .inl ru)), (o5, .inl (cI, 32, .inl lo)), (o6, .inl (cI, 32, .inl hi)), (o7, .inl (cI, 32, .inl tm))]) rfl (by decide) (by decide) (wf := fun _ => [(m0, .inr (6, [.int (nI co), .int (nI np), .ref o1, .ref o2, .ref o3, .int (nI n), .ref o4, .ref o5, .ref o6, .ref o7, .int (nI 11), .int (nI 0), .int (nI stat), .int (nI how), .int (nI pl), .int (nI la), .int (nI stt), .int (nI q), .ref o8, .ref o9, .int (nI dn), .ref o10, .ref o11])), (o4, .inl (cZ, 32, .inl ru)), (o5, .inl (cI, 32, .inl lo)), (o6, .inl (cI, 32, .inl hi)), (o7, .inl (cI, 32, .inl tm))]) (fun _ => rfl) (by decide) rfl hl.1 rfl (Nat.le_of_ble_eq_true rfl) (by decide) (by decide) d_Model_test_207 (fun u0 H locs hcq hP hD hS => ?_)
        refine lv_goto hx hb d_Model_test_210 rfl ?_
        exact pl_vret X hr hlk hK s0 ⟨hsn, rn_yes g18, by omega⟩ hP hD hS d_Model_test_309
      · skip
        refine lv_iload hx hb d_Model_test_26 (lv_at hl 0 rfl) ?_
        refine lv_aload_n hx hb d_Model_test_28 rfl (lv_at hl 2 rfl) ?_
        refine pl_get X fw_Model_23 hK hP 0 rfl (v := .ref o4) rfl d_Model_test_29 ?_
        refine lv_bipush (v := nI 8) hx hb d_Model_test_32 (by decide) ?_
        refine lv_iload hx hb d_Model_test_34 (lv_at hl 1 rfl) ?_
        refine pl_imul X d_Model_test_36 (z := nI (s0 * 8)) (pk_mulC _ _) ?_
        refine lv_iload_n hx hb d_Model_test_37 rfl (lv_at hl 3 rfl) ?_
        refine pl_iadd X d_Model_test_38 (z := nI (s0 * 8 + t)) (nI_add _ _) ?_
        refine pl_zald X hK hP 1 1 rfl rfl (s0 * 8 + t) (by omega) (by decide) (z := bI (decide (¬ th (s0 * 8 + t) = -1))) (hru _ (by omega)).1 d_Model_test_39 ?_
        refine pl_ifB_eq X d_Model_test_40 rfl (fun g40 => ?_) (fun g40 => ?_)
        · skip
          exact absurd g40 (by rw [g18]; decide)
        · skip
          refine lv_iconst (v := nI 1) hx hb d_Model_test_43 (by decide) ?_
          refine lv_goto hx hb d_Model_test_44 rfl ?_
          refine pl_isub X d_Model_test_48 (z := nI (k0 - cntR th t (s0 + 1))) (by rw [cntR_yes g40, pk_sub (by omega)]; rfl) ?_
          refine lv_istore hx hb d_Model_test_49 hl (by decide) (lv' := [(6, .int (nI (k0 - cntR th t (s0 + 1)))), (5, .int (nI s0)), (0, .ref m0), (1, .int (nI t)), (2, .int (nI k0)), (3, .int (nI 4)), (4, .int (nI z))]) rfl (fun ls hl => ?_)
          refine lv_iinc hx hb d_Model_test_51 hl (k := 1) rfl (nI_inc1 _) (by decide) (lv' := [(5, .int (nI (s0 + 1))), (6, .int (nI (k0 - cntR th t (s0 + 1)))), (0, .ref m0), (1, .int (nI t)), (2, .int (nI k0)), (3, .int (nI 4)), (4, .int (nI z))]) rfl (fun ls hl => ?_)
          refine lv_goto hx hb d_Model_test_54 rfl ?_
          exact ih _ (by omega) (s0 + 1) _ _ _ rfl (by omega) (by rw [cntR_yes g40]; omega) hP hD hS (lv_sub hl [1, 0, 2, 3, 4, 5, 6] rfl)
  exact loop_6 _ 0 _ _ _ rfl (Nat.zero_le _) (Nat.zero_le _) hP hD hS hl

set_option maxHeartbeats 4000000 in
set_option maxRecDepth 100000 in
theorem c_Model_test_5 (l : Launch) (D : va_G) (cI cZ cL : ClassId) (m0 o1 o2 o3 o4 o5 o6 o7 o8 o9 o10 o11 : Nat) (P K Hm ru lo hi tm sa ca ta tn : Nat → Int32) (fo1 fk1 : Int32) (co np n stat how pl la stt q dn : Nat) (th : Nat → Int32) (t k0 z : Nat) (hn : n ≤ 4) (ht : t < 8) (hk0 : k0 < cntR th t n) (hz : z ≤ 1600) (hru : rulR ru tm th) : pl_V l y_Model_test b_Model_test 9 ({ frames := 1, cells := 0, slots := 0, locals := 23 } : Room) pl_E0 D classes (TY cI cZ cL) [.ref m0, .int (nI t), .int (nI k0), .int (nI 5), .int (nI z)] [(m0, .inr (6, [.int (nI co), .int (nI np), .ref o1, .ref o2, .ref o3, .int (nI n), .ref o4, .ref o5, .ref o6, .ref o7, .int fo1, .int fk1, .int (nI stat), .int (nI how), .int (nI pl), .int (nI la), .int (nI stt), .int (nI q), .ref o8, .ref o9, .int (nI dn), .ref o10, .ref o11])), (o4, .inl (cZ, 32, .inl ru)), (o5, .inl (cI, 32, .inl lo)), (o6, .inl (cI, 32, .inl hi)), (o7, .inl (cI, 32, .inl tm))] (fun u : Nat => u < n ∧ ¬ th (u * 8 + t) = -1 ∧ cntR th t u = k0) (fun (u : Nat) => [(m0, .inr (6, [.int (nI co), .int (nI np), .ref o1, .ref o2, .ref o3, .int (nI n), .ref o4, .ref o5, .ref o6, .ref o7, .int (nI 0), .int (lo (u * 8 + t)), .int (nI stat), .int (nI how), .int (nI pl), .int (nI la), .int (nI stt), .int (nI q), .ref o8, .ref o9, .int (nI dn), .ref o10, .ref o11])), (o4, .inl (cZ, 32, .inl ru)), (o5, .inl (cI, 32, .inl lo)), (o6, .inl (cI, 32, .inl hi)), (o7, .inl (cI, 32, .inl tm))]) := by
  refine pl_startV (by decide) (Nat.le_of_ble_eq_true rfl) ?_
  intro p e s m args below meth c A ls X hr hlk hin hK hP hD hS hA hE hl
  have X : CallFix p m c b_Model_test 9 s args TG R_Model := X
  have hx := X.1
  have hb := X.2.1
  have hl : lv_has ls 9 [(0, .ref m0), (1, .int (nI t)), (2, .int (nI k0)), (3, .int (nI 5)), (4, .int (nI z))] := hl
  have hcn := cntR_le th t n
  refine lv_iconst (v := nI 0) hx hb d_Model_test_0 (by decide) ?_
  refine lv_istore hx hb d_Model_test_1 hl (by decide) (lv' := [(5, .int (nI 0)), (0, .ref m0), (1, .int (nI t)), (2, .int (nI k0)), (3, .int (nI 5)), (4, .int (nI z))]) rfl (fun ls hl => ?_)
  refine lv_iload_n hx hb d_Model_test_3 rfl (lv_at hl 3 rfl) ?_
  refine lv_istore hx hb d_Model_test_4 hl (by decide) (lv' := [(6, .int (nI k0)), (5, .int (nI 0)), (0, .ref m0), (1, .int (nI t)), (2, .int (nI k0)), (3, .int (nI 5)), (4, .int (nI z))]) rfl (fun ls hl => ?_)
  have loop_6 : ∀ (k : Nat) (s0 : Nat) (H : Heap) (locs : List Loc) (ls : Array Slot), n - s0 = k → (s0 ≤ n) → (cntR th t s0 ≤ k0) → va_P D classes [(m0, .inr (6, [.int (nI co), .int (nI np), .ref o1, .ref o2, .ref o3, .int (nI n), .ref o4, .ref o5, .ref o6, .ref o7, .int fo1, .int fk1, .int (nI stat), .int (nI how), .int (nI pl), .int (nI la), .int (nI stt), .int (nI q), .ref o8, .ref o9, .int (nI dn), .ref o10, .ref o11])), (o4, .inl (cZ, 32, .inl ru)), (o5, .inl (cI, 32, .inl lo)), (o6, .inl (cI, 32, .inl hi)), (o7, .inl (cI, 32, .inl tm))] H → va_D A [(m0, .inr (6, [.int (nI co), .int (nI np), .ref o1, .ref o2, .ref o3, .int (nI n), .ref o4, .ref o5, .ref o6, .ref o7, .int fo1, .int fk1, .int (nI stat), .int (nI how), .int (nI pl), .int (nI la), .int (nI stt), .int (nI q), .ref o8, .ref o9, .int (nI dn), .ref o10, .ref o11])), (o4, .inl (cZ, 32, .inl ru)), (o5, .inl (cI, 32, .inl lo)), (o6, .inl (cI, 32, .inl hi)), (o7, .inl (cI, 32, .inl tm))] → va_S A s.heap H locs → lv_has ls 9 [(6, .int (nI (k0 - cntR th t s0))), (5, .int (nI s0)), (0, .ref m0), (1, .int (nI t)), (2, .int (nI k0)), (3, .int (nI 5)), (4, .int (nI z))] → W p l e ({ frames := 1, cells := 0, slots := 0, locals := 23 } : Room) s m args below meth c H locs 0 0 (MQ below (va_Qv (fun u : Nat => u < n ∧ ¬ th (u * 8 + t) = -1 ∧ cntR th t u = k0) (fun u => pl_out D classes (TY cI cZ cL) A ((fun (u : Nat) => [(m0, .inr (6, [.int (nI co), .int (nI np), .ref o1, .ref o2, .ref o3, .int (nI n), .ref o4, .ref o5, .ref o6, .ref o7, .int (nI 0), .int (lo (u * 8 + t)), .int (nI stat), .int (nI how), .int (nI pl), .int (nI la), .int (nI stt), .int (nI q), .ref o8, .ref o9, .int (nI dn), .ref o10, .ref o11])), (o4, .inl (cZ, 32, .inl ru)), (o5, .inl (cI, 32, .inl lo)), (o6, .inl (cI, 32, .inl hi)), (o7, .inl (cI, 32, .inl tm))]) u)) A) args s 0 0 A) (F0 m 6 ls []) := by
    intro k
    induction k using Nat.strongRecOn with
    | _ k ih =>
    intro s0 H locs ls hk hs0 hc0 hP hD hS hl
    have hsn : s0 < n := by rcases Nat.lt_or_eq_of_le hs0 with q | q; exact q; (rw [q] at hc0; omega)
    refine lv_aload_n hx hb d_Model_test_6 rfl (lv_at hl 2 rfl) ?_
    refine pl_get X fw_Model_23 hK hP 0 rfl (v := .ref o4) rfl d_Model_test_7 ?_
    refine lv_bipush (v := nI 8) hx hb d_Model_test_10 (by decide) ?_
    refine lv_iload hx hb d_Model_test_12 (lv_at hl 1 rfl) ?_
    refine pl_imul X d_Model_test_14 (z := nI (s0 * 8)) (pk_mulC _ _) ?_
    refine lv_iload_n hx hb d_Model_test_15 rfl (lv_at hl 3 rfl) ?_
    refine pl_iadd X d_Model_test_16 (z := nI (s0 * 8 + t)) (nI_add _ _) ?_
    refine pl_zald X hK hP 1 1 rfl rfl (s0 * 8 + t) (by omega) (by decide) (z := bI (decide (¬ th (s0 * 8 + t) = -1))) (hru _ (by omega)).1 d_Model_test_17 ?_
    refine pl_ifB_eq X d_Model_test_18 rfl (fun g18 => ?_) (fun g18 => ?_)
    · skip
      refine lv_iload hx hb d_Model_test_26 (lv_at hl 0 rfl) ?_
      refine lv_aload_n hx hb d_Model_test_28 rfl (lv_at hl 2 rfl) ?_
      refine pl_get X fw_Model_23 hK hP 0 rfl (v := .ref o4) rfl d_Model_test_29 ?_
      refine lv_bipush (v := nI 8) hx hb d_Model_test_32 (by decide) ?_
      refine lv_iload hx hb d_Model_test_34 (lv_at hl 1 rfl) ?_
      refine pl_imul X d_Model_test_36 (z := nI (s0 * 8)) (pk_mulC _ _) ?_
      refine lv_iload_n hx hb d_Model_test_37 rfl (lv_at hl 3 rfl) ?_
      refine pl_iadd X d_Model_test_38 (z := nI (s0 * 8 + t)) (nI_add _ _) ?_
      refine pl_zald X hK hP 1 1 rfl rfl (s0 * 8 + t) (by omega) (by decide) (z := bI (decide (¬ th (s0 * 8 + t) = -1))) (hru _ (by omega)).1 d_Model_test_39 ?_
      refine pl_ifB_eq X d_Model_test_40 rfl (fun g40 => ?_) (fun g40 => ?_)
      · skip
        refine lv_iconst (v := nI 0) hx hb d_Model_test_47 (by decide) ?_
        refine pl_isub X d_Model_test_48 (z := nI (k0 - cntR th t (s0 + 1))) (by rw [cntR_no g40, pk_sub (by omega)]; rfl) ?_
        refine lv_istore hx hb d_Model_test_49 hl (by decide) (lv' := [(6, .int (nI (k0 - cntR th t (s0 + 1)))), (5, .int (nI s0)), (0, .ref m0), (1, .int (nI t)), (2, .int (nI k0)), (3, .int (nI 5)), (4, .int (nI z))]) rfl (fun ls hl => ?_)
        refine lv_iinc hx hb d_Model_test_51 hl (k := 1) rfl (nI_inc1 _) (by decide) (lv' := [(5, .int (nI (s0 + 1))), (6, .int (nI (k0 - cntR th t (s0 + 1)))), (0, .ref m0), (1, .int (nI t)), (2, .int (nI k0)), (3, .int (nI 5)), (4, .int (nI z))]) rfl (fun ls hl => ?_)
        refine lv_goto hx hb d_Model_test_54 rfl ?_
        exact ih _ (by omega) (s0 + 1) _ _ _ rfl (by omega) (by rw [cntR_no g40]; exact hc0) hP hD hS (lv_sub hl [1, 0, 2, 3, 4, 5, 6] rfl)
      · skip
        exact absurd g40 (by rw [g18]; decide)
    · skip
      refine lv_iload hx hb d_Model_test_21 (lv_at hl 0 rfl) ?_
      refine pl_if_le X (by omega) d_Model_test_23 rfl (fun g23 => ?_) (fun g23 => ?_)
      · skip
        refine lv_bipush (v := nI 8) hx hb d_Model_test_57 (by decide) ?_
        refine lv_iload hx hb d_Model_test_59 (lv_at hl 1 rfl) ?_
        refine pl_imul X d_Model_test_61 (z := nI (s0 * 8)) (pk_mulC _ _) ?_
        refine lv_iload_n hx hb d_Model_test_62 rfl (lv_at hl 3 rfl) ?_
        refine pl_iadd X d_Model_test_63 (z := nI (s0 * 8 + t)) (nI_add _ _) ?_
        refine lv_istore hx hb d_Model_test_64 hl (by decide) (lv' := [(7, .int (nI (s0 * 8 + t))), (6, .int (nI (k0 - cntR th t s0))), (5, .int (nI s0)), (0, .ref m0), (1, .int (nI t)), (2, .int (nI k0)), (3, .int (nI 5)), (4, .int (nI z))]) rfl (fun ls hl => ?_)
        refine lv_iload hx hb d_Model_test_66 (lv_at hl 7 rfl) ?_
        refine lv_bipush (v := nI 16) hx hb d_Model_test_68 (by decide) ?_
        refine lv_aload_n hx hb d_Model_test_70 rfl (lv_at hl 3 rfl) ?_
        refine lv_iload_n hx hb d_Model_test_71 rfl (lv_at hl 4 rfl) ?_
        refine pl_callVI X (rest := [.int (nI 16), .int (nI z)]) (As := [.int (nI t)]) (b := m0) (c_Model_testsOf l D cI cZ cL m0 o1 o2 o3 o4 o5 o6 o7 o8 o9 o10 o11 P K Hm ru lo hi tm sa ca ta tn fo1 fk1 co np n stat how pl la stt q dn th t hn ht hru) ck_Model_85 pl_E0_ok trivial hK hP hD hS hA (T := F_Model) (N := N_Model) (ci := 6) rfl 0 rfl [0, 1] [2, 3, 4] [3, 4, 0, 1, 2] rfl (by decide) (wr := [(o5, .inl (cI, 32, .inl lo)), (o6, .inl (cI, 32, .inl hi)), (o7, .inl (cI, 32, .inl tm))]) rfl (by decide) (by decide) (wf := fun _ => [(m0, .inr (6, [.int (nI co), .int (nI np), .ref o1, .ref o2, .ref o3, .int (nI n), .ref o4, .ref o5, .ref o6, .ref o7, .int fo1, .int fk1, .int (nI stat), .int (nI how), .int (nI pl), .int (nI la), .int (nI stt), .int (nI q), .ref o8, .ref o9, .int (nI dn), .ref o10, .ref o11])), (o4, .inl (cZ, 32, .inl ru)), (o5, .inl (cI, 32, .inl lo)), (o6, .inl (cI, 32, .inl hi)), (o7, .inl (cI, 32, .inl tm))]) (fun _ => rfl) (by decide) rfl hl.1 rfl (Nat.le_of_ble_eq_true rfl) (by decide) (by decide) d_Model_test_72 (fun r u0 H locs hcq hP hD hS => ?_)
        subst hcq
        refine pl_imul X d_Model_test_75 (z := nI ((cntR th t n) * 16)) (pk_mulC _ _) ?_
        refine pl_iadd X d_Model_test_76 (z := nI (z + (cntR th t n) * 16)) (nI_add _ _) ?_
        refine lv_istore hx hb d_Model_test_77 hl (by decide) (lv' := [(8, .int (nI (z + (cntR th t n) * 16))), (7, .int (nI (s0 * 8 + t))), (6, .int (nI (k0 - cntR th t s0))), (5, .int (nI s0)), (0, .ref m0), (1, .int (nI t)), (2, .int (nI k0)), (3, .int (nI 5)), (4, .int (nI z))]) rfl (fun ls hl => ?_)
        refine lv_iload_n hx hb d_Model_test_79 rfl (lv_at hl 7 rfl) ?_
        refine lv_tableIn hx hb d_Model_test_80 (by decide) (by decide) (off := 133) (by decide) (tgt := 213) rfl ?_
        refine lv_aload_n hx hb d_Model_test_213 rfl (lv_at hl 4 rfl) ?_
        refine lv_iconst (v := nI 0) hx hb d_Model_test_214 (by decide) ?_
        refine lv_aload_n hx hb d_Model_test_215 rfl (lv_at hl 4 rfl) ?_
        refine pl_get X fw_Model_27 hK hP 0 rfl (v := .ref o5) rfl d_Model_test_216 ?_
        refine lv_iload hx hb d_Model_test_219 (lv_at hl 1 rfl) ?_
        refine pl_iald X hK hP 2 0 rfl rfl (s0 * 8 + t) (by omega) (by decide) (z := lo (s0 * 8 + t)) rfl d_Model_test_221 ?_
        refine pl_callVV X (rest := []) (As := [.int (nI 0), .int (lo (s0 * 8 + t))]) (b := m0) (c_Model_set l D cI cZ cL m0 o1 o2 o3 o4 o5 o6 o7 o8 o9 o10 o11 P K Hm ru lo hi tm sa ca ta tn fo1 fk1 co np n stat how pl la stt q dn (nI 0) (lo (s0 * 8 + t))) ck_Model_100 pl_E0_ok trivial hK hP hD hS hA (T := F_Model) (N := N_Model) (ci := 6) rfl 0 rfl [0] [1, 2, 3, 4] [4, 0, 1, 2, 3] rfl (by decide) (wr := [(o4, .inl (cZ, 32, .inl ru)), (o5, .inl (cI, 32, .inl lo)), (o6, .inl (cI, 32, .inl hi)), (o7, .inl (cI, 32, .inl tm))]) rfl (by decide) (by decide) (wf := fun _ => [(m0, .inr (6, [.int (nI co), .int (nI np), .ref o1, .ref o2, .ref o3, .int (nI n), .ref o4, .ref o5, .ref o6, .ref o7, .int (nI 0), .int (lo (s0 * 8 + t)), .int (nI stat), .int (nI how), .int (nI pl), .int (nI la), .int (nI stt), .int (nI q), .ref o8, .ref o9, .int (nI dn), .ref o10, .ref o11])), (o4, .inl (cZ, 32, .inl ru)), (o5, .inl (cI, 32, .inl lo)), (o6, .inl (cI, 32, .inl hi)), (o7, .inl (cI, 32, .inl tm))]) (fun _ => rfl) (by decide) rfl hl.1 rfl (Nat.le_of_ble_eq_true rfl) (by decide) (by decide) d_Model_test_222 (fun u0 H locs hcq hP hD hS => ?_)
        refine lv_goto hx hb d_Model_test_225 rfl ?_
        exact pl_vret X hr hlk hK s0 ⟨hsn, rn_yes g18, by omega⟩ hP hD hS d_Model_test_309
      · skip
        refine lv_iload hx hb d_Model_test_26 (lv_at hl 0 rfl) ?_
        refine lv_aload_n hx hb d_Model_test_28 rfl (lv_at hl 2 rfl) ?_
        refine pl_get X fw_Model_23 hK hP 0 rfl (v := .ref o4) rfl d_Model_test_29 ?_
        refine lv_bipush (v := nI 8) hx hb d_Model_test_32 (by decide) ?_
        refine lv_iload hx hb d_Model_test_34 (lv_at hl 1 rfl) ?_
        refine pl_imul X d_Model_test_36 (z := nI (s0 * 8)) (pk_mulC _ _) ?_
        refine lv_iload_n hx hb d_Model_test_37 rfl (lv_at hl 3 rfl) ?_
        refine pl_iadd X d_Model_test_38 (z := nI (s0 * 8 + t)) (nI_add _ _) ?_
        refine pl_zald X hK hP 1 1 rfl rfl (s0 * 8 + t) (by omega) (by decide) (z := bI (decide (¬ th (s0 * 8 + t) = -1))) (hru _ (by omega)).1 d_Model_test_39 ?_
        refine pl_ifB_eq X d_Model_test_40 rfl (fun g40 => ?_) (fun g40 => ?_)
        · skip
          exact absurd g40 (by rw [g18]; decide)
        · skip
          refine lv_iconst (v := nI 1) hx hb d_Model_test_43 (by decide) ?_
          refine lv_goto hx hb d_Model_test_44 rfl ?_
          refine pl_isub X d_Model_test_48 (z := nI (k0 - cntR th t (s0 + 1))) (by rw [cntR_yes g40, pk_sub (by omega)]; rfl) ?_
          refine lv_istore hx hb d_Model_test_49 hl (by decide) (lv' := [(6, .int (nI (k0 - cntR th t (s0 + 1)))), (5, .int (nI s0)), (0, .ref m0), (1, .int (nI t)), (2, .int (nI k0)), (3, .int (nI 5)), (4, .int (nI z))]) rfl (fun ls hl => ?_)
          refine lv_iinc hx hb d_Model_test_51 hl (k := 1) rfl (nI_inc1 _) (by decide) (lv' := [(5, .int (nI (s0 + 1))), (6, .int (nI (k0 - cntR th t (s0 + 1)))), (0, .ref m0), (1, .int (nI t)), (2, .int (nI k0)), (3, .int (nI 5)), (4, .int (nI z))]) rfl (fun ls hl => ?_)
          refine lv_goto hx hb d_Model_test_54 rfl ?_
          exact ih _ (by omega) (s0 + 1) _ _ _ rfl (by omega) (by rw [cntR_yes g40]; omega) hP hD hS (lv_sub hl [1, 0, 2, 3, 4, 5, 6] rfl)
  exact loop_6 _ 0 _ _ _ rfl (Nat.zero_le _) (Nat.zero_le _) hP hD hS hl

set_option maxHeartbeats 4000000 in
set_option maxRecDepth 100000 in
theorem c_Model_test_6 (l : Launch) (D : va_G) (cI cZ cL : ClassId) (m0 o1 o2 o3 o4 o5 o6 o7 o8 o9 o10 o11 : Nat) (P K Hm ru lo hi tm sa ca ta tn : Nat → Int32) (fo1 fk1 : Int32) (co np n stat how pl la stt q dn : Nat) (th : Nat → Int32) (t k0 z : Nat) (hn : n ≤ 4) (ht : t < 8) (hk0 : k0 < cntR th t n) (hz : z ≤ 1600) (hru : rulR ru tm th) : pl_V l y_Model_test b_Model_test 9 ({ frames := 1, cells := 0, slots := 0, locals := 23 } : Room) pl_E0 D classes (TY cI cZ cL) [.ref m0, .int (nI t), .int (nI k0), .int (nI 6), .int (nI z)] [(m0, .inr (6, [.int (nI co), .int (nI np), .ref o1, .ref o2, .ref o3, .int (nI n), .ref o4, .ref o5, .ref o6, .ref o7, .int fo1, .int fk1, .int (nI stat), .int (nI how), .int (nI pl), .int (nI la), .int (nI stt), .int (nI q), .ref o8, .ref o9, .int (nI dn), .ref o10, .ref o11])), (o4, .inl (cZ, 32, .inl ru)), (o5, .inl (cI, 32, .inl lo)), (o6, .inl (cI, 32, .inl hi)), (o7, .inl (cI, 32, .inl tm))] (fun u : Nat => u < n ∧ ¬ th (u * 8 + t) = -1 ∧ cntR th t u = k0) (fun (u : Nat) => [(m0, .inr (6, [.int (nI co), .int (nI np), .ref o1, .ref o2, .ref o3, .int (nI n), .ref o4, .ref o5, .ref o6, .ref o7, .int (nI 4), .int (nI 0), .int (nI stat), .int (nI how), .int (nI pl), .int (nI la), .int (nI stt), .int (nI q), .ref o8, .ref o9, .int (nI dn), .ref o10, .ref o11])), (o4, .inl (cZ, 32, .inl ru)), (o5, .inl (cI, 32, .inl lo)), (o6, .inl (cI, 32, .inl hi)), (o7, .inl (cI, 32, .inl tm))]) := by
  refine pl_startV (by decide) (Nat.le_of_ble_eq_true rfl) ?_
  intro p e s m args below meth c A ls X hr hlk hin hK hP hD hS hA hE hl
  have X : CallFix p m c b_Model_test 9 s args TG R_Model := X
  have hx := X.1
  have hb := X.2.1
  have hl : lv_has ls 9 [(0, .ref m0), (1, .int (nI t)), (2, .int (nI k0)), (3, .int (nI 6)), (4, .int (nI z))] := hl
  have hcn := cntR_le th t n
  refine lv_iconst (v := nI 0) hx hb d_Model_test_0 (by decide) ?_
  refine lv_istore hx hb d_Model_test_1 hl (by decide) (lv' := [(5, .int (nI 0)), (0, .ref m0), (1, .int (nI t)), (2, .int (nI k0)), (3, .int (nI 6)), (4, .int (nI z))]) rfl (fun ls hl => ?_)
  refine lv_iload_n hx hb d_Model_test_3 rfl (lv_at hl 3 rfl) ?_
  refine lv_istore hx hb d_Model_test_4 hl (by decide) (lv' := [(6, .int (nI k0)), (5, .int (nI 0)), (0, .ref m0), (1, .int (nI t)), (2, .int (nI k0)), (3, .int (nI 6)), (4, .int (nI z))]) rfl (fun ls hl => ?_)
  have loop_6 : ∀ (k : Nat) (s0 : Nat) (H : Heap) (locs : List Loc) (ls : Array Slot), n - s0 = k → (s0 ≤ n) → (cntR th t s0 ≤ k0) → va_P D classes [(m0, .inr (6, [.int (nI co), .int (nI np), .ref o1, .ref o2, .ref o3, .int (nI n), .ref o4, .ref o5, .ref o6, .ref o7, .int fo1, .int fk1, .int (nI stat), .int (nI how), .int (nI pl), .int (nI la), .int (nI stt), .int (nI q), .ref o8, .ref o9, .int (nI dn), .ref o10, .ref o11])), (o4, .inl (cZ, 32, .inl ru)), (o5, .inl (cI, 32, .inl lo)), (o6, .inl (cI, 32, .inl hi)), (o7, .inl (cI, 32, .inl tm))] H → va_D A [(m0, .inr (6, [.int (nI co), .int (nI np), .ref o1, .ref o2, .ref o3, .int (nI n), .ref o4, .ref o5, .ref o6, .ref o7, .int fo1, .int fk1, .int (nI stat), .int (nI how), .int (nI pl), .int (nI la), .int (nI stt), .int (nI q), .ref o8, .ref o9, .int (nI dn), .ref o10, .ref o11])), (o4, .inl (cZ, 32, .inl ru)), (o5, .inl (cI, 32, .inl lo)), (o6, .inl (cI, 32, .inl hi)), (o7, .inl (cI, 32, .inl tm))] → va_S A s.heap H locs → lv_has ls 9 [(6, .int (nI (k0 - cntR th t s0))), (5, .int (nI s0)), (0, .ref m0), (1, .int (nI t)), (2, .int (nI k0)), (3, .int (nI 6)), (4, .int (nI z))] → W p l e ({ frames := 1, cells := 0, slots := 0, locals := 23 } : Room) s m args below meth c H locs 0 0 (MQ below (va_Qv (fun u : Nat => u < n ∧ ¬ th (u * 8 + t) = -1 ∧ cntR th t u = k0) (fun u => pl_out D classes (TY cI cZ cL) A ((fun (u : Nat) => [(m0, .inr (6, [.int (nI co), .int (nI np), .ref o1, .ref o2, .ref o3, .int (nI n), .ref o4, .ref o5, .ref o6, .ref o7, .int (nI 4), .int (nI 0), .int (nI stat), .int (nI how), .int (nI pl), .int (nI la), .int (nI stt), .int (nI q), .ref o8, .ref o9, .int (nI dn), .ref o10, .ref o11])), (o4, .inl (cZ, 32, .inl ru)), (o5, .inl (cI, 32, .inl lo)), (o6, .inl (cI, 32, .inl hi)), (o7, .inl (cI, 32, .inl tm))]) u)) A) args s 0 0 A) (F0 m 6 ls []) := by
    intro k
    induction k using Nat.strongRecOn with
    | _ k ih =>
    intro s0 H locs ls hk hs0 hc0 hP hD hS hl
    have hsn : s0 < n := by rcases Nat.lt_or_eq_of_le hs0 with q | q; exact q; (rw [q] at hc0; omega)
    refine lv_aload_n hx hb d_Model_test_6 rfl (lv_at hl 2 rfl) ?_
    refine pl_get X fw_Model_23 hK hP 0 rfl (v := .ref o4) rfl d_Model_test_7 ?_
    refine lv_bipush (v := nI 8) hx hb d_Model_test_10 (by decide) ?_
    refine lv_iload hx hb d_Model_test_12 (lv_at hl 1 rfl) ?_
    refine pl_imul X d_Model_test_14 (z := nI (s0 * 8)) (pk_mulC _ _) ?_
    refine lv_iload_n hx hb d_Model_test_15 rfl (lv_at hl 3 rfl) ?_
    refine pl_iadd X d_Model_test_16 (z := nI (s0 * 8 + t)) (nI_add _ _) ?_
    refine pl_zald X hK hP 1 1 rfl rfl (s0 * 8 + t) (by omega) (by decide) (z := bI (decide (¬ th (s0 * 8 + t) = -1))) (hru _ (by omega)).1 d_Model_test_17 ?_
    refine pl_ifB_eq X d_Model_test_18 rfl (fun g18 => ?_) (fun g18 => ?_)
    · skip
      refine lv_iload hx hb d_Model_test_26 (lv_at hl 0 rfl) ?_
      refine lv_aload_n hx hb d_Model_test_28 rfl (lv_at hl 2 rfl) ?_
      refine pl_get X fw_Model_23 hK hP 0 rfl (v := .ref o4) rfl d_Model_test_29 ?_
      refine lv_bipush (v := nI 8) hx hb d_Model_test_32 (by decide) ?_
      refine lv_iload hx hb d_Model_test_34 (lv_at hl 1 rfl) ?_
      refine pl_imul X d_Model_test_36 (z := nI (s0 * 8)) (pk_mulC _ _) ?_
      refine lv_iload_n hx hb d_Model_test_37 rfl (lv_at hl 3 rfl) ?_
      refine pl_iadd X d_Model_test_38 (z := nI (s0 * 8 + t)) (nI_add _ _) ?_
      refine pl_zald X hK hP 1 1 rfl rfl (s0 * 8 + t) (by omega) (by decide) (z := bI (decide (¬ th (s0 * 8 + t) = -1))) (hru _ (by omega)).1 d_Model_test_39 ?_
      refine pl_ifB_eq X d_Model_test_40 rfl (fun g40 => ?_) (fun g40 => ?_)
      · skip
        refine lv_iconst (v := nI 0) hx hb d_Model_test_47 (by decide) ?_
        refine pl_isub X d_Model_test_48 (z := nI (k0 - cntR th t (s0 + 1))) (by rw [cntR_no g40, pk_sub (by omega)]; rfl) ?_
        refine lv_istore hx hb d_Model_test_49 hl (by decide) (lv' := [(6, .int (nI (k0 - cntR th t (s0 + 1)))), (5, .int (nI s0)), (0, .ref m0), (1, .int (nI t)), (2, .int (nI k0)), (3, .int (nI 6)), (4, .int (nI z))]) rfl (fun ls hl => ?_)
        refine lv_iinc hx hb d_Model_test_51 hl (k := 1) rfl (nI_inc1 _) (by decide) (lv' := [(5, .int (nI (s0 + 1))), (6, .int (nI (k0 - cntR th t (s0 + 1)))), (0, .ref m0), (1, .int (nI t)), (2, .int (nI k0)), (3, .int (nI 6)), (4, .int (nI z))]) rfl (fun ls hl => ?_)
        refine lv_goto hx hb d_Model_test_54 rfl ?_
        exact ih _ (by omega) (s0 + 1) _ _ _ rfl (by omega) (by rw [cntR_no g40]; exact hc0) hP hD hS (lv_sub hl [1, 0, 2, 3, 4, 5, 6] rfl)
      · skip
        exact absurd g40 (by rw [g18]; decide)
    · skip
      refine lv_iload hx hb d_Model_test_21 (lv_at hl 0 rfl) ?_
      refine pl_if_le X (by omega) d_Model_test_23 rfl (fun g23 => ?_) (fun g23 => ?_)
      · skip
        refine lv_bipush (v := nI 8) hx hb d_Model_test_57 (by decide) ?_
        refine lv_iload hx hb d_Model_test_59 (lv_at hl 1 rfl) ?_
        refine pl_imul X d_Model_test_61 (z := nI (s0 * 8)) (pk_mulC _ _) ?_
        refine lv_iload_n hx hb d_Model_test_62 rfl (lv_at hl 3 rfl) ?_
        refine pl_iadd X d_Model_test_63 (z := nI (s0 * 8 + t)) (nI_add _ _) ?_
        refine lv_istore hx hb d_Model_test_64 hl (by decide) (lv' := [(7, .int (nI (s0 * 8 + t))), (6, .int (nI (k0 - cntR th t s0))), (5, .int (nI s0)), (0, .ref m0), (1, .int (nI t)), (2, .int (nI k0)), (3, .int (nI 6)), (4, .int (nI z))]) rfl (fun ls hl => ?_)
        refine lv_iload hx hb d_Model_test_66 (lv_at hl 7 rfl) ?_
        refine lv_bipush (v := nI 16) hx hb d_Model_test_68 (by decide) ?_
        refine lv_aload_n hx hb d_Model_test_70 rfl (lv_at hl 3 rfl) ?_
        refine lv_iload_n hx hb d_Model_test_71 rfl (lv_at hl 4 rfl) ?_
        refine pl_callVI X (rest := [.int (nI 16), .int (nI z)]) (As := [.int (nI t)]) (b := m0) (c_Model_testsOf l D cI cZ cL m0 o1 o2 o3 o4 o5 o6 o7 o8 o9 o10 o11 P K Hm ru lo hi tm sa ca ta tn fo1 fk1 co np n stat how pl la stt q dn th t hn ht hru) ck_Model_85 pl_E0_ok trivial hK hP hD hS hA (T := F_Model) (N := N_Model) (ci := 6) rfl 0 rfl [0, 1] [2, 3, 4] [3, 4, 0, 1, 2] rfl (by decide) (wr := [(o5, .inl (cI, 32, .inl lo)), (o6, .inl (cI, 32, .inl hi)), (o7, .inl (cI, 32, .inl tm))]) rfl (by decide) (by decide) (wf := fun _ => [(m0, .inr (6, [.int (nI co), .int (nI np), .ref o1, .ref o2, .ref o3, .int (nI n), .ref o4, .ref o5, .ref o6, .ref o7, .int fo1, .int fk1, .int (nI stat), .int (nI how), .int (nI pl), .int (nI la), .int (nI stt), .int (nI q), .ref o8, .ref o9, .int (nI dn), .ref o10, .ref o11])), (o4, .inl (cZ, 32, .inl ru)), (o5, .inl (cI, 32, .inl lo)), (o6, .inl (cI, 32, .inl hi)), (o7, .inl (cI, 32, .inl tm))]) (fun _ => rfl) (by decide) rfl hl.1 rfl (Nat.le_of_ble_eq_true rfl) (by decide) (by decide) d_Model_test_72 (fun r u0 H locs hcq hP hD hS => ?_)
        subst hcq
        refine pl_imul X d_Model_test_75 (z := nI ((cntR th t n) * 16)) (pk_mulC _ _) ?_
        refine pl_iadd X d_Model_test_76 (z := nI (z + (cntR th t n) * 16)) (nI_add _ _) ?_
        refine lv_istore hx hb d_Model_test_77 hl (by decide) (lv' := [(8, .int (nI (z + (cntR th t n) * 16))), (7, .int (nI (s0 * 8 + t))), (6, .int (nI (k0 - cntR th t s0))), (5, .int (nI s0)), (0, .ref m0), (1, .int (nI t)), (2, .int (nI k0)), (3, .int (nI 6)), (4, .int (nI z))]) rfl (fun ls hl => ?_)
        refine lv_iload_n hx hb d_Model_test_79 rfl (lv_at hl 7 rfl) ?_
        refine lv_tableIn hx hb d_Model_test_80 (by decide) (by decide) (off := 148) (by decide) (tgt := 228) rfl ?_
        refine lv_aload_n hx hb d_Model_test_228 rfl (lv_at hl 4 rfl) ?_
        refine lv_iconst (v := nI 4) hx hb d_Model_test_229 (by decide) ?_
        refine lv_iconst (v := nI 0) hx hb d_Model_test_230 (by decide) ?_
        refine pl_callVV X (rest := []) (As := [.int (nI 4), .int (nI 0)]) (b := m0) (c_Model_set l D cI cZ cL m0 o1 o2 o3 o4 o5 o6 o7 o8 o9 o10 o11 P K Hm ru lo hi tm sa ca ta tn fo1 fk1 co np n stat how pl la stt q dn (nI 4) (nI 0)) ck_Model_100 pl_E0_ok trivial hK hP hD hS hA (T := F_Model) (N := N_Model) (ci := 6) rfl 0 rfl [0] [1, 2, 3, 4] [4, 0, 1, 2, 3] rfl (by decide) (wr := [(o4, .inl (cZ, 32, .inl ru)), (o5, .inl (cI, 32, .inl lo)), (o6, .inl (cI, 32, .inl hi)), (o7, .inl (cI, 32, .inl tm))]) rfl (by decide) (by decide) (wf := fun _ => [(m0, .inr (6, [.int (nI co), .int (nI np), .ref o1, .ref o2, .ref o3, .int (nI n), .ref o4, .ref o5, .ref o6, .ref o7, .int (nI 4), .int (nI 0), .int (nI stat), .int (nI how), .int (nI pl), .int (nI la), .int (nI stt), .int (nI q), .ref o8, .ref o9, .int (nI dn), .ref o10, .ref o11])), (o4, .inl (cZ, 32, .inl ru)), (o5, .inl (cI, 32, .inl lo)), (o6, .inl (cI, 32, .inl hi)), (o7, .inl (cI, 32, .inl tm))]) (fun _ => rfl) (by decide) rfl hl.1 rfl (Nat.le_of_ble_eq_true rfl) (by decide) (by decide) d_Model_test_231 (fun u0 H locs hcq hP hD hS => ?_)
        refine lv_goto hx hb d_Model_test_234 rfl ?_
        exact pl_vret X hr hlk hK s0 ⟨hsn, rn_yes g18, by omega⟩ hP hD hS d_Model_test_309
      · skip
        refine lv_iload hx hb d_Model_test_26 (lv_at hl 0 rfl) ?_
        refine lv_aload_n hx hb d_Model_test_28 rfl (lv_at hl 2 rfl) ?_
        refine pl_get X fw_Model_23 hK hP 0 rfl (v := .ref o4) rfl d_Model_test_29 ?_
        refine lv_bipush (v := nI 8) hx hb d_Model_test_32 (by decide) ?_
        refine lv_iload hx hb d_Model_test_34 (lv_at hl 1 rfl) ?_
        refine pl_imul X d_Model_test_36 (z := nI (s0 * 8)) (pk_mulC _ _) ?_
        refine lv_iload_n hx hb d_Model_test_37 rfl (lv_at hl 3 rfl) ?_
        refine pl_iadd X d_Model_test_38 (z := nI (s0 * 8 + t)) (nI_add _ _) ?_
        refine pl_zald X hK hP 1 1 rfl rfl (s0 * 8 + t) (by omega) (by decide) (z := bI (decide (¬ th (s0 * 8 + t) = -1))) (hru _ (by omega)).1 d_Model_test_39 ?_
        refine pl_ifB_eq X d_Model_test_40 rfl (fun g40 => ?_) (fun g40 => ?_)
        · skip
          exact absurd g40 (by rw [g18]; decide)
        · skip
          refine lv_iconst (v := nI 1) hx hb d_Model_test_43 (by decide) ?_
          refine lv_goto hx hb d_Model_test_44 rfl ?_
          refine pl_isub X d_Model_test_48 (z := nI (k0 - cntR th t (s0 + 1))) (by rw [cntR_yes g40, pk_sub (by omega)]; rfl) ?_
          refine lv_istore hx hb d_Model_test_49 hl (by decide) (lv' := [(6, .int (nI (k0 - cntR th t (s0 + 1)))), (5, .int (nI s0)), (0, .ref m0), (1, .int (nI t)), (2, .int (nI k0)), (3, .int (nI 6)), (4, .int (nI z))]) rfl (fun ls hl => ?_)
          refine lv_iinc hx hb d_Model_test_51 hl (k := 1) rfl (nI_inc1 _) (by decide) (lv' := [(5, .int (nI (s0 + 1))), (6, .int (nI (k0 - cntR th t (s0 + 1)))), (0, .ref m0), (1, .int (nI t)), (2, .int (nI k0)), (3, .int (nI 6)), (4, .int (nI z))]) rfl (fun ls hl => ?_)
          refine lv_goto hx hb d_Model_test_54 rfl ?_
          exact ih _ (by omega) (s0 + 1) _ _ _ rfl (by omega) (by rw [cntR_yes g40]; omega) hP hD hS (lv_sub hl [1, 0, 2, 3, 4, 5, 6] rfl)
  exact loop_6 _ 0 _ _ _ rfl (Nat.zero_le _) (Nat.zero_le _) hP hD hS hl

set_option maxHeartbeats 4000000 in
set_option maxRecDepth 100000 in
theorem c_Model_test_7 (l : Launch) (D : va_G) (cI cZ cL : ClassId) (m0 o1 o2 o3 o4 o5 o6 o7 o8 o9 o10 o11 : Nat) (P K Hm ru lo hi tm sa ca ta tn : Nat → Int32) (fo1 fk1 : Int32) (co np n stat how pl la stt q dn : Nat) (th : Nat → Int32) (t k0 z : Nat) (hn : n ≤ 4) (ht : t < 8) (hk0 : k0 < cntR th t n) (hz : z ≤ 1600) (hru : rulR ru tm th) : pl_V l y_Model_test b_Model_test 9 ({ frames := 1, cells := 0, slots := 0, locals := 23 } : Room) pl_E0 D classes (TY cI cZ cL) [.ref m0, .int (nI t), .int (nI k0), .int (nI 7), .int (nI z)] [(m0, .inr (6, [.int (nI co), .int (nI np), .ref o1, .ref o2, .ref o3, .int (nI n), .ref o4, .ref o5, .ref o6, .ref o7, .int fo1, .int fk1, .int (nI stat), .int (nI how), .int (nI pl), .int (nI la), .int (nI stt), .int (nI q), .ref o8, .ref o9, .int (nI dn), .ref o10, .ref o11])), (o4, .inl (cZ, 32, .inl ru)), (o5, .inl (cI, 32, .inl lo)), (o6, .inl (cI, 32, .inl hi)), (o7, .inl (cI, 32, .inl tm))] (fun u : Nat => u < n ∧ ¬ th (u * 8 + t) = -1 ∧ cntR th t u = k0) (fun (u : Nat) => [(m0, .inr (6, [.int (nI co), .int (nI np), .ref o1, .ref o2, .ref o3, .int (nI n), .ref o4, .ref o5, .ref o6, .ref o7, .int (nI 8), .int (nI (z + cntR th t n * 16)), .int (nI stat), .int (nI how), .int (nI pl), .int (nI la), .int (nI stt), .int (nI q), .ref o8, .ref o9, .int (nI dn), .ref o10, .ref o11])), (o4, .inl (cZ, 32, .inl ru)), (o5, .inl (cI, 32, .inl lo)), (o6, .inl (cI, 32, .inl hi)), (o7, .inl (cI, 32, .inl tm))]) := by
  refine pl_startV (by decide) (Nat.le_of_ble_eq_true rfl) ?_
  intro p e s m args below meth c A ls X hr hlk hin hK hP hD hS hA hE hl
  have X : CallFix p m c b_Model_test 9 s args TG R_Model := X
  have hx := X.1
  have hb := X.2.1
  have hl : lv_has ls 9 [(0, .ref m0), (1, .int (nI t)), (2, .int (nI k0)), (3, .int (nI 7)), (4, .int (nI z))] := hl
  have hcn := cntR_le th t n
  refine lv_iconst (v := nI 0) hx hb d_Model_test_0 (by decide) ?_
  refine lv_istore hx hb d_Model_test_1 hl (by decide) (lv' := [(5, .int (nI 0)), (0, .ref m0), (1, .int (nI t)), (2, .int (nI k0)), (3, .int (nI 7)), (4, .int (nI z))]) rfl (fun ls hl => ?_)
  refine lv_iload_n hx hb d_Model_test_3 rfl (lv_at hl 3 rfl) ?_
  refine lv_istore hx hb d_Model_test_4 hl (by decide) (lv' := [(6, .int (nI k0)), (5, .int (nI 0)), (0, .ref m0), (1, .int (nI t)), (2, .int (nI k0)), (3, .int (nI 7)), (4, .int (nI z))]) rfl (fun ls hl => ?_)
  have loop_6 : ∀ (k : Nat) (s0 : Nat) (H : Heap) (locs : List Loc) (ls : Array Slot), n - s0 = k → (s0 ≤ n) → (cntR th t s0 ≤ k0) → va_P D classes [(m0, .inr (6, [.int (nI co), .int (nI np), .ref o1, .ref o2, .ref o3, .int (nI n), .ref o4, .ref o5, .ref o6, .ref o7, .int fo1, .int fk1, .int (nI stat), .int (nI how), .int (nI pl), .int (nI la), .int (nI stt), .int (nI q), .ref o8, .ref o9, .int (nI dn), .ref o10, .ref o11])), (o4, .inl (cZ, 32, .inl ru)), (o5, .inl (cI, 32, .inl lo)), (o6, .inl (cI, 32, .inl hi)), (o7, .inl (cI, 32, .inl tm))] H → va_D A [(m0, .inr (6, [.int (nI co), .int (nI np), .ref o1, .ref o2, .ref o3, .int (nI n), .ref o4, .ref o5, .ref o6, .ref o7, .int fo1, .int fk1, .int (nI stat), .int (nI how), .int (nI pl), .int (nI la), .int (nI stt), .int (nI q), .ref o8, .ref o9, .int (nI dn), .ref o10, .ref o11])), (o4, .inl (cZ, 32, .inl ru)), (o5, .inl (cI, 32, .inl lo)), (o6, .inl (cI, 32, .inl hi)), (o7, .inl (cI, 32, .inl tm))] → va_S A s.heap H locs → lv_has ls 9 [(6, .int (nI (k0 - cntR th t s0))), (5, .int (nI s0)), (0, .ref m0), (1, .int (nI t)), (2, .int (nI k0)), (3, .int (nI 7)), (4, .int (nI z))] → W p l e ({ frames := 1, cells := 0, slots := 0, locals := 23 } : Room) s m args below meth c H locs 0 0 (MQ below (va_Qv (fun u : Nat => u < n ∧ ¬ th (u * 8 + t) = -1 ∧ cntR th t u = k0) (fun u => pl_out D classes (TY cI cZ cL) A ((fun (u : Nat) => [(m0, .inr (6, [.int (nI co), .int (nI np), .ref o1, .ref o2, .ref o3, .int (nI n), .ref o4, .ref o5, .ref o6, .ref o7, .int (nI 8), .int (nI (z + cntR th t n * 16)), .int (nI stat), .int (nI how), .int (nI pl), .int (nI la), .int (nI stt), .int (nI q), .ref o8, .ref o9, .int (nI dn), .ref o10, .ref o11])), (o4, .inl (cZ, 32, .inl ru)), (o5, .inl (cI, 32, .inl lo)), (o6, .inl (cI, 32, .inl hi)), (o7, .inl (cI, 32, .inl tm))]) u)) A) args s 0 0 A) (F0 m 6 ls []) := by
    intro k
    induction k using Nat.strongRecOn with
    | _ k ih =>
    intro s0 H locs ls hk hs0 hc0 hP hD hS hl
    have hsn : s0 < n := by rcases Nat.lt_or_eq_of_le hs0 with q | q; exact q; (rw [q] at hc0; omega)
    refine lv_aload_n hx hb d_Model_test_6 rfl (lv_at hl 2 rfl) ?_
    refine pl_get X fw_Model_23 hK hP 0 rfl (v := .ref o4) rfl d_Model_test_7 ?_
    refine lv_bipush (v := nI 8) hx hb d_Model_test_10 (by decide) ?_
    refine lv_iload hx hb d_Model_test_12 (lv_at hl 1 rfl) ?_
    refine pl_imul X d_Model_test_14 (z := nI (s0 * 8)) (pk_mulC _ _) ?_
    refine lv_iload_n hx hb d_Model_test_15 rfl (lv_at hl 3 rfl) ?_
    refine pl_iadd X d_Model_test_16 (z := nI (s0 * 8 + t)) (nI_add _ _) ?_
    refine pl_zald X hK hP 1 1 rfl rfl (s0 * 8 + t) (by omega) (by decide) (z := bI (decide (¬ th (s0 * 8 + t) = -1))) (hru _ (by omega)).1 d_Model_test_17 ?_
    refine pl_ifB_eq X d_Model_test_18 rfl (fun g18 => ?_) (fun g18 => ?_)
    · skip
      refine lv_iload hx hb d_Model_test_26 (lv_at hl 0 rfl) ?_
      refine lv_aload_n hx hb d_Model_test_28 rfl (lv_at hl 2 rfl) ?_
      refine pl_get X fw_Model_23 hK hP 0 rfl (v := .ref o4) rfl d_Model_test_29 ?_
      refine lv_bipush (v := nI 8) hx hb d_Model_test_32 (by decide) ?_
      refine lv_iload hx hb d_Model_test_34 (lv_at hl 1 rfl) ?_
      refine pl_imul X d_Model_test_36 (z := nI (s0 * 8)) (pk_mulC _ _) ?_
      refine lv_iload_n hx hb d_Model_test_37 rfl (lv_at hl 3 rfl) ?_
      refine pl_iadd X d_Model_test_38 (z := nI (s0 * 8 + t)) (nI_add _ _) ?_
      refine pl_zald X hK hP 1 1 rfl rfl (s0 * 8 + t) (by omega) (by decide) (z := bI (decide (¬ th (s0 * 8 + t) = -1))) (hru _ (by omega)).1 d_Model_test_39 ?_
      refine pl_ifB_eq X d_Model_test_40 rfl (fun g40 => ?_) (fun g40 => ?_)
      · skip
        refine lv_iconst (v := nI 0) hx hb d_Model_test_47 (by decide) ?_
        refine pl_isub X d_Model_test_48 (z := nI (k0 - cntR th t (s0 + 1))) (by rw [cntR_no g40, pk_sub (by omega)]; rfl) ?_
        refine lv_istore hx hb d_Model_test_49 hl (by decide) (lv' := [(6, .int (nI (k0 - cntR th t (s0 + 1)))), (5, .int (nI s0)), (0, .ref m0), (1, .int (nI t)), (2, .int (nI k0)), (3, .int (nI 7)), (4, .int (nI z))]) rfl (fun ls hl => ?_)
        refine lv_iinc hx hb d_Model_test_51 hl (k := 1) rfl (nI_inc1 _) (by decide) (lv' := [(5, .int (nI (s0 + 1))), (6, .int (nI (k0 - cntR th t (s0 + 1)))), (0, .ref m0), (1, .int (nI t)), (2, .int (nI k0)), (3, .int (nI 7)), (4, .int (nI z))]) rfl (fun ls hl => ?_)
        refine lv_goto hx hb d_Model_test_54 rfl ?_
        exact ih _ (by omega) (s0 + 1) _ _ _ rfl (by omega) (by rw [cntR_no g40]; exact hc0) hP hD hS (lv_sub hl [1, 0, 2, 3, 4, 5, 6] rfl)
      · skip
        exact absurd g40 (by rw [g18]; decide)
    · skip
      refine lv_iload hx hb d_Model_test_21 (lv_at hl 0 rfl) ?_
      refine pl_if_le X (by omega) d_Model_test_23 rfl (fun g23 => ?_) (fun g23 => ?_)
      · skip
        refine lv_bipush (v := nI 8) hx hb d_Model_test_57 (by decide) ?_
        refine lv_iload hx hb d_Model_test_59 (lv_at hl 1 rfl) ?_
        refine pl_imul X d_Model_test_61 (z := nI (s0 * 8)) (pk_mulC _ _) ?_
        refine lv_iload_n hx hb d_Model_test_62 rfl (lv_at hl 3 rfl) ?_
        refine pl_iadd X d_Model_test_63 (z := nI (s0 * 8 + t)) (nI_add _ _) ?_
        refine lv_istore hx hb d_Model_test_64 hl (by decide) (lv' := [(7, .int (nI (s0 * 8 + t))), (6, .int (nI (k0 - cntR th t s0))), (5, .int (nI s0)), (0, .ref m0), (1, .int (nI t)), (2, .int (nI k0)), (3, .int (nI 7)), (4, .int (nI z))]) rfl (fun ls hl => ?_)
        refine lv_iload hx hb d_Model_test_66 (lv_at hl 7 rfl) ?_
        refine lv_bipush (v := nI 16) hx hb d_Model_test_68 (by decide) ?_
        refine lv_aload_n hx hb d_Model_test_70 rfl (lv_at hl 3 rfl) ?_
        refine lv_iload_n hx hb d_Model_test_71 rfl (lv_at hl 4 rfl) ?_
        refine pl_callVI X (rest := [.int (nI 16), .int (nI z)]) (As := [.int (nI t)]) (b := m0) (c_Model_testsOf l D cI cZ cL m0 o1 o2 o3 o4 o5 o6 o7 o8 o9 o10 o11 P K Hm ru lo hi tm sa ca ta tn fo1 fk1 co np n stat how pl la stt q dn th t hn ht hru) ck_Model_85 pl_E0_ok trivial hK hP hD hS hA (T := F_Model) (N := N_Model) (ci := 6) rfl 0 rfl [0, 1] [2, 3, 4] [3, 4, 0, 1, 2] rfl (by decide) (wr := [(o5, .inl (cI, 32, .inl lo)), (o6, .inl (cI, 32, .inl hi)), (o7, .inl (cI, 32, .inl tm))]) rfl (by decide) (by decide) (wf := fun _ => [(m0, .inr (6, [.int (nI co), .int (nI np), .ref o1, .ref o2, .ref o3, .int (nI n), .ref o4, .ref o5, .ref o6, .ref o7, .int fo1, .int fk1, .int (nI stat), .int (nI how), .int (nI pl), .int (nI la), .int (nI stt), .int (nI q), .ref o8, .ref o9, .int (nI dn), .ref o10, .ref o11])), (o4, .inl (cZ, 32, .inl ru)), (o5, .inl (cI, 32, .inl lo)), (o6, .inl (cI, 32, .inl hi)), (o7, .inl (cI, 32, .inl tm))]) (fun _ => rfl) (by decide) rfl hl.1 rfl (Nat.le_of_ble_eq_true rfl) (by decide) (by decide) d_Model_test_72 (fun r u0 H locs hcq hP hD hS => ?_)
        subst hcq
        refine pl_imul X d_Model_test_75 (z := nI ((cntR th t n) * 16)) (pk_mulC _ _) ?_
        refine pl_iadd X d_Model_test_76 (z := nI (z + (cntR th t n) * 16)) (nI_add _ _) ?_
        refine lv_istore hx hb d_Model_test_77 hl (by decide) (lv' := [(8, .int (nI (z + (cntR th t n) * 16))), (7, .int (nI (s0 * 8 + t))), (6, .int (nI (k0 - cntR th t s0))), (5, .int (nI s0)), (0, .ref m0), (1, .int (nI t)), (2, .int (nI k0)), (3, .int (nI 7)), (4, .int (nI z))]) rfl (fun ls hl => ?_)
        refine lv_iload_n hx hb d_Model_test_79 rfl (lv_at hl 7 rfl) ?_
        refine lv_tableIn hx hb d_Model_test_80 (by decide) (by decide) (off := 157) (by decide) (tgt := 237) rfl ?_
        refine lv_aload_n hx hb d_Model_test_237 rfl (lv_at hl 4 rfl) ?_
        refine lv_bipush (v := nI 8) hx hb d_Model_test_238 (by decide) ?_
        refine lv_iload hx hb d_Model_test_240 (lv_at hl 0 rfl) ?_
        refine pl_callVV X (rest := []) (As := [.int (nI 8), .int (nI (z + (cntR th t n) * 16))]) (b := m0) (c_Model_set l D cI cZ cL m0 o1 o2 o3 o4 o5 o6 o7 o8 o9 o10 o11 P K Hm ru lo hi tm sa ca ta tn fo1 fk1 co np n stat how pl la stt q dn (nI 8) (nI (z + (cntR th t n) * 16))) ck_Model_100 pl_E0_ok trivial hK hP hD hS hA (T := F_Model) (N := N_Model) (ci := 6) rfl 0 rfl [0] [1, 2, 3, 4] [4, 0, 1, 2, 3] rfl (by decide) (wr := [(o4, .inl (cZ, 32, .inl ru)), (o5, .inl (cI, 32, .inl lo)), (o6, .inl (cI, 32, .inl hi)), (o7, .inl (cI, 32, .inl tm))]) rfl (by decide) (by decide) (wf := fun _ => [(m0, .inr (6, [.int (nI co), .int (nI np), .ref o1, .ref o2, .ref o3, .int (nI n), .ref o4, .ref o5, .ref o6, .ref o7, .int (nI 8), .int (nI (z + (cntR th t n) * 16)), .int (nI stat), .int (nI how), .int (nI pl), .int (nI la), .int (nI stt), .int (nI q), .ref o8, .ref o9, .int (nI dn), .ref o10, .ref o11])), (o4, .inl (cZ, 32, .inl ru)), (o5, .inl (cI, 32, .inl lo)), (o6, .inl (cI, 32, .inl hi)), (o7, .inl (cI, 32, .inl tm))]) (fun _ => rfl) (by decide) rfl hl.1 rfl (Nat.le_of_ble_eq_true rfl) (by decide) (by decide) d_Model_test_242 (fun u0 H locs hcq hP hD hS => ?_)
        refine lv_goto hx hb d_Model_test_245 rfl ?_
        exact pl_vret X hr hlk hK s0 ⟨hsn, rn_yes g18, by omega⟩ hP hD hS d_Model_test_309
      · skip
        refine lv_iload hx hb d_Model_test_26 (lv_at hl 0 rfl) ?_
        refine lv_aload_n hx hb d_Model_test_28 rfl (lv_at hl 2 rfl) ?_
        refine pl_get X fw_Model_23 hK hP 0 rfl (v := .ref o4) rfl d_Model_test_29 ?_
        refine lv_bipush (v := nI 8) hx hb d_Model_test_32 (by decide) ?_
        refine lv_iload hx hb d_Model_test_34 (lv_at hl 1 rfl) ?_
        refine pl_imul X d_Model_test_36 (z := nI (s0 * 8)) (pk_mulC _ _) ?_
        refine lv_iload_n hx hb d_Model_test_37 rfl (lv_at hl 3 rfl) ?_
        refine pl_iadd X d_Model_test_38 (z := nI (s0 * 8 + t)) (nI_add _ _) ?_
        refine pl_zald X hK hP 1 1 rfl rfl (s0 * 8 + t) (by omega) (by decide) (z := bI (decide (¬ th (s0 * 8 + t) = -1))) (hru _ (by omega)).1 d_Model_test_39 ?_
        refine pl_ifB_eq X d_Model_test_40 rfl (fun g40 => ?_) (fun g40 => ?_)
        · skip
          exact absurd g40 (by rw [g18]; decide)
        · skip
          refine lv_iconst (v := nI 1) hx hb d_Model_test_43 (by decide) ?_
          refine lv_goto hx hb d_Model_test_44 rfl ?_
          refine pl_isub X d_Model_test_48 (z := nI (k0 - cntR th t (s0 + 1))) (by rw [cntR_yes g40, pk_sub (by omega)]; rfl) ?_
          refine lv_istore hx hb d_Model_test_49 hl (by decide) (lv' := [(6, .int (nI (k0 - cntR th t (s0 + 1)))), (5, .int (nI s0)), (0, .ref m0), (1, .int (nI t)), (2, .int (nI k0)), (3, .int (nI 7)), (4, .int (nI z))]) rfl (fun ls hl => ?_)
          refine lv_iinc hx hb d_Model_test_51 hl (k := 1) rfl (nI_inc1 _) (by decide) (lv' := [(5, .int (nI (s0 + 1))), (6, .int (nI (k0 - cntR th t (s0 + 1)))), (0, .ref m0), (1, .int (nI t)), (2, .int (nI k0)), (3, .int (nI 7)), (4, .int (nI z))]) rfl (fun ls hl => ?_)
          refine lv_goto hx hb d_Model_test_54 rfl ?_
          exact ih _ (by omega) (s0 + 1) _ _ _ rfl (by omega) (by rw [cntR_yes g40]; omega) hP hD hS (lv_sub hl [1, 0, 2, 3, 4, 5, 6] rfl)
  exact loop_6 _ 0 _ _ _ rfl (Nat.zero_le _) (Nat.zero_le _) hP hD hS hl

set_option maxHeartbeats 4000000 in
set_option maxRecDepth 100000 in
theorem c_Model_test_8 (l : Launch) (D : va_G) (cI cZ cL : ClassId) (m0 o1 o2 o3 o4 o5 o6 o7 o8 o9 o10 o11 : Nat) (P K Hm ru lo hi tm sa ca ta tn : Nat → Int32) (fo1 fk1 : Int32) (co np n stat how pl la stt q dn : Nat) (th : Nat → Int32) (t k0 z : Nat) (hn : n ≤ 4) (ht : t < 8) (hk0 : k0 < cntR th t n) (hz : z ≤ 1600) (hru : rulR ru tm th) : pl_V l y_Model_test b_Model_test 9 ({ frames := 1, cells := 0, slots := 0, locals := 23 } : Room) pl_E0 D classes (TY cI cZ cL) [.ref m0, .int (nI t), .int (nI k0), .int (nI 8), .int (nI z)] [(m0, .inr (6, [.int (nI co), .int (nI np), .ref o1, .ref o2, .ref o3, .int (nI n), .ref o4, .ref o5, .ref o6, .ref o7, .int fo1, .int fk1, .int (nI stat), .int (nI how), .int (nI pl), .int (nI la), .int (nI stt), .int (nI q), .ref o8, .ref o9, .int (nI dn), .ref o10, .ref o11])), (o4, .inl (cZ, 32, .inl ru)), (o5, .inl (cI, 32, .inl lo)), (o6, .inl (cI, 32, .inl hi)), (o7, .inl (cI, 32, .inl tm))] (fun u : Nat => u < n ∧ ¬ th (u * 8 + t) = -1 ∧ cntR th t u = k0) (fun (u : Nat) => [(m0, .inr (6, [.int (nI co), .int (nI np), .ref o1, .ref o2, .ref o3, .int (nI n), .ref o4, .ref o5, .ref o6, .ref o7, .int (nI 11), .int (nI 0), .int (nI stat), .int (nI how), .int (nI pl), .int (nI la), .int (nI stt), .int (nI q), .ref o8, .ref o9, .int (nI dn), .ref o10, .ref o11])), (o4, .inl (cZ, 32, .inl ru)), (o5, .inl (cI, 32, .inl lo)), (o6, .inl (cI, 32, .inl hi)), (o7, .inl (cI, 32, .inl tm))]) := by
  refine pl_startV (by decide) (Nat.le_of_ble_eq_true rfl) ?_
  intro p e s m args below meth c A ls X hr hlk hin hK hP hD hS hA hE hl
  have X : CallFix p m c b_Model_test 9 s args TG R_Model := X
  have hx := X.1
  have hb := X.2.1
  have hl : lv_has ls 9 [(0, .ref m0), (1, .int (nI t)), (2, .int (nI k0)), (3, .int (nI 8)), (4, .int (nI z))] := hl
  have hcn := cntR_le th t n
  refine lv_iconst (v := nI 0) hx hb d_Model_test_0 (by decide) ?_
  refine lv_istore hx hb d_Model_test_1 hl (by decide) (lv' := [(5, .int (nI 0)), (0, .ref m0), (1, .int (nI t)), (2, .int (nI k0)), (3, .int (nI 8)), (4, .int (nI z))]) rfl (fun ls hl => ?_)
  refine lv_iload_n hx hb d_Model_test_3 rfl (lv_at hl 3 rfl) ?_
  refine lv_istore hx hb d_Model_test_4 hl (by decide) (lv' := [(6, .int (nI k0)), (5, .int (nI 0)), (0, .ref m0), (1, .int (nI t)), (2, .int (nI k0)), (3, .int (nI 8)), (4, .int (nI z))]) rfl (fun ls hl => ?_)
  have loop_6 : ∀ (k : Nat) (s0 : Nat) (H : Heap) (locs : List Loc) (ls : Array Slot), n - s0 = k → (s0 ≤ n) → (cntR th t s0 ≤ k0) → va_P D classes [(m0, .inr (6, [.int (nI co), .int (nI np), .ref o1, .ref o2, .ref o3, .int (nI n), .ref o4, .ref o5, .ref o6, .ref o7, .int fo1, .int fk1, .int (nI stat), .int (nI how), .int (nI pl), .int (nI la), .int (nI stt), .int (nI q), .ref o8, .ref o9, .int (nI dn), .ref o10, .ref o11])), (o4, .inl (cZ, 32, .inl ru)), (o5, .inl (cI, 32, .inl lo)), (o6, .inl (cI, 32, .inl hi)), (o7, .inl (cI, 32, .inl tm))] H → va_D A [(m0, .inr (6, [.int (nI co), .int (nI np), .ref o1, .ref o2, .ref o3, .int (nI n), .ref o4, .ref o5, .ref o6, .ref o7, .int fo1, .int fk1, .int (nI stat), .int (nI how), .int (nI pl), .int (nI la), .int (nI stt), .int (nI q), .ref o8, .ref o9, .int (nI dn), .ref o10, .ref o11])), (o4, .inl (cZ, 32, .inl ru)), (o5, .inl (cI, 32, .inl lo)), (o6, .inl (cI, 32, .inl hi)), (o7, .inl (cI, 32, .inl tm))] → va_S A s.heap H locs → lv_has ls 9 [(6, .int (nI (k0 - cntR th t s0))), (5, .int (nI s0)), (0, .ref m0), (1, .int (nI t)), (2, .int (nI k0)), (3, .int (nI 8)), (4, .int (nI z))] → W p l e ({ frames := 1, cells := 0, slots := 0, locals := 23 } : Room) s m args below meth c H locs 0 0 (MQ below (va_Qv (fun u : Nat => u < n ∧ ¬ th (u * 8 + t) = -1 ∧ cntR th t u = k0) (fun u => pl_out D classes (TY cI cZ cL) A ((fun (u : Nat) => [(m0, .inr (6, [.int (nI co), .int (nI np), .ref o1, .ref o2, .ref o3, .int (nI n), .ref o4, .ref o5, .ref o6, .ref o7, .int (nI 11), .int (nI 0), .int (nI stat), .int (nI how), .int (nI pl), .int (nI la), .int (nI stt), .int (nI q), .ref o8, .ref o9, .int (nI dn), .ref o10, .ref o11])), (o4, .inl (cZ, 32, .inl ru)), (o5, .inl (cI, 32, .inl lo)), (o6, .inl (cI, 32, .inl hi)), (o7, .inl (cI, 32, .inl tm))]) u)) A) args s 0 0 A) (F0 m 6 ls []) := by
    intro k
    induction k using Nat.strongRecOn with
    | _ k ih =>
    intro s0 H locs ls hk hs0 hc0 hP hD hS hl
    have hsn : s0 < n := by rcases Nat.lt_or_eq_of_le hs0 with q | q; exact q; (rw [q] at hc0; omega)
    refine lv_aload_n hx hb d_Model_test_6 rfl (lv_at hl 2 rfl) ?_
    refine pl_get X fw_Model_23 hK hP 0 rfl (v := .ref o4) rfl d_Model_test_7 ?_
    refine lv_bipush (v := nI 8) hx hb d_Model_test_10 (by decide) ?_
    refine lv_iload hx hb d_Model_test_12 (lv_at hl 1 rfl) ?_
    refine pl_imul X d_Model_test_14 (z := nI (s0 * 8)) (pk_mulC _ _) ?_
    refine lv_iload_n hx hb d_Model_test_15 rfl (lv_at hl 3 rfl) ?_
    refine pl_iadd X d_Model_test_16 (z := nI (s0 * 8 + t)) (nI_add _ _) ?_
    refine pl_zald X hK hP 1 1 rfl rfl (s0 * 8 + t) (by omega) (by decide) (z := bI (decide (¬ th (s0 * 8 + t) = -1))) (hru _ (by omega)).1 d_Model_test_17 ?_
    refine pl_ifB_eq X d_Model_test_18 rfl (fun g18 => ?_) (fun g18 => ?_)
    · skip
      refine lv_iload hx hb d_Model_test_26 (lv_at hl 0 rfl) ?_
      refine lv_aload_n hx hb d_Model_test_28 rfl (lv_at hl 2 rfl) ?_
      refine pl_get X fw_Model_23 hK hP 0 rfl (v := .ref o4) rfl d_Model_test_29 ?_
      refine lv_bipush (v := nI 8) hx hb d_Model_test_32 (by decide) ?_
      refine lv_iload hx hb d_Model_test_34 (lv_at hl 1 rfl) ?_
      refine pl_imul X d_Model_test_36 (z := nI (s0 * 8)) (pk_mulC _ _) ?_
      refine lv_iload_n hx hb d_Model_test_37 rfl (lv_at hl 3 rfl) ?_
      refine pl_iadd X d_Model_test_38 (z := nI (s0 * 8 + t)) (nI_add _ _) ?_
      refine pl_zald X hK hP 1 1 rfl rfl (s0 * 8 + t) (by omega) (by decide) (z := bI (decide (¬ th (s0 * 8 + t) = -1))) (hru _ (by omega)).1 d_Model_test_39 ?_
      refine pl_ifB_eq X d_Model_test_40 rfl (fun g40 => ?_) (fun g40 => ?_)
      · skip
        refine lv_iconst (v := nI 0) hx hb d_Model_test_47 (by decide) ?_
        refine pl_isub X d_Model_test_48 (z := nI (k0 - cntR th t (s0 + 1))) (by rw [cntR_no g40, pk_sub (by omega)]; rfl) ?_
        refine lv_istore hx hb d_Model_test_49 hl (by decide) (lv' := [(6, .int (nI (k0 - cntR th t (s0 + 1)))), (5, .int (nI s0)), (0, .ref m0), (1, .int (nI t)), (2, .int (nI k0)), (3, .int (nI 8)), (4, .int (nI z))]) rfl (fun ls hl => ?_)
        refine lv_iinc hx hb d_Model_test_51 hl (k := 1) rfl (nI_inc1 _) (by decide) (lv' := [(5, .int (nI (s0 + 1))), (6, .int (nI (k0 - cntR th t (s0 + 1)))), (0, .ref m0), (1, .int (nI t)), (2, .int (nI k0)), (3, .int (nI 8)), (4, .int (nI z))]) rfl (fun ls hl => ?_)
        refine lv_goto hx hb d_Model_test_54 rfl ?_
        exact ih _ (by omega) (s0 + 1) _ _ _ rfl (by omega) (by rw [cntR_no g40]; exact hc0) hP hD hS (lv_sub hl [1, 0, 2, 3, 4, 5, 6] rfl)
      · skip
        exact absurd g40 (by rw [g18]; decide)
    · skip
      refine lv_iload hx hb d_Model_test_21 (lv_at hl 0 rfl) ?_
      refine pl_if_le X (by omega) d_Model_test_23 rfl (fun g23 => ?_) (fun g23 => ?_)
      · skip
        refine lv_bipush (v := nI 8) hx hb d_Model_test_57 (by decide) ?_
        refine lv_iload hx hb d_Model_test_59 (lv_at hl 1 rfl) ?_
        refine pl_imul X d_Model_test_61 (z := nI (s0 * 8)) (pk_mulC _ _) ?_
        refine lv_iload_n hx hb d_Model_test_62 rfl (lv_at hl 3 rfl) ?_
        refine pl_iadd X d_Model_test_63 (z := nI (s0 * 8 + t)) (nI_add _ _) ?_
        refine lv_istore hx hb d_Model_test_64 hl (by decide) (lv' := [(7, .int (nI (s0 * 8 + t))), (6, .int (nI (k0 - cntR th t s0))), (5, .int (nI s0)), (0, .ref m0), (1, .int (nI t)), (2, .int (nI k0)), (3, .int (nI 8)), (4, .int (nI z))]) rfl (fun ls hl => ?_)
        refine lv_iload hx hb d_Model_test_66 (lv_at hl 7 rfl) ?_
        refine lv_bipush (v := nI 16) hx hb d_Model_test_68 (by decide) ?_
        refine lv_aload_n hx hb d_Model_test_70 rfl (lv_at hl 3 rfl) ?_
        refine lv_iload_n hx hb d_Model_test_71 rfl (lv_at hl 4 rfl) ?_
        refine pl_callVI X (rest := [.int (nI 16), .int (nI z)]) (As := [.int (nI t)]) (b := m0) (c_Model_testsOf l D cI cZ cL m0 o1 o2 o3 o4 o5 o6 o7 o8 o9 o10 o11 P K Hm ru lo hi tm sa ca ta tn fo1 fk1 co np n stat how pl la stt q dn th t hn ht hru) ck_Model_85 pl_E0_ok trivial hK hP hD hS hA (T := F_Model) (N := N_Model) (ci := 6) rfl 0 rfl [0, 1] [2, 3, 4] [3, 4, 0, 1, 2] rfl (by decide) (wr := [(o5, .inl (cI, 32, .inl lo)), (o6, .inl (cI, 32, .inl hi)), (o7, .inl (cI, 32, .inl tm))]) rfl (by decide) (by decide) (wf := fun _ => [(m0, .inr (6, [.int (nI co), .int (nI np), .ref o1, .ref o2, .ref o3, .int (nI n), .ref o4, .ref o5, .ref o6, .ref o7, .int fo1, .int fk1, .int (nI stat), .int (nI how), .int (nI pl), .int (nI la), .int (nI stt), .int (nI q), .ref o8, .ref o9, .int (nI dn), .ref o10, .ref o11])), (o4, .inl (cZ, 32, .inl ru)), (o5, .inl (cI, 32, .inl lo)), (o6, .inl (cI, 32, .inl hi)), (o7, .inl (cI, 32, .inl tm))]) (fun _ => rfl) (by decide) rfl hl.1 rfl (Nat.le_of_ble_eq_true rfl) (by decide) (by decide) d_Model_test_72 (fun r u0 H locs hcq hP hD hS => ?_)
        subst hcq
        refine pl_imul X d_Model_test_75 (z := nI ((cntR th t n) * 16)) (pk_mulC _ _) ?_
        refine pl_iadd X d_Model_test_76 (z := nI (z + (cntR th t n) * 16)) (nI_add _ _) ?_
        refine lv_istore hx hb d_Model_test_77 hl (by decide) (lv' := [(8, .int (nI (z + (cntR th t n) * 16))), (7, .int (nI (s0 * 8 + t))), (6, .int (nI (k0 - cntR th t s0))), (5, .int (nI s0)), (0, .ref m0), (1, .int (nI t)), (2, .int (nI k0)), (3, .int (nI 8)), (4, .int (nI z))]) rfl (fun ls hl => ?_)
        refine lv_iload_n hx hb d_Model_test_79 rfl (lv_at hl 7 rfl) ?_
        refine lv_tableIn hx hb d_Model_test_80 (by decide) (by decide) (off := 123) (by decide) (tgt := 203) rfl ?_
        refine lv_aload_n hx hb d_Model_test_203 rfl (lv_at hl 4 rfl) ?_
        refine lv_bipush (v := nI 11) hx hb d_Model_test_204 (by decide) ?_
        refine lv_iconst (v := nI 0) hx hb d_Model_test_206 (by decide) ?_
        refine pl_callVV X (rest := []) (As := [.int (nI 11), .int (nI 0)]) (b := m0) (c_Model_set l D cI cZ cL m0 o1 o2 o3 o4 o5 o6 o7 o8 o9 o10 o11 P K Hm ru lo hi tm sa ca ta tn fo1 fk1 co np n stat how pl la stt q dn (nI 11) (nI 0)) ck_Model_100 pl_E0_ok trivial hK hP hD hS hA (T := F_Model) (N := N_Model) (ci := 6) rfl 0 rfl [0] [1, 2, 3, 4] [4, 0, 1, 2, 3] rfl (by decide) (wr := [(o4, .inl (cZ, 32, .inl ru)), (o5, .inl (cI, 32, .inl lo)), (o6, .inl (cI, 32, .inl hi)), (o7, .inl (cI, 32, .inl tm))]) rfl (by decide) (by decide) (wf := fun _ => [(m0, .inr (6, [.int (nI co), .int (nI np), .ref o1, .ref o2, .ref o3, .int (nI n), .ref o4, .ref o5, .ref o6, .ref o7, .int (nI 11), .int (nI 0), .int (nI stat), .int (nI how), .int (nI pl), .int (nI la), .int (nI stt), .int (nI q), .ref o8, .ref o9, .int (nI dn), .ref o10, .ref o11])), (o4, .inl (cZ, 32, .inl ru)), (o5, .inl (cI, 32, .inl lo)), (o6, .inl (cI, 32, .inl hi)), (o7, .inl (cI, 32, .inl tm))]) (fun _ => rfl) (by decide) rfl hl.1 rfl (Nat.le_of_ble_eq_true rfl) (by decide) (by decide) d_Model_test_207 (fun u0 H locs hcq hP hD hS => ?_)
        refine lv_goto hx hb d_Model_test_210 rfl ?_
        exact pl_vret X hr hlk hK s0 ⟨hsn, rn_yes g18, by omega⟩ hP hD hS d_Model_test_309
      · skip
        refine lv_iload hx hb d_Model_test_26 (lv_at hl 0 rfl) ?_
        refine lv_aload_n hx hb d_Model_test_28 rfl (lv_at hl 2 rfl) ?_
        refine pl_get X fw_Model_23 hK hP 0 rfl (v := .ref o4) rfl d_Model_test_29 ?_
        refine lv_bipush (v := nI 8) hx hb d_Model_test_32 (by decide) ?_
        refine lv_iload hx hb d_Model_test_34 (lv_at hl 1 rfl) ?_
        refine pl_imul X d_Model_test_36 (z := nI (s0 * 8)) (pk_mulC _ _) ?_
        refine lv_iload_n hx hb d_Model_test_37 rfl (lv_at hl 3 rfl) ?_
        refine pl_iadd X d_Model_test_38 (z := nI (s0 * 8 + t)) (nI_add _ _) ?_
        refine pl_zald X hK hP 1 1 rfl rfl (s0 * 8 + t) (by omega) (by decide) (z := bI (decide (¬ th (s0 * 8 + t) = -1))) (hru _ (by omega)).1 d_Model_test_39 ?_
        refine pl_ifB_eq X d_Model_test_40 rfl (fun g40 => ?_) (fun g40 => ?_)
        · skip
          exact absurd g40 (by rw [g18]; decide)
        · skip
          refine lv_iconst (v := nI 1) hx hb d_Model_test_43 (by decide) ?_
          refine lv_goto hx hb d_Model_test_44 rfl ?_
          refine pl_isub X d_Model_test_48 (z := nI (k0 - cntR th t (s0 + 1))) (by rw [cntR_yes g40, pk_sub (by omega)]; rfl) ?_
          refine lv_istore hx hb d_Model_test_49 hl (by decide) (lv' := [(6, .int (nI (k0 - cntR th t (s0 + 1)))), (5, .int (nI s0)), (0, .ref m0), (1, .int (nI t)), (2, .int (nI k0)), (3, .int (nI 8)), (4, .int (nI z))]) rfl (fun ls hl => ?_)
          refine lv_iinc hx hb d_Model_test_51 hl (k := 1) rfl (nI_inc1 _) (by decide) (lv' := [(5, .int (nI (s0 + 1))), (6, .int (nI (k0 - cntR th t (s0 + 1)))), (0, .ref m0), (1, .int (nI t)), (2, .int (nI k0)), (3, .int (nI 8)), (4, .int (nI z))]) rfl (fun ls hl => ?_)
          refine lv_goto hx hb d_Model_test_54 rfl ?_
          exact ih _ (by omega) (s0 + 1) _ _ _ rfl (by omega) (by rw [cntR_yes g40]; omega) hP hD hS (lv_sub hl [1, 0, 2, 3, 4, 5, 6] rfl)
  exact loop_6 _ 0 _ _ _ rfl (Nat.zero_le _) (Nat.zero_le _) hP hD hS hl

set_option maxHeartbeats 4000000 in
set_option maxRecDepth 100000 in
theorem c_Model_test_9 (l : Launch) (D : va_G) (cI cZ cL : ClassId) (m0 o1 o2 o3 o4 o5 o6 o7 o8 o9 o10 o11 : Nat) (P K Hm ru lo hi tm sa ca ta tn : Nat → Int32) (fo1 fk1 : Int32) (co np n stat how pl la stt q dn : Nat) (th : Nat → Int32) (t k0 z : Nat) (hn : n ≤ 4) (ht : t < 8) (hk0 : k0 < cntR th t n) (hz : z ≤ 1600) (hru : rulR ru tm th) : pl_V l y_Model_test b_Model_test 9 ({ frames := 1, cells := 0, slots := 0, locals := 23 } : Room) pl_E0 D classes (TY cI cZ cL) [.ref m0, .int (nI t), .int (nI k0), .int (nI 9), .int (nI z)] [(m0, .inr (6, [.int (nI co), .int (nI np), .ref o1, .ref o2, .ref o3, .int (nI n), .ref o4, .ref o5, .ref o6, .ref o7, .int fo1, .int fk1, .int (nI stat), .int (nI how), .int (nI pl), .int (nI la), .int (nI stt), .int (nI q), .ref o8, .ref o9, .int (nI dn), .ref o10, .ref o11])), (o4, .inl (cZ, 32, .inl ru)), (o5, .inl (cI, 32, .inl lo)), (o6, .inl (cI, 32, .inl hi)), (o7, .inl (cI, 32, .inl tm))] (fun u : Nat => u < n ∧ ¬ th (u * 8 + t) = -1 ∧ cntR th t u = k0) (fun (u : Nat) => [(m0, .inr (6, [.int (nI co), .int (nI np), .ref o1, .ref o2, .ref o3, .int (nI n), .ref o4, .ref o5, .ref o6, .ref o7, .int (nI 0), .int (hi (u * 8 + t)), .int (nI stat), .int (nI how), .int (nI pl), .int (nI la), .int (nI stt), .int (nI q), .ref o8, .ref o9, .int (nI dn), .ref o10, .ref o11])), (o4, .inl (cZ, 32, .inl ru)), (o5, .inl (cI, 32, .inl lo)), (o6, .inl (cI, 32, .inl hi)), (o7, .inl (cI, 32, .inl tm))]) := by
  refine pl_startV (by decide) (Nat.le_of_ble_eq_true rfl) ?_
  intro p e s m args below meth c A ls X hr hlk hin hK hP hD hS hA hE hl
  have X : CallFix p m c b_Model_test 9 s args TG R_Model := X
  have hx := X.1
  have hb := X.2.1
  have hl : lv_has ls 9 [(0, .ref m0), (1, .int (nI t)), (2, .int (nI k0)), (3, .int (nI 9)), (4, .int (nI z))] := hl
  have hcn := cntR_le th t n
  refine lv_iconst (v := nI 0) hx hb d_Model_test_0 (by decide) ?_
  refine lv_istore hx hb d_Model_test_1 hl (by decide) (lv' := [(5, .int (nI 0)), (0, .ref m0), (1, .int (nI t)), (2, .int (nI k0)), (3, .int (nI 9)), (4, .int (nI z))]) rfl (fun ls hl => ?_)
  refine lv_iload_n hx hb d_Model_test_3 rfl (lv_at hl 3 rfl) ?_
  refine lv_istore hx hb d_Model_test_4 hl (by decide) (lv' := [(6, .int (nI k0)), (5, .int (nI 0)), (0, .ref m0), (1, .int (nI t)), (2, .int (nI k0)), (3, .int (nI 9)), (4, .int (nI z))]) rfl (fun ls hl => ?_)
  have loop_6 : ∀ (k : Nat) (s0 : Nat) (H : Heap) (locs : List Loc) (ls : Array Slot), n - s0 = k → (s0 ≤ n) → (cntR th t s0 ≤ k0) → va_P D classes [(m0, .inr (6, [.int (nI co), .int (nI np), .ref o1, .ref o2, .ref o3, .int (nI n), .ref o4, .ref o5, .ref o6, .ref o7, .int fo1, .int fk1, .int (nI stat), .int (nI how), .int (nI pl), .int (nI la), .int (nI stt), .int (nI q), .ref o8, .ref o9, .int (nI dn), .ref o10, .ref o11])), (o4, .inl (cZ, 32, .inl ru)), (o5, .inl (cI, 32, .inl lo)), (o6, .inl (cI, 32, .inl hi)), (o7, .inl (cI, 32, .inl tm))] H → va_D A [(m0, .inr (6, [.int (nI co), .int (nI np), .ref o1, .ref o2, .ref o3, .int (nI n), .ref o4, .ref o5, .ref o6, .ref o7, .int fo1, .int fk1, .int (nI stat), .int (nI how), .int (nI pl), .int (nI la), .int (nI stt), .int (nI q), .ref o8, .ref o9, .int (nI dn), .ref o10, .ref o11])), (o4, .inl (cZ, 32, .inl ru)), (o5, .inl (cI, 32, .inl lo)), (o6, .inl (cI, 32, .inl hi)), (o7, .inl (cI, 32, .inl tm))] → va_S A s.heap H locs → lv_has ls 9 [(6, .int (nI (k0 - cntR th t s0))), (5, .int (nI s0)), (0, .ref m0), (1, .int (nI t)), (2, .int (nI k0)), (3, .int (nI 9)), (4, .int (nI z))] → W p l e ({ frames := 1, cells := 0, slots := 0, locals := 23 } : Room) s m args below meth c H locs 0 0 (MQ below (va_Qv (fun u : Nat => u < n ∧ ¬ th (u * 8 + t) = -1 ∧ cntR th t u = k0) (fun u => pl_out D classes (TY cI cZ cL) A ((fun (u : Nat) => [(m0, .inr (6, [.int (nI co), .int (nI np), .ref o1, .ref o2, .ref o3, .int (nI n), .ref o4, .ref o5, .ref o6, .ref o7, .int (nI 0), .int (hi (u * 8 + t)), .int (nI stat), .int (nI how), .int (nI pl), .int (nI la), .int (nI stt), .int (nI q), .ref o8, .ref o9, .int (nI dn), .ref o10, .ref o11])), (o4, .inl (cZ, 32, .inl ru)), (o5, .inl (cI, 32, .inl lo)), (o6, .inl (cI, 32, .inl hi)), (o7, .inl (cI, 32, .inl tm))]) u)) A) args s 0 0 A) (F0 m 6 ls []) := by
    intro k
    induction k using Nat.strongRecOn with
    | _ k ih =>
    intro s0 H locs ls hk hs0 hc0 hP hD hS hl
    have hsn : s0 < n := by rcases Nat.lt_or_eq_of_le hs0 with q | q; exact q; (rw [q] at hc0; omega)
    refine lv_aload_n hx hb d_Model_test_6 rfl (lv_at hl 2 rfl) ?_
    refine pl_get X fw_Model_23 hK hP 0 rfl (v := .ref o4) rfl d_Model_test_7 ?_
    refine lv_bipush (v := nI 8) hx hb d_Model_test_10 (by decide) ?_
    refine lv_iload hx hb d_Model_test_12 (lv_at hl 1 rfl) ?_
    refine pl_imul X d_Model_test_14 (z := nI (s0 * 8)) (pk_mulC _ _) ?_
    refine lv_iload_n hx hb d_Model_test_15 rfl (lv_at hl 3 rfl) ?_
    refine pl_iadd X d_Model_test_16 (z := nI (s0 * 8 + t)) (nI_add _ _) ?_
    refine pl_zald X hK hP 1 1 rfl rfl (s0 * 8 + t) (by omega) (by decide) (z := bI (decide (¬ th (s0 * 8 + t) = -1))) (hru _ (by omega)).1 d_Model_test_17 ?_
    refine pl_ifB_eq X d_Model_test_18 rfl (fun g18 => ?_) (fun g18 => ?_)
    · skip
      refine lv_iload hx hb d_Model_test_26 (lv_at hl 0 rfl) ?_
      refine lv_aload_n hx hb d_Model_test_28 rfl (lv_at hl 2 rfl) ?_
      refine pl_get X fw_Model_23 hK hP 0 rfl (v := .ref o4) rfl d_Model_test_29 ?_
      refine lv_bipush (v := nI 8) hx hb d_Model_test_32 (by decide) ?_
      refine lv_iload hx hb d_Model_test_34 (lv_at hl 1 rfl) ?_
      refine pl_imul X d_Model_test_36 (z := nI (s0 * 8)) (pk_mulC _ _) ?_
      refine lv_iload_n hx hb d_Model_test_37 rfl (lv_at hl 3 rfl) ?_
      refine pl_iadd X d_Model_test_38 (z := nI (s0 * 8 + t)) (nI_add _ _) ?_
      refine pl_zald X hK hP 1 1 rfl rfl (s0 * 8 + t) (by omega) (by decide) (z := bI (decide (¬ th (s0 * 8 + t) = -1))) (hru _ (by omega)).1 d_Model_test_39 ?_
      refine pl_ifB_eq X d_Model_test_40 rfl (fun g40 => ?_) (fun g40 => ?_)
      · skip
        refine lv_iconst (v := nI 0) hx hb d_Model_test_47 (by decide) ?_
        refine pl_isub X d_Model_test_48 (z := nI (k0 - cntR th t (s0 + 1))) (by rw [cntR_no g40, pk_sub (by omega)]; rfl) ?_
        refine lv_istore hx hb d_Model_test_49 hl (by decide) (lv' := [(6, .int (nI (k0 - cntR th t (s0 + 1)))), (5, .int (nI s0)), (0, .ref m0), (1, .int (nI t)), (2, .int (nI k0)), (3, .int (nI 9)), (4, .int (nI z))]) rfl (fun ls hl => ?_)
        refine lv_iinc hx hb d_Model_test_51 hl (k := 1) rfl (nI_inc1 _) (by decide) (lv' := [(5, .int (nI (s0 + 1))), (6, .int (nI (k0 - cntR th t (s0 + 1)))), (0, .ref m0), (1, .int (nI t)), (2, .int (nI k0)), (3, .int (nI 9)), (4, .int (nI z))]) rfl (fun ls hl => ?_)
        refine lv_goto hx hb d_Model_test_54 rfl ?_
        exact ih _ (by omega) (s0 + 1) _ _ _ rfl (by omega) (by rw [cntR_no g40]; exact hc0) hP hD hS (lv_sub hl [1, 0, 2, 3, 4, 5, 6] rfl)
      · skip
        exact absurd g40 (by rw [g18]; decide)
    · skip
      refine lv_iload hx hb d_Model_test_21 (lv_at hl 0 rfl) ?_
      refine pl_if_le X (by omega) d_Model_test_23 rfl (fun g23 => ?_) (fun g23 => ?_)
      · skip
        refine lv_bipush (v := nI 8) hx hb d_Model_test_57 (by decide) ?_
        refine lv_iload hx hb d_Model_test_59 (lv_at hl 1 rfl) ?_
        refine pl_imul X d_Model_test_61 (z := nI (s0 * 8)) (pk_mulC _ _) ?_
        refine lv_iload_n hx hb d_Model_test_62 rfl (lv_at hl 3 rfl) ?_
        refine pl_iadd X d_Model_test_63 (z := nI (s0 * 8 + t)) (nI_add _ _) ?_
        refine lv_istore hx hb d_Model_test_64 hl (by decide) (lv' := [(7, .int (nI (s0 * 8 + t))), (6, .int (nI (k0 - cntR th t s0))), (5, .int (nI s0)), (0, .ref m0), (1, .int (nI t)), (2, .int (nI k0)), (3, .int (nI 9)), (4, .int (nI z))]) rfl (fun ls hl => ?_)
        refine lv_iload hx hb d_Model_test_66 (lv_at hl 7 rfl) ?_
        refine lv_bipush (v := nI 16) hx hb d_Model_test_68 (by decide) ?_
        refine lv_aload_n hx hb d_Model_test_70 rfl (lv_at hl 3 rfl) ?_
        refine lv_iload_n hx hb d_Model_test_71 rfl (lv_at hl 4 rfl) ?_
        refine pl_callVI X (rest := [.int (nI 16), .int (nI z)]) (As := [.int (nI t)]) (b := m0) (c_Model_testsOf l D cI cZ cL m0 o1 o2 o3 o4 o5 o6 o7 o8 o9 o10 o11 P K Hm ru lo hi tm sa ca ta tn fo1 fk1 co np n stat how pl la stt q dn th t hn ht hru) ck_Model_85 pl_E0_ok trivial hK hP hD hS hA (T := F_Model) (N := N_Model) (ci := 6) rfl 0 rfl [0, 1] [2, 3, 4] [3, 4, 0, 1, 2] rfl (by decide) (wr := [(o5, .inl (cI, 32, .inl lo)), (o6, .inl (cI, 32, .inl hi)), (o7, .inl (cI, 32, .inl tm))]) rfl (by decide) (by decide) (wf := fun _ => [(m0, .inr (6, [.int (nI co), .int (nI np), .ref o1, .ref o2, .ref o3, .int (nI n), .ref o4, .ref o5, .ref o6, .ref o7, .int fo1, .int fk1, .int (nI stat), .int (nI how), .int (nI pl), .int (nI la), .int (nI stt), .int (nI q), .ref o8, .ref o9, .int (nI dn), .ref o10, .ref o11])), (o4, .inl (cZ, 32, .inl ru)), (o5, .inl (cI, 32, .inl lo)), (o6, .inl (cI, 32, .inl hi)), (o7, .inl (cI, 32, .inl tm))]) (fun _ => rfl) (by decide) rfl hl.1 rfl (Nat.le_of_ble_eq_true rfl) (by decide) (by decide) d_Model_test_72 (fun r u0 H locs hcq hP hD hS => ?_)
        subst hcq
        refine pl_imul X d_Model_test_75 (z := nI ((cntR th t n) * 16)) (pk_mulC _ _) ?_
        refine pl_iadd X d_Model_test_76 (z := nI (z + (cntR th t n) * 16)) (nI_add _ _) ?_
        refine lv_istore hx hb d_Model_test_77 hl (by decide) (lv' := [(8, .int (nI (z + (cntR th t n) * 16))), (7, .int (nI (s0 * 8 + t))), (6, .int (nI (k0 - cntR th t s0))), (5, .int (nI s0)), (0, .ref m0), (1, .int (nI t)), (2, .int (nI k0)), (3, .int (nI 9)), (4, .int (nI z))]) rfl (fun ls hl => ?_)
        refine lv_iload_n hx hb d_Model_test_79 rfl (lv_at hl 7 rfl) ?_
        refine lv_tableIn hx hb d_Model_test_80 (by decide) (by decide) (off := 168) (by decide) (tgt := 248) rfl ?_
        refine lv_aload_n hx hb d_Model_test_248 rfl (lv_at hl 4 rfl) ?_
        refine lv_iconst (v := nI 0) hx hb d_Model_test_249 (by decide) ?_
        refine lv_aload_n hx hb d_Model_test_250 rfl (lv_at hl 4 rfl) ?_
        refine pl_get X fw_Model_30 hK hP 0 rfl (v := .ref o6) rfl d_Model_test_251 ?_
        refine lv_iload hx hb d_Model_test_254 (lv_at hl 1 rfl) ?_
        refine pl_iald X hK hP 3 0 rfl rfl (s0 * 8 + t) (by omega) (by decide) (z := hi (s0 * 8 + t)) rfl d_Model_test_256 ?_
        refine pl_callVV X (rest := []) (As := [.int (nI 0), .int (hi (s0 * 8 + t))]) (b := m0) (c_Model_set l D cI cZ cL m0 o1 o2 o3 o4 o5 o6 o7 o8 o9 o10 o11 P K Hm ru lo hi tm sa ca ta tn fo1 fk1 co np n stat how pl la stt q dn (nI 0) (hi (s0 * 8 + t))) ck_Model_100 pl_E0_ok trivial hK hP hD hS hA (T := F_Model) (N := N_Model) (ci := 6) rfl 0 rfl [0] [1, 2, 3, 4] [4, 0, 1, 2, 3] rfl (by decide) (wr := [(o4, .inl (cZ, 32, .inl ru)), (o5, .inl (cI, 32, .inl lo)), (o6, .inl (cI, 32, .inl hi)), (o7, .inl (cI, 32, .inl tm))]) rfl (by decide) (by decide) (wf := fun _ => [(m0, .inr (6, [.int (nI co), .int (nI np), .ref o1, .ref o2, .ref o3, .int (nI n), .ref o4, .ref o5, .ref o6, .ref o7, .int (nI 0), .int (hi (s0 * 8 + t)), .int (nI stat), .int (nI how), .int (nI pl), .int (nI la), .int (nI stt), .int (nI q), .ref o8, .ref o9, .int (nI dn), .ref o10, .ref o11])), (o4, .inl (cZ, 32, .inl ru)), (o5, .inl (cI, 32, .inl lo)), (o6, .inl (cI, 32, .inl hi)), (o7, .inl (cI, 32, .inl tm))]) (fun _ => rfl) (by decide) rfl hl.1 rfl (Nat.le_of_ble_eq_true rfl) (by decide) (by decide) d_Model_test_257 (fun u0 H locs hcq hP hD hS => ?_)
        refine lv_goto hx hb d_Model_test_260 rfl ?_
        exact pl_vret X hr hlk hK s0 ⟨hsn, rn_yes g18, by omega⟩ hP hD hS d_Model_test_309
      · skip
        refine lv_iload hx hb d_Model_test_26 (lv_at hl 0 rfl) ?_
        refine lv_aload_n hx hb d_Model_test_28 rfl (lv_at hl 2 rfl) ?_
        refine pl_get X fw_Model_23 hK hP 0 rfl (v := .ref o4) rfl d_Model_test_29 ?_
        refine lv_bipush (v := nI 8) hx hb d_Model_test_32 (by decide) ?_
        refine lv_iload hx hb d_Model_test_34 (lv_at hl 1 rfl) ?_
        refine pl_imul X d_Model_test_36 (z := nI (s0 * 8)) (pk_mulC _ _) ?_
        refine lv_iload_n hx hb d_Model_test_37 rfl (lv_at hl 3 rfl) ?_
        refine pl_iadd X d_Model_test_38 (z := nI (s0 * 8 + t)) (nI_add _ _) ?_
        refine pl_zald X hK hP 1 1 rfl rfl (s0 * 8 + t) (by omega) (by decide) (z := bI (decide (¬ th (s0 * 8 + t) = -1))) (hru _ (by omega)).1 d_Model_test_39 ?_
        refine pl_ifB_eq X d_Model_test_40 rfl (fun g40 => ?_) (fun g40 => ?_)
        · skip
          exact absurd g40 (by rw [g18]; decide)
        · skip
          refine lv_iconst (v := nI 1) hx hb d_Model_test_43 (by decide) ?_
          refine lv_goto hx hb d_Model_test_44 rfl ?_
          refine pl_isub X d_Model_test_48 (z := nI (k0 - cntR th t (s0 + 1))) (by rw [cntR_yes g40, pk_sub (by omega)]; rfl) ?_
          refine lv_istore hx hb d_Model_test_49 hl (by decide) (lv' := [(6, .int (nI (k0 - cntR th t (s0 + 1)))), (5, .int (nI s0)), (0, .ref m0), (1, .int (nI t)), (2, .int (nI k0)), (3, .int (nI 9)), (4, .int (nI z))]) rfl (fun ls hl => ?_)
          refine lv_iinc hx hb d_Model_test_51 hl (k := 1) rfl (nI_inc1 _) (by decide) (lv' := [(5, .int (nI (s0 + 1))), (6, .int (nI (k0 - cntR th t (s0 + 1)))), (0, .ref m0), (1, .int (nI t)), (2, .int (nI k0)), (3, .int (nI 9)), (4, .int (nI z))]) rfl (fun ls hl => ?_)
          refine lv_goto hx hb d_Model_test_54 rfl ?_
          exact ih _ (by omega) (s0 + 1) _ _ _ rfl (by omega) (by rw [cntR_yes g40]; omega) hP hD hS (lv_sub hl [1, 0, 2, 3, 4, 5, 6] rfl)
  exact loop_6 _ 0 _ _ _ rfl (Nat.zero_le _) (Nat.zero_le _) hP hD hS hl

set_option maxHeartbeats 4000000 in
set_option maxRecDepth 100000 in
theorem c_Model_test_10 (l : Launch) (D : va_G) (cI cZ cL : ClassId) (m0 o1 o2 o3 o4 o5 o6 o7 o8 o9 o10 o11 : Nat) (P K Hm ru lo hi tm sa ca ta tn : Nat → Int32) (fo1 fk1 : Int32) (co np n stat how pl la stt q dn : Nat) (th : Nat → Int32) (t k0 z : Nat) (hn : n ≤ 4) (ht : t < 8) (hk0 : k0 < cntR th t n) (hz : z ≤ 1600) (hru : rulR ru tm th) : pl_V l y_Model_test b_Model_test 9 ({ frames := 1, cells := 0, slots := 0, locals := 23 } : Room) pl_E0 D classes (TY cI cZ cL) [.ref m0, .int (nI t), .int (nI k0), .int (nI 10), .int (nI z)] [(m0, .inr (6, [.int (nI co), .int (nI np), .ref o1, .ref o2, .ref o3, .int (nI n), .ref o4, .ref o5, .ref o6, .ref o7, .int fo1, .int fk1, .int (nI stat), .int (nI how), .int (nI pl), .int (nI la), .int (nI stt), .int (nI q), .ref o8, .ref o9, .int (nI dn), .ref o10, .ref o11])), (o4, .inl (cZ, 32, .inl ru)), (o5, .inl (cI, 32, .inl lo)), (o6, .inl (cI, 32, .inl hi)), (o7, .inl (cI, 32, .inl tm))] (fun u : Nat => u < n ∧ ¬ th (u * 8 + t) = -1 ∧ cntR th t u = k0) (fun (u : Nat) => [(m0, .inr (6, [.int (nI co), .int (nI np), .ref o1, .ref o2, .ref o3, .int (nI n), .ref o4, .ref o5, .ref o6, .ref o7, .int (nI 10), .int (nI 0), .int (nI stat), .int (nI how), .int (nI pl), .int (nI la), .int (nI stt), .int (nI q), .ref o8, .ref o9, .int (nI dn), .ref o10, .ref o11])), (o4, .inl (cZ, 32, .inl ru)), (o5, .inl (cI, 32, .inl lo)), (o6, .inl (cI, 32, .inl hi)), (o7, .inl (cI, 32, .inl tm))]) := by
  refine pl_startV (by decide) (Nat.le_of_ble_eq_true rfl) ?_
  intro p e s m args below meth c A ls X hr hlk hin hK hP hD hS hA hE hl
  have X : CallFix p m c b_Model_test 9 s args TG R_Model := X
  have hx := X.1
  have hb := X.2.1
  have hl : lv_has ls 9 [(0, .ref m0), (1, .int (nI t)), (2, .int (nI k0)), (3, .int (nI 10)), (4, .int (nI z))] := hl
  have hcn := cntR_le th t n
  refine lv_iconst (v := nI 0) hx hb d_Model_test_0 (by decide) ?_
  refine lv_istore hx hb d_Model_test_1 hl (by decide) (lv' := [(5, .int (nI 0)), (0, .ref m0), (1, .int (nI t)), (2, .int (nI k0)), (3, .int (nI 10)), (4, .int (nI z))]) rfl (fun ls hl => ?_)
  refine lv_iload_n hx hb d_Model_test_3 rfl (lv_at hl 3 rfl) ?_
  refine lv_istore hx hb d_Model_test_4 hl (by decide) (lv' := [(6, .int (nI k0)), (5, .int (nI 0)), (0, .ref m0), (1, .int (nI t)), (2, .int (nI k0)), (3, .int (nI 10)), (4, .int (nI z))]) rfl (fun ls hl => ?_)
  have loop_6 : ∀ (k : Nat) (s0 : Nat) (H : Heap) (locs : List Loc) (ls : Array Slot), n - s0 = k → (s0 ≤ n) → (cntR th t s0 ≤ k0) → va_P D classes [(m0, .inr (6, [.int (nI co), .int (nI np), .ref o1, .ref o2, .ref o3, .int (nI n), .ref o4, .ref o5, .ref o6, .ref o7, .int fo1, .int fk1, .int (nI stat), .int (nI how), .int (nI pl), .int (nI la), .int (nI stt), .int (nI q), .ref o8, .ref o9, .int (nI dn), .ref o10, .ref o11])), (o4, .inl (cZ, 32, .inl ru)), (o5, .inl (cI, 32, .inl lo)), (o6, .inl (cI, 32, .inl hi)), (o7, .inl (cI, 32, .inl tm))] H → va_D A [(m0, .inr (6, [.int (nI co), .int (nI np), .ref o1, .ref o2, .ref o3, .int (nI n), .ref o4, .ref o5, .ref o6, .ref o7, .int fo1, .int fk1, .int (nI stat), .int (nI how), .int (nI pl), .int (nI la), .int (nI stt), .int (nI q), .ref o8, .ref o9, .int (nI dn), .ref o10, .ref o11])), (o4, .inl (cZ, 32, .inl ru)), (o5, .inl (cI, 32, .inl lo)), (o6, .inl (cI, 32, .inl hi)), (o7, .inl (cI, 32, .inl tm))] → va_S A s.heap H locs → lv_has ls 9 [(6, .int (nI (k0 - cntR th t s0))), (5, .int (nI s0)), (0, .ref m0), (1, .int (nI t)), (2, .int (nI k0)), (3, .int (nI 10)), (4, .int (nI z))] → W p l e ({ frames := 1, cells := 0, slots := 0, locals := 23 } : Room) s m args below meth c H locs 0 0 (MQ below (va_Qv (fun u : Nat => u < n ∧ ¬ th (u * 8 + t) = -1 ∧ cntR th t u = k0) (fun u => pl_out D classes (TY cI cZ cL) A ((fun (u : Nat) => [(m0, .inr (6, [.int (nI co), .int (nI np), .ref o1, .ref o2, .ref o3, .int (nI n), .ref o4, .ref o5, .ref o6, .ref o7, .int (nI 10), .int (nI 0), .int (nI stat), .int (nI how), .int (nI pl), .int (nI la), .int (nI stt), .int (nI q), .ref o8, .ref o9, .int (nI dn), .ref o10, .ref o11])), (o4, .inl (cZ, 32, .inl ru)), (o5, .inl (cI, 32, .inl lo)), (o6, .inl (cI, 32, .inl hi)), (o7, .inl (cI, 32, .inl tm))]) u)) A) args s 0 0 A) (F0 m 6 ls []) := by
    intro k
    induction k using Nat.strongRecOn with
    | _ k ih =>
    intro s0 H locs ls hk hs0 hc0 hP hD hS hl
    have hsn : s0 < n := by rcases Nat.lt_or_eq_of_le hs0 with q | q; exact q; (rw [q] at hc0; omega)
    refine lv_aload_n hx hb d_Model_test_6 rfl (lv_at hl 2 rfl) ?_
    refine pl_get X fw_Model_23 hK hP 0 rfl (v := .ref o4) rfl d_Model_test_7 ?_
    refine lv_bipush (v := nI 8) hx hb d_Model_test_10 (by decide) ?_
    refine lv_iload hx hb d_Model_test_12 (lv_at hl 1 rfl) ?_
    refine pl_imul X d_Model_test_14 (z := nI (s0 * 8)) (pk_mulC _ _) ?_
    refine lv_iload_n hx hb d_Model_test_15 rfl (lv_at hl 3 rfl) ?_
    refine pl_iadd X d_Model_test_16 (z := nI (s0 * 8 + t)) (nI_add _ _) ?_
    refine pl_zald X hK hP 1 1 rfl rfl (s0 * 8 + t) (by omega) (by decide) (z := bI (decide (¬ th (s0 * 8 + t) = -1))) (hru _ (by omega)).1 d_Model_test_17 ?_
    refine pl_ifB_eq X d_Model_test_18 rfl (fun g18 => ?_) (fun g18 => ?_)
    · skip
      refine lv_iload hx hb d_Model_test_26 (lv_at hl 0 rfl) ?_
      refine lv_aload_n hx hb d_Model_test_28 rfl (lv_at hl 2 rfl) ?_
      refine pl_get X fw_Model_23 hK hP 0 rfl (v := .ref o4) rfl d_Model_test_29 ?_
      refine lv_bipush (v := nI 8) hx hb d_Model_test_32 (by decide) ?_
      refine lv_iload hx hb d_Model_test_34 (lv_at hl 1 rfl) ?_
      refine pl_imul X d_Model_test_36 (z := nI (s0 * 8)) (pk_mulC _ _) ?_
      refine lv_iload_n hx hb d_Model_test_37 rfl (lv_at hl 3 rfl) ?_
      refine pl_iadd X d_Model_test_38 (z := nI (s0 * 8 + t)) (nI_add _ _) ?_
      refine pl_zald X hK hP 1 1 rfl rfl (s0 * 8 + t) (by omega) (by decide) (z := bI (decide (¬ th (s0 * 8 + t) = -1))) (hru _ (by omega)).1 d_Model_test_39 ?_
      refine pl_ifB_eq X d_Model_test_40 rfl (fun g40 => ?_) (fun g40 => ?_)
      · skip
        refine lv_iconst (v := nI 0) hx hb d_Model_test_47 (by decide) ?_
        refine pl_isub X d_Model_test_48 (z := nI (k0 - cntR th t (s0 + 1))) (by rw [cntR_no g40, pk_sub (by omega)]; rfl) ?_
        refine lv_istore hx hb d_Model_test_49 hl (by decide) (lv' := [(6, .int (nI (k0 - cntR th t (s0 + 1)))), (5, .int (nI s0)), (0, .ref m0), (1, .int (nI t)), (2, .int (nI k0)), (3, .int (nI 10)), (4, .int (nI z))]) rfl (fun ls hl => ?_)
        refine lv_iinc hx hb d_Model_test_51 hl (k := 1) rfl (nI_inc1 _) (by decide) (lv' := [(5, .int (nI (s0 + 1))), (6, .int (nI (k0 - cntR th t (s0 + 1)))), (0, .ref m0), (1, .int (nI t)), (2, .int (nI k0)), (3, .int (nI 10)), (4, .int (nI z))]) rfl (fun ls hl => ?_)
        refine lv_goto hx hb d_Model_test_54 rfl ?_
        exact ih _ (by omega) (s0 + 1) _ _ _ rfl (by omega) (by rw [cntR_no g40]; exact hc0) hP hD hS (lv_sub hl [1, 0, 2, 3, 4, 5, 6] rfl)
      · skip
        exact absurd g40 (by rw [g18]; decide)
    · skip
      refine lv_iload hx hb d_Model_test_21 (lv_at hl 0 rfl) ?_
      refine pl_if_le X (by omega) d_Model_test_23 rfl (fun g23 => ?_) (fun g23 => ?_)
      · skip
        refine lv_bipush (v := nI 8) hx hb d_Model_test_57 (by decide) ?_
        refine lv_iload hx hb d_Model_test_59 (lv_at hl 1 rfl) ?_
        refine pl_imul X d_Model_test_61 (z := nI (s0 * 8)) (pk_mulC _ _) ?_
        refine lv_iload_n hx hb d_Model_test_62 rfl (lv_at hl 3 rfl) ?_
        refine pl_iadd X d_Model_test_63 (z := nI (s0 * 8 + t)) (nI_add _ _) ?_
        refine lv_istore hx hb d_Model_test_64 hl (by decide) (lv' := [(7, .int (nI (s0 * 8 + t))), (6, .int (nI (k0 - cntR th t s0))), (5, .int (nI s0)), (0, .ref m0), (1, .int (nI t)), (2, .int (nI k0)), (3, .int (nI 10)), (4, .int (nI z))]) rfl (fun ls hl => ?_)
        refine lv_iload hx hb d_Model_test_66 (lv_at hl 7 rfl) ?_
        refine lv_bipush (v := nI 16) hx hb d_Model_test_68 (by decide) ?_
        refine lv_aload_n hx hb d_Model_test_70 rfl (lv_at hl 3 rfl) ?_
        refine lv_iload_n hx hb d_Model_test_71 rfl (lv_at hl 4 rfl) ?_
        refine pl_callVI X (rest := [.int (nI 16), .int (nI z)]) (As := [.int (nI t)]) (b := m0) (c_Model_testsOf l D cI cZ cL m0 o1 o2 o3 o4 o5 o6 o7 o8 o9 o10 o11 P K Hm ru lo hi tm sa ca ta tn fo1 fk1 co np n stat how pl la stt q dn th t hn ht hru) ck_Model_85 pl_E0_ok trivial hK hP hD hS hA (T := F_Model) (N := N_Model) (ci := 6) rfl 0 rfl [0, 1] [2, 3, 4] [3, 4, 0, 1, 2] rfl (by decide) (wr := [(o5, .inl (cI, 32, .inl lo)), (o6, .inl (cI, 32, .inl hi)), (o7, .inl (cI, 32, .inl tm))]) rfl (by decide) (by decide) (wf := fun _ => [(m0, .inr (6, [.int (nI co), .int (nI np), .ref o1, .ref o2, .ref o3, .int (nI n), .ref o4, .ref o5, .ref o6, .ref o7, .int fo1, .int fk1, .int (nI stat), .int (nI how), .int (nI pl), .int (nI la), .int (nI stt), .int (nI q), .ref o8, .ref o9, .int (nI dn), .ref o10, .ref o11])), (o4, .inl (cZ, 32, .inl ru)), (o5, .inl (cI, 32, .inl lo)), (o6, .inl (cI, 32, .inl hi)), (o7, .inl (cI, 32, .inl tm))]) (fun _ => rfl) (by decide) rfl hl.1 rfl (Nat.le_of_ble_eq_true rfl) (by decide) (by decide) d_Model_test_72 (fun r u0 H locs hcq hP hD hS => ?_)
        subst hcq
        refine pl_imul X d_Model_test_75 (z := nI ((cntR th t n) * 16)) (pk_mulC _ _) ?_
        refine pl_iadd X d_Model_test_76 (z := nI (z + (cntR th t n) * 16)) (nI_add _ _) ?_
        refine lv_istore hx hb d_Model_test_77 hl (by decide) (lv' := [(8, .int (nI (z + (cntR th t n) * 16))), (7, .int (nI (s0 * 8 + t))), (6, .int (nI (k0 - cntR th t s0))), (5, .int (nI s0)), (0, .ref m0), (1, .int (nI t)), (2, .int (nI k0)), (3, .int (nI 10)), (4, .int (nI z))]) rfl (fun ls hl => ?_)
        refine lv_iload_n hx hb d_Model_test_79 rfl (lv_at hl 7 rfl) ?_
        refine lv_tableIn hx hb d_Model_test_80 (by decide) (by decide) (off := 183) (by decide) (tgt := 263) rfl ?_
        refine lv_aload_n hx hb d_Model_test_263 rfl (lv_at hl 4 rfl) ?_
        refine lv_bipush (v := nI 10) hx hb d_Model_test_264 (by decide) ?_
        refine lv_iconst (v := nI 0) hx hb d_Model_test_266 (by decide) ?_
        refine pl_callVV X (rest := []) (As := [.int (nI 10), .int (nI 0)]) (b := m0) (c_Model_set l D cI cZ cL m0 o1 o2 o3 o4 o5 o6 o7 o8 o9 o10 o11 P K Hm ru lo hi tm sa ca ta tn fo1 fk1 co np n stat how pl la stt q dn (nI 10) (nI 0)) ck_Model_100 pl_E0_ok trivial hK hP hD hS hA (T := F_Model) (N := N_Model) (ci := 6) rfl 0 rfl [0] [1, 2, 3, 4] [4, 0, 1, 2, 3] rfl (by decide) (wr := [(o4, .inl (cZ, 32, .inl ru)), (o5, .inl (cI, 32, .inl lo)), (o6, .inl (cI, 32, .inl hi)), (o7, .inl (cI, 32, .inl tm))]) rfl (by decide) (by decide) (wf := fun _ => [(m0, .inr (6, [.int (nI co), .int (nI np), .ref o1, .ref o2, .ref o3, .int (nI n), .ref o4, .ref o5, .ref o6, .ref o7, .int (nI 10), .int (nI 0), .int (nI stat), .int (nI how), .int (nI pl), .int (nI la), .int (nI stt), .int (nI q), .ref o8, .ref o9, .int (nI dn), .ref o10, .ref o11])), (o4, .inl (cZ, 32, .inl ru)), (o5, .inl (cI, 32, .inl lo)), (o6, .inl (cI, 32, .inl hi)), (o7, .inl (cI, 32, .inl tm))]) (fun _ => rfl) (by decide) rfl hl.1 rfl (Nat.le_of_ble_eq_true rfl) (by decide) (by decide) d_Model_test_267 (fun u0 H locs hcq hP hD hS => ?_)
        refine lv_goto hx hb d_Model_test_270 rfl ?_
        exact pl_vret X hr hlk hK s0 ⟨hsn, rn_yes g18, by omega⟩ hP hD hS d_Model_test_309
      · skip
        refine lv_iload hx hb d_Model_test_26 (lv_at hl 0 rfl) ?_
        refine lv_aload_n hx hb d_Model_test_28 rfl (lv_at hl 2 rfl) ?_
        refine pl_get X fw_Model_23 hK hP 0 rfl (v := .ref o4) rfl d_Model_test_29 ?_
        refine lv_bipush (v := nI 8) hx hb d_Model_test_32 (by decide) ?_
        refine lv_iload hx hb d_Model_test_34 (lv_at hl 1 rfl) ?_
        refine pl_imul X d_Model_test_36 (z := nI (s0 * 8)) (pk_mulC _ _) ?_
        refine lv_iload_n hx hb d_Model_test_37 rfl (lv_at hl 3 rfl) ?_
        refine pl_iadd X d_Model_test_38 (z := nI (s0 * 8 + t)) (nI_add _ _) ?_
        refine pl_zald X hK hP 1 1 rfl rfl (s0 * 8 + t) (by omega) (by decide) (z := bI (decide (¬ th (s0 * 8 + t) = -1))) (hru _ (by omega)).1 d_Model_test_39 ?_
        refine pl_ifB_eq X d_Model_test_40 rfl (fun g40 => ?_) (fun g40 => ?_)
        · skip
          exact absurd g40 (by rw [g18]; decide)
        · skip
          refine lv_iconst (v := nI 1) hx hb d_Model_test_43 (by decide) ?_
          refine lv_goto hx hb d_Model_test_44 rfl ?_
          refine pl_isub X d_Model_test_48 (z := nI (k0 - cntR th t (s0 + 1))) (by rw [cntR_yes g40, pk_sub (by omega)]; rfl) ?_
          refine lv_istore hx hb d_Model_test_49 hl (by decide) (lv' := [(6, .int (nI (k0 - cntR th t (s0 + 1)))), (5, .int (nI s0)), (0, .ref m0), (1, .int (nI t)), (2, .int (nI k0)), (3, .int (nI 10)), (4, .int (nI z))]) rfl (fun ls hl => ?_)
          refine lv_iinc hx hb d_Model_test_51 hl (k := 1) rfl (nI_inc1 _) (by decide) (lv' := [(5, .int (nI (s0 + 1))), (6, .int (nI (k0 - cntR th t (s0 + 1)))), (0, .ref m0), (1, .int (nI t)), (2, .int (nI k0)), (3, .int (nI 10)), (4, .int (nI z))]) rfl (fun ls hl => ?_)
          refine lv_goto hx hb d_Model_test_54 rfl ?_
          exact ih _ (by omega) (s0 + 1) _ _ _ rfl (by omega) (by rw [cntR_yes g40]; omega) hP hD hS (lv_sub hl [1, 0, 2, 3, 4, 5, 6] rfl)
  exact loop_6 _ 0 _ _ _ rfl (Nat.zero_le _) (Nat.zero_le _) hP hD hS hl

set_option maxHeartbeats 4000000 in
set_option maxRecDepth 100000 in
theorem c_Model_test_11 (l : Launch) (D : va_G) (cI cZ cL : ClassId) (m0 o1 o2 o3 o4 o5 o6 o7 o8 o9 o10 o11 : Nat) (P K Hm ru lo hi tm sa ca ta tn : Nat → Int32) (fo1 fk1 : Int32) (co np n stat how pl la stt q dn : Nat) (th : Nat → Int32) (t k0 z : Nat) (hn : n ≤ 4) (ht : t < 8) (hk0 : k0 < cntR th t n) (hz : z ≤ 1600) (hru : rulR ru tm th) : pl_V l y_Model_test b_Model_test 9 ({ frames := 1, cells := 0, slots := 0, locals := 23 } : Room) pl_E0 D classes (TY cI cZ cL) [.ref m0, .int (nI t), .int (nI k0), .int (nI 11), .int (nI z)] [(m0, .inr (6, [.int (nI co), .int (nI np), .ref o1, .ref o2, .ref o3, .int (nI n), .ref o4, .ref o5, .ref o6, .ref o7, .int fo1, .int fk1, .int (nI stat), .int (nI how), .int (nI pl), .int (nI la), .int (nI stt), .int (nI q), .ref o8, .ref o9, .int (nI dn), .ref o10, .ref o11])), (o4, .inl (cZ, 32, .inl ru)), (o5, .inl (cI, 32, .inl lo)), (o6, .inl (cI, 32, .inl hi)), (o7, .inl (cI, 32, .inl tm))] (fun u : Nat => u < n ∧ ¬ th (u * 8 + t) = -1 ∧ cntR th t u = k0) (fun (u : Nat) => [(m0, .inr (6, [.int (nI co), .int (nI np), .ref o1, .ref o2, .ref o3, .int (nI n), .ref o4, .ref o5, .ref o6, .ref o7, .int (nI 4), .int (nI 0), .int (nI stat), .int (nI how), .int (nI pl), .int (nI la), .int (nI stt), .int (nI q), .ref o8, .ref o9, .int (nI dn), .ref o10, .ref o11])), (o4, .inl (cZ, 32, .inl ru)), (o5, .inl (cI, 32, .inl lo)), (o6, .inl (cI, 32, .inl hi)), (o7, .inl (cI, 32, .inl tm))]) := by
  refine pl_startV (by decide) (Nat.le_of_ble_eq_true rfl) ?_
  intro p e s m args below meth c A ls X hr hlk hin hK hP hD hS hA hE hl
  have X : CallFix p m c b_Model_test 9 s args TG R_Model := X
  have hx := X.1
  have hb := X.2.1
  have hl : lv_has ls 9 [(0, .ref m0), (1, .int (nI t)), (2, .int (nI k0)), (3, .int (nI 11)), (4, .int (nI z))] := hl
  have hcn := cntR_le th t n
  refine lv_iconst (v := nI 0) hx hb d_Model_test_0 (by decide) ?_
  refine lv_istore hx hb d_Model_test_1 hl (by decide) (lv' := [(5, .int (nI 0)), (0, .ref m0), (1, .int (nI t)), (2, .int (nI k0)), (3, .int (nI 11)), (4, .int (nI z))]) rfl (fun ls hl => ?_)
  refine lv_iload_n hx hb d_Model_test_3 rfl (lv_at hl 3 rfl) ?_
  refine lv_istore hx hb d_Model_test_4 hl (by decide) (lv' := [(6, .int (nI k0)), (5, .int (nI 0)), (0, .ref m0), (1, .int (nI t)), (2, .int (nI k0)), (3, .int (nI 11)), (4, .int (nI z))]) rfl (fun ls hl => ?_)
  have loop_6 : ∀ (k : Nat) (s0 : Nat) (H : Heap) (locs : List Loc) (ls : Array Slot), n - s0 = k → (s0 ≤ n) → (cntR th t s0 ≤ k0) → va_P D classes [(m0, .inr (6, [.int (nI co), .int (nI np), .ref o1, .ref o2, .ref o3, .int (nI n), .ref o4, .ref o5, .ref o6, .ref o7, .int fo1, .int fk1, .int (nI stat), .int (nI how), .int (nI pl), .int (nI la), .int (nI stt), .int (nI q), .ref o8, .ref o9, .int (nI dn), .ref o10, .ref o11])), (o4, .inl (cZ, 32, .inl ru)), (o5, .inl (cI, 32, .inl lo)), (o6, .inl (cI, 32, .inl hi)), (o7, .inl (cI, 32, .inl tm))] H → va_D A [(m0, .inr (6, [.int (nI co), .int (nI np), .ref o1, .ref o2, .ref o3, .int (nI n), .ref o4, .ref o5, .ref o6, .ref o7, .int fo1, .int fk1, .int (nI stat), .int (nI how), .int (nI pl), .int (nI la), .int (nI stt), .int (nI q), .ref o8, .ref o9, .int (nI dn), .ref o10, .ref o11])), (o4, .inl (cZ, 32, .inl ru)), (o5, .inl (cI, 32, .inl lo)), (o6, .inl (cI, 32, .inl hi)), (o7, .inl (cI, 32, .inl tm))] → va_S A s.heap H locs → lv_has ls 9 [(6, .int (nI (k0 - cntR th t s0))), (5, .int (nI s0)), (0, .ref m0), (1, .int (nI t)), (2, .int (nI k0)), (3, .int (nI 11)), (4, .int (nI z))] → W p l e ({ frames := 1, cells := 0, slots := 0, locals := 23 } : Room) s m args below meth c H locs 0 0 (MQ below (va_Qv (fun u : Nat => u < n ∧ ¬ th (u * 8 + t) = -1 ∧ cntR th t u = k0) (fun u => pl_out D classes (TY cI cZ cL) A ((fun (u : Nat) => [(m0, .inr (6, [.int (nI co), .int (nI np), .ref o1, .ref o2, .ref o3, .int (nI n), .ref o4, .ref o5, .ref o6, .ref o7, .int (nI 4), .int (nI 0), .int (nI stat), .int (nI how), .int (nI pl), .int (nI la), .int (nI stt), .int (nI q), .ref o8, .ref o9, .int (nI dn), .ref o10, .ref o11])), (o4, .inl (cZ, 32, .inl ru)), (o5, .inl (cI, 32, .inl lo)), (o6, .inl (cI, 32, .inl hi)), (o7, .inl (cI, 32, .inl tm))]) u)) A) args s 0 0 A) (F0 m 6 ls []) := by
    intro k
    induction k using Nat.strongRecOn with
    | _ k ih =>
    intro s0 H locs ls hk hs0 hc0 hP hD hS hl
    have hsn : s0 < n := by rcases Nat.lt_or_eq_of_le hs0 with q | q; exact q; (rw [q] at hc0; omega)
    refine lv_aload_n hx hb d_Model_test_6 rfl (lv_at hl 2 rfl) ?_
    refine pl_get X fw_Model_23 hK hP 0 rfl (v := .ref o4) rfl d_Model_test_7 ?_
    refine lv_bipush (v := nI 8) hx hb d_Model_test_10 (by decide) ?_
    refine lv_iload hx hb d_Model_test_12 (lv_at hl 1 rfl) ?_
    refine pl_imul X d_Model_test_14 (z := nI (s0 * 8)) (pk_mulC _ _) ?_
    refine lv_iload_n hx hb d_Model_test_15 rfl (lv_at hl 3 rfl) ?_
    refine pl_iadd X d_Model_test_16 (z := nI (s0 * 8 + t)) (nI_add _ _) ?_
    refine pl_zald X hK hP 1 1 rfl rfl (s0 * 8 + t) (by omega) (by decide) (z := bI (decide (¬ th (s0 * 8 + t) = -1))) (hru _ (by omega)).1 d_Model_test_17 ?_
    refine pl_ifB_eq X d_Model_test_18 rfl (fun g18 => ?_) (fun g18 => ?_)
    · skip
      refine lv_iload hx hb d_Model_test_26 (lv_at hl 0 rfl) ?_
      refine lv_aload_n hx hb d_Model_test_28 rfl (lv_at hl 2 rfl) ?_
      refine pl_get X fw_Model_23 hK hP 0 rfl (v := .ref o4) rfl d_Model_test_29 ?_
      refine lv_bipush (v := nI 8) hx hb d_Model_test_32 (by decide) ?_
      refine lv_iload hx hb d_Model_test_34 (lv_at hl 1 rfl) ?_
      refine pl_imul X d_Model_test_36 (z := nI (s0 * 8)) (pk_mulC _ _) ?_
      refine lv_iload_n hx hb d_Model_test_37 rfl (lv_at hl 3 rfl) ?_
      refine pl_iadd X d_Model_test_38 (z := nI (s0 * 8 + t)) (nI_add _ _) ?_
      refine pl_zald X hK hP 1 1 rfl rfl (s0 * 8 + t) (by omega) (by decide) (z := bI (decide (¬ th (s0 * 8 + t) = -1))) (hru _ (by omega)).1 d_Model_test_39 ?_
      refine pl_ifB_eq X d_Model_test_40 rfl (fun g40 => ?_) (fun g40 => ?_)
      · skip
        refine lv_iconst (v := nI 0) hx hb d_Model_test_47 (by decide) ?_
        refine pl_isub X d_Model_test_48 (z := nI (k0 - cntR th t (s0 + 1))) (by rw [cntR_no g40, pk_sub (by omega)]; rfl) ?_
        refine lv_istore hx hb d_Model_test_49 hl (by decide) (lv' := [(6, .int (nI (k0 - cntR th t (s0 + 1)))), (5, .int (nI s0)), (0, .ref m0), (1, .int (nI t)), (2, .int (nI k0)), (3, .int (nI 11)), (4, .int (nI z))]) rfl (fun ls hl => ?_)
        refine lv_iinc hx hb d_Model_test_51 hl (k := 1) rfl (nI_inc1 _) (by decide) (lv' := [(5, .int (nI (s0 + 1))), (6, .int (nI (k0 - cntR th t (s0 + 1)))), (0, .ref m0), (1, .int (nI t)), (2, .int (nI k0)), (3, .int (nI 11)), (4, .int (nI z))]) rfl (fun ls hl => ?_)
        refine lv_goto hx hb d_Model_test_54 rfl ?_
        exact ih _ (by omega) (s0 + 1) _ _ _ rfl (by omega) (by rw [cntR_no g40]; exact hc0) hP hD hS (lv_sub hl [1, 0, 2, 3, 4, 5, 6] rfl)
      · skip
        exact absurd g40 (by rw [g18]; decide)
    · skip
      refine lv_iload hx hb d_Model_test_21 (lv_at hl 0 rfl) ?_
      refine pl_if_le X (by omega) d_Model_test_23 rfl (fun g23 => ?_) (fun g23 => ?_)
      · skip
        refine lv_bipush (v := nI 8) hx hb d_Model_test_57 (by decide) ?_
        refine lv_iload hx hb d_Model_test_59 (lv_at hl 1 rfl) ?_
        refine pl_imul X d_Model_test_61 (z := nI (s0 * 8)) (pk_mulC _ _) ?_
        refine lv_iload_n hx hb d_Model_test_62 rfl (lv_at hl 3 rfl) ?_
        refine pl_iadd X d_Model_test_63 (z := nI (s0 * 8 + t)) (nI_add _ _) ?_
        refine lv_istore hx hb d_Model_test_64 hl (by decide) (lv' := [(7, .int (nI (s0 * 8 + t))), (6, .int (nI (k0 - cntR th t s0))), (5, .int (nI s0)), (0, .ref m0), (1, .int (nI t)), (2, .int (nI k0)), (3, .int (nI 11)), (4, .int (nI z))]) rfl (fun ls hl => ?_)
        refine lv_iload hx hb d_Model_test_66 (lv_at hl 7 rfl) ?_
        refine lv_bipush (v := nI 16) hx hb d_Model_test_68 (by decide) ?_
        refine lv_aload_n hx hb d_Model_test_70 rfl (lv_at hl 3 rfl) ?_
        refine lv_iload_n hx hb d_Model_test_71 rfl (lv_at hl 4 rfl) ?_
        refine pl_callVI X (rest := [.int (nI 16), .int (nI z)]) (As := [.int (nI t)]) (b := m0) (c_Model_testsOf l D cI cZ cL m0 o1 o2 o3 o4 o5 o6 o7 o8 o9 o10 o11 P K Hm ru lo hi tm sa ca ta tn fo1 fk1 co np n stat how pl la stt q dn th t hn ht hru) ck_Model_85 pl_E0_ok trivial hK hP hD hS hA (T := F_Model) (N := N_Model) (ci := 6) rfl 0 rfl [0, 1] [2, 3, 4] [3, 4, 0, 1, 2] rfl (by decide) (wr := [(o5, .inl (cI, 32, .inl lo)), (o6, .inl (cI, 32, .inl hi)), (o7, .inl (cI, 32, .inl tm))]) rfl (by decide) (by decide) (wf := fun _ => [(m0, .inr (6, [.int (nI co), .int (nI np), .ref o1, .ref o2, .ref o3, .int (nI n), .ref o4, .ref o5, .ref o6, .ref o7, .int fo1, .int fk1, .int (nI stat), .int (nI how), .int (nI pl), .int (nI la), .int (nI stt), .int (nI q), .ref o8, .ref o9, .int (nI dn), .ref o10, .ref o11])), (o4, .inl (cZ, 32, .inl ru)), (o5, .inl (cI, 32, .inl lo)), (o6, .inl (cI, 32, .inl hi)), (o7, .inl (cI, 32, .inl tm))]) (fun _ => rfl) (by decide) rfl hl.1 rfl (Nat.le_of_ble_eq_true rfl) (by decide) (by decide) d_Model_test_72 (fun r u0 H locs hcq hP hD hS => ?_)
        subst hcq
        refine pl_imul X d_Model_test_75 (z := nI ((cntR th t n) * 16)) (pk_mulC _ _) ?_
        refine pl_iadd X d_Model_test_76 (z := nI (z + (cntR th t n) * 16)) (nI_add _ _) ?_
        refine lv_istore hx hb d_Model_test_77 hl (by decide) (lv' := [(8, .int (nI (z + (cntR th t n) * 16))), (7, .int (nI (s0 * 8 + t))), (6, .int (nI (k0 - cntR th t s0))), (5, .int (nI s0)), (0, .ref m0), (1, .int (nI t)), (2, .int (nI k0)), (3, .int (nI 11)), (4, .int (nI z))]) rfl (fun ls hl => ?_)
        refine lv_iload_n hx hb d_Model_test_79 rfl (lv_at hl 7 rfl) ?_
        refine lv_tableIn hx hb d_Model_test_80 (by decide) (by decide) (off := 148) (by decide) (tgt := 228) rfl ?_
        refine lv_aload_n hx hb d_Model_test_228 rfl (lv_at hl 4 rfl) ?_
        refine lv_iconst (v := nI 4) hx hb d_Model_test_229 (by decide) ?_
        refine lv_iconst (v := nI 0) hx hb d_Model_test_230 (by decide) ?_
        refine pl_callVV X (rest := []) (As := [.int (nI 4), .int (nI 0)]) (b := m0) (c_Model_set l D cI cZ cL m0 o1 o2 o3 o4 o5 o6 o7 o8 o9 o10 o11 P K Hm ru lo hi tm sa ca ta tn fo1 fk1 co np n stat how pl la stt q dn (nI 4) (nI 0)) ck_Model_100 pl_E0_ok trivial hK hP hD hS hA (T := F_Model) (N := N_Model) (ci := 6) rfl 0 rfl [0] [1, 2, 3, 4] [4, 0, 1, 2, 3] rfl (by decide) (wr := [(o4, .inl (cZ, 32, .inl ru)), (o5, .inl (cI, 32, .inl lo)), (o6, .inl (cI, 32, .inl hi)), (o7, .inl (cI, 32, .inl tm))]) rfl (by decide) (by decide) (wf := fun _ => [(m0, .inr (6, [.int (nI co), .int (nI np), .ref o1, .ref o2, .ref o3, .int (nI n), .ref o4, .ref o5, .ref o6, .ref o7, .int (nI 4), .int (nI 0), .int (nI stat), .int (nI how), .int (nI pl), .int (nI la), .int (nI stt), .int (nI q), .ref o8, .ref o9, .int (nI dn), .ref o10, .ref o11])), (o4, .inl (cZ, 32, .inl ru)), (o5, .inl (cI, 32, .inl lo)), (o6, .inl (cI, 32, .inl hi)), (o7, .inl (cI, 32, .inl tm))]) (fun _ => rfl) (by decide) rfl hl.1 rfl (Nat.le_of_ble_eq_true rfl) (by decide) (by decide) d_Model_test_231 (fun u0 H locs hcq hP hD hS => ?_)
        refine lv_goto hx hb d_Model_test_234 rfl ?_
        exact pl_vret X hr hlk hK s0 ⟨hsn, rn_yes g18, by omega⟩ hP hD hS d_Model_test_309
      · skip
        refine lv_iload hx hb d_Model_test_26 (lv_at hl 0 rfl) ?_
        refine lv_aload_n hx hb d_Model_test_28 rfl (lv_at hl 2 rfl) ?_
        refine pl_get X fw_Model_23 hK hP 0 rfl (v := .ref o4) rfl d_Model_test_29 ?_
        refine lv_bipush (v := nI 8) hx hb d_Model_test_32 (by decide) ?_
        refine lv_iload hx hb d_Model_test_34 (lv_at hl 1 rfl) ?_
        refine pl_imul X d_Model_test_36 (z := nI (s0 * 8)) (pk_mulC _ _) ?_
        refine lv_iload_n hx hb d_Model_test_37 rfl (lv_at hl 3 rfl) ?_
        refine pl_iadd X d_Model_test_38 (z := nI (s0 * 8 + t)) (nI_add _ _) ?_
        refine pl_zald X hK hP 1 1 rfl rfl (s0 * 8 + t) (by omega) (by decide) (z := bI (decide (¬ th (s0 * 8 + t) = -1))) (hru _ (by omega)).1 d_Model_test_39 ?_
        refine pl_ifB_eq X d_Model_test_40 rfl (fun g40 => ?_) (fun g40 => ?_)
        · skip
          exact absurd g40 (by rw [g18]; decide)
        · skip
          refine lv_iconst (v := nI 1) hx hb d_Model_test_43 (by decide) ?_
          refine lv_goto hx hb d_Model_test_44 rfl ?_
          refine pl_isub X d_Model_test_48 (z := nI (k0 - cntR th t (s0 + 1))) (by rw [cntR_yes g40, pk_sub (by omega)]; rfl) ?_
          refine lv_istore hx hb d_Model_test_49 hl (by decide) (lv' := [(6, .int (nI (k0 - cntR th t (s0 + 1)))), (5, .int (nI s0)), (0, .ref m0), (1, .int (nI t)), (2, .int (nI k0)), (3, .int (nI 11)), (4, .int (nI z))]) rfl (fun ls hl => ?_)
          refine lv_iinc hx hb d_Model_test_51 hl (k := 1) rfl (nI_inc1 _) (by decide) (lv' := [(5, .int (nI (s0 + 1))), (6, .int (nI (k0 - cntR th t (s0 + 1)))), (0, .ref m0), (1, .int (nI t)), (2, .int (nI k0)), (3, .int (nI 11)), (4, .int (nI z))]) rfl (fun ls hl => ?_)
          refine lv_goto hx hb d_Model_test_54 rfl ?_
          exact ih _ (by omega) (s0 + 1) _ _ _ rfl (by omega) (by rw [cntR_yes g40]; omega) hP hD hS (lv_sub hl [1, 0, 2, 3, 4, 5, 6] rfl)
  exact loop_6 _ 0 _ _ _ rfl (Nat.zero_le _) (Nat.zero_le _) hP hD hS hl

set_option maxHeartbeats 4000000 in
set_option maxRecDepth 100000 in
theorem c_Model_test_12 (l : Launch) (D : va_G) (cI cZ cL : ClassId) (m0 o1 o2 o3 o4 o5 o6 o7 o8 o9 o10 o11 : Nat) (P K Hm ru lo hi tm sa ca ta tn : Nat → Int32) (fo1 fk1 : Int32) (co np n stat how pl la stt q dn : Nat) (th : Nat → Int32) (t k0 z : Nat) (hn : n ≤ 4) (ht : t < 8) (hk0 : k0 < cntR th t n) (hz : z ≤ 1600) (hru : rulR ru tm th) : pl_V l y_Model_test b_Model_test 9 ({ frames := 1, cells := 0, slots := 0, locals := 23 } : Room) pl_E0 D classes (TY cI cZ cL) [.ref m0, .int (nI t), .int (nI k0), .int (nI 12), .int (nI z)] [(m0, .inr (6, [.int (nI co), .int (nI np), .ref o1, .ref o2, .ref o3, .int (nI n), .ref o4, .ref o5, .ref o6, .ref o7, .int fo1, .int fk1, .int (nI stat), .int (nI how), .int (nI pl), .int (nI la), .int (nI stt), .int (nI q), .ref o8, .ref o9, .int (nI dn), .ref o10, .ref o11])), (o4, .inl (cZ, 32, .inl ru)), (o5, .inl (cI, 32, .inl lo)), (o6, .inl (cI, 32, .inl hi)), (o7, .inl (cI, 32, .inl tm))] (fun u : Nat => u < n ∧ ¬ th (u * 8 + t) = -1 ∧ cntR th t u = k0) (fun (u : Nat) => [(m0, .inr (6, [.int (nI co), .int (nI np), .ref o1, .ref o2, .ref o3, .int (nI n), .ref o4, .ref o5, .ref o6, .ref o7, .int (nI 8), .int (nI (z + cntR th t n * 16)), .int (nI stat), .int (nI how), .int (nI pl), .int (nI la), .int (nI stt), .int (nI q), .ref o8, .ref o9, .int (nI dn), .ref o10, .ref o11])), (o4, .inl (cZ, 32, .inl ru)), (o5, .inl (cI, 32, .inl lo)), (o6, .inl (cI, 32, .inl hi)), (o7, .inl (cI, 32, .inl tm))]) := by
  refine pl_startV (by decide) (Nat.le_of_ble_eq_true rfl) ?_
  intro p e s m args below meth c A ls X hr hlk hin hK hP hD hS hA hE hl
  have X : CallFix p m c b_Model_test 9 s args TG R_Model := X
  have hx := X.1
  have hb := X.2.1
  have hl : lv_has ls 9 [(0, .ref m0), (1, .int (nI t)), (2, .int (nI k0)), (3, .int (nI 12)), (4, .int (nI z))] := hl
  have hcn := cntR_le th t n
  refine lv_iconst (v := nI 0) hx hb d_Model_test_0 (by decide) ?_
  refine lv_istore hx hb d_Model_test_1 hl (by decide) (lv' := [(5, .int (nI 0)), (0, .ref m0), (1, .int (nI t)), (2, .int (nI k0)), (3, .int (nI 12)), (4, .int (nI z))]) rfl (fun ls hl => ?_)
  refine lv_iload_n hx hb d_Model_test_3 rfl (lv_at hl 3 rfl) ?_
  refine lv_istore hx hb d_Model_test_4 hl (by decide) (lv' := [(6, .int (nI k0)), (5, .int (nI 0)), (0, .ref m0), (1, .int (nI t)), (2, .int (nI k0)), (3, .int (nI 12)), (4, .int (nI z))]) rfl (fun ls hl => ?_)
  have loop_6 : ∀ (k : Nat) (s0 : Nat) (H : Heap) (locs : List Loc) (ls : Array Slot), n - s0 = k → (s0 ≤ n) → (cntR th t s0 ≤ k0) → va_P D classes [(m0, .inr (6, [.int (nI co), .int (nI np), .ref o1, .ref o2, .ref o3, .int (nI n), .ref o4, .ref o5, .ref o6, .ref o7, .int fo1, .int fk1, .int (nI stat), .int (nI how), .int (nI pl), .int (nI la), .int (nI stt), .int (nI q), .ref o8, .ref o9, .int (nI dn), .ref o10, .ref o11])), (o4, .inl (cZ, 32, .inl ru)), (o5, .inl (cI, 32, .inl lo)), (o6, .inl (cI, 32, .inl hi)), (o7, .inl (cI, 32, .inl tm))] H → va_D A [(m0, .inr (6, [.int (nI co), .int (nI np), .ref o1, .ref o2, .ref o3, .int (nI n), .ref o4, .ref o5, .ref o6, .ref o7, .int fo1, .int fk1, .int (nI stat), .int (nI how), .int (nI pl), .int (nI la), .int (nI stt), .int (nI q), .ref o8, .ref o9, .int (nI dn), .ref o10, .ref o11])), (o4, .inl (cZ, 32, .inl ru)), (o5, .inl (cI, 32, .inl lo)), (o6, .inl (cI, 32, .inl hi)), (o7, .inl (cI, 32, .inl tm))] → va_S A s.heap H locs → lv_has ls 9 [(6, .int (nI (k0 - cntR th t s0))), (5, .int (nI s0)), (0, .ref m0), (1, .int (nI t)), (2, .int (nI k0)), (3, .int (nI 12)), (4, .int (nI z))] → W p l e ({ frames := 1, cells := 0, slots := 0, locals := 23 } : Room) s m args below meth c H locs 0 0 (MQ below (va_Qv (fun u : Nat => u < n ∧ ¬ th (u * 8 + t) = -1 ∧ cntR th t u = k0) (fun u => pl_out D classes (TY cI cZ cL) A ((fun (u : Nat) => [(m0, .inr (6, [.int (nI co), .int (nI np), .ref o1, .ref o2, .ref o3, .int (nI n), .ref o4, .ref o5, .ref o6, .ref o7, .int (nI 8), .int (nI (z + cntR th t n * 16)), .int (nI stat), .int (nI how), .int (nI pl), .int (nI la), .int (nI stt), .int (nI q), .ref o8, .ref o9, .int (nI dn), .ref o10, .ref o11])), (o4, .inl (cZ, 32, .inl ru)), (o5, .inl (cI, 32, .inl lo)), (o6, .inl (cI, 32, .inl hi)), (o7, .inl (cI, 32, .inl tm))]) u)) A) args s 0 0 A) (F0 m 6 ls []) := by
    intro k
    induction k using Nat.strongRecOn with
    | _ k ih =>
    intro s0 H locs ls hk hs0 hc0 hP hD hS hl
    have hsn : s0 < n := by rcases Nat.lt_or_eq_of_le hs0 with q | q; exact q; (rw [q] at hc0; omega)
    refine lv_aload_n hx hb d_Model_test_6 rfl (lv_at hl 2 rfl) ?_
    refine pl_get X fw_Model_23 hK hP 0 rfl (v := .ref o4) rfl d_Model_test_7 ?_
    refine lv_bipush (v := nI 8) hx hb d_Model_test_10 (by decide) ?_
    refine lv_iload hx hb d_Model_test_12 (lv_at hl 1 rfl) ?_
    refine pl_imul X d_Model_test_14 (z := nI (s0 * 8)) (pk_mulC _ _) ?_
    refine lv_iload_n hx hb d_Model_test_15 rfl (lv_at hl 3 rfl) ?_
    refine pl_iadd X d_Model_test_16 (z := nI (s0 * 8 + t)) (nI_add _ _) ?_
    refine pl_zald X hK hP 1 1 rfl rfl (s0 * 8 + t) (by omega) (by decide) (z := bI (decide (¬ th (s0 * 8 + t) = -1))) (hru _ (by omega)).1 d_Model_test_17 ?_
    refine pl_ifB_eq X d_Model_test_18 rfl (fun g18 => ?_) (fun g18 => ?_)
    · skip
      refine lv_iload hx hb d_Model_test_26 (lv_at hl 0 rfl) ?_
      refine lv_aload_n hx hb d_Model_test_28 rfl (lv_at hl 2 rfl) ?_
      refine pl_get X fw_Model_23 hK hP 0 rfl (v := .ref o4) rfl d_Model_test_29 ?_
      refine lv_bipush (v := nI 8) hx hb d_Model_test_32 (by decide) ?_
      refine lv_iload hx hb d_Model_test_34 (lv_at hl 1 rfl) ?_
      refine pl_imul X d_Model_test_36 (z := nI (s0 * 8)) (pk_mulC _ _) ?_
      refine lv_iload_n hx hb d_Model_test_37 rfl (lv_at hl 3 rfl) ?_
      refine pl_iadd X d_Model_test_38 (z := nI (s0 * 8 + t)) (nI_add _ _) ?_
      refine pl_zald X hK hP 1 1 rfl rfl (s0 * 8 + t) (by omega) (by decide) (z := bI (decide (¬ th (s0 * 8 + t) = -1))) (hru _ (by omega)).1 d_Model_test_39 ?_
      refine pl_ifB_eq X d_Model_test_40 rfl (fun g40 => ?_) (fun g40 => ?_)
      · skip
        refine lv_iconst (v := nI 0) hx hb d_Model_test_47 (by decide) ?_
        refine pl_isub X d_Model_test_48 (z := nI (k0 - cntR th t (s0 + 1))) (by rw [cntR_no g40, pk_sub (by omega)]; rfl) ?_
        refine lv_istore hx hb d_Model_test_49 hl (by decide) (lv' := [(6, .int (nI (k0 - cntR th t (s0 + 1)))), (5, .int (nI s0)), (0, .ref m0), (1, .int (nI t)), (2, .int (nI k0)), (3, .int (nI 12)), (4, .int (nI z))]) rfl (fun ls hl => ?_)
        refine lv_iinc hx hb d_Model_test_51 hl (k := 1) rfl (nI_inc1 _) (by decide) (lv' := [(5, .int (nI (s0 + 1))), (6, .int (nI (k0 - cntR th t (s0 + 1)))), (0, .ref m0), (1, .int (nI t)), (2, .int (nI k0)), (3, .int (nI 12)), (4, .int (nI z))]) rfl (fun ls hl => ?_)
        refine lv_goto hx hb d_Model_test_54 rfl ?_
        exact ih _ (by omega) (s0 + 1) _ _ _ rfl (by omega) (by rw [cntR_no g40]; exact hc0) hP hD hS (lv_sub hl [1, 0, 2, 3, 4, 5, 6] rfl)
      · skip
        exact absurd g40 (by rw [g18]; decide)
    · skip
      refine lv_iload hx hb d_Model_test_21 (lv_at hl 0 rfl) ?_
      refine pl_if_le X (by omega) d_Model_test_23 rfl (fun g23 => ?_) (fun g23 => ?_)
      · skip
        refine lv_bipush (v := nI 8) hx hb d_Model_test_57 (by decide) ?_
        refine lv_iload hx hb d_Model_test_59 (lv_at hl 1 rfl) ?_
        refine pl_imul X d_Model_test_61 (z := nI (s0 * 8)) (pk_mulC _ _) ?_
        refine lv_iload_n hx hb d_Model_test_62 rfl (lv_at hl 3 rfl) ?_
        refine pl_iadd X d_Model_test_63 (z := nI (s0 * 8 + t)) (nI_add _ _) ?_
        refine lv_istore hx hb d_Model_test_64 hl (by decide) (lv' := [(7, .int (nI (s0 * 8 + t))), (6, .int (nI (k0 - cntR th t s0))), (5, .int (nI s0)), (0, .ref m0), (1, .int (nI t)), (2, .int (nI k0)), (3, .int (nI 12)), (4, .int (nI z))]) rfl (fun ls hl => ?_)
        refine lv_iload hx hb d_Model_test_66 (lv_at hl 7 rfl) ?_
        refine lv_bipush (v := nI 16) hx hb d_Model_test_68 (by decide) ?_
        refine lv_aload_n hx hb d_Model_test_70 rfl (lv_at hl 3 rfl) ?_
        refine lv_iload_n hx hb d_Model_test_71 rfl (lv_at hl 4 rfl) ?_
        refine pl_callVI X (rest := [.int (nI 16), .int (nI z)]) (As := [.int (nI t)]) (b := m0) (c_Model_testsOf l D cI cZ cL m0 o1 o2 o3 o4 o5 o6 o7 o8 o9 o10 o11 P K Hm ru lo hi tm sa ca ta tn fo1 fk1 co np n stat how pl la stt q dn th t hn ht hru) ck_Model_85 pl_E0_ok trivial hK hP hD hS hA (T := F_Model) (N := N_Model) (ci := 6) rfl 0 rfl [0, 1] [2, 3, 4] [3, 4, 0, 1, 2] rfl (by decide) (wr := [(o5, .inl (cI, 32, .inl lo)), (o6, .inl (cI, 32, .inl hi)), (o7, .inl (cI, 32, .inl tm))]) rfl (by decide) (by decide) (wf := fun _ => [(m0, .inr (6, [.int (nI co), .int (nI np), .ref o1, .ref o2, .ref o3, .int (nI n), .ref o4, .ref o5, .ref o6, .ref o7, .int fo1, .int fk1, .int (nI stat), .int (nI how), .int (nI pl), .int (nI la), .int (nI stt), .int (nI q), .ref o8, .ref o9, .int (nI dn), .ref o10, .ref o11])), (o4, .inl (cZ, 32, .inl ru)), (o5, .inl (cI, 32, .inl lo)), (o6, .inl (cI, 32, .inl hi)), (o7, .inl (cI, 32, .inl tm))]) (fun _ => rfl) (by decide) rfl hl.1 rfl (Nat.le_of_ble_eq_true rfl) (by decide) (by decide) d_Model_test_72 (fun r u0 H locs hcq hP hD hS => ?_)
        subst hcq
        refine pl_imul X d_Model_test_75 (z := nI ((cntR th t n) * 16)) (pk_mulC _ _) ?_
        refine pl_iadd X d_Model_test_76 (z := nI (z + (cntR th t n) * 16)) (nI_add _ _) ?_
        refine lv_istore hx hb d_Model_test_77 hl (by decide) (lv' := [(8, .int (nI (z + (cntR th t n) * 16))), (7, .int (nI (s0 * 8 + t))), (6, .int (nI (k0 - cntR th t s0))), (5, .int (nI s0)), (0, .ref m0), (1, .int (nI t)), (2, .int (nI k0)), (3, .int (nI 12)), (4, .int (nI z))]) rfl (fun ls hl => ?_)
        refine lv_iload_n hx hb d_Model_test_79 rfl (lv_at hl 7 rfl) ?_
        refine lv_tableIn hx hb d_Model_test_80 (by decide) (by decide) (off := 157) (by decide) (tgt := 237) rfl ?_
        refine lv_aload_n hx hb d_Model_test_237 rfl (lv_at hl 4 rfl) ?_
        refine lv_bipush (v := nI 8) hx hb d_Model_test_238 (by decide) ?_
        refine lv_iload hx hb d_Model_test_240 (lv_at hl 0 rfl) ?_
        refine pl_callVV X (rest := []) (As := [.int (nI 8), .int (nI (z + (cntR th t n) * 16))]) (b := m0) (c_Model_set l D cI cZ cL m0 o1 o2 o3 o4 o5 o6 o7 o8 o9 o10 o11 P K Hm ru lo hi tm sa ca ta tn fo1 fk1 co np n stat how pl la stt q dn (nI 8) (nI (z + (cntR th t n) * 16))) ck_Model_100 pl_E0_ok trivial hK hP hD hS hA (T := F_Model) (N := N_Model) (ci := 6) rfl 0 rfl [0] [1, 2, 3, 4] [4, 0, 1, 2, 3] rfl (by decide) (wr := [(o4, .inl (cZ, 32, .inl ru)), (o5, .inl (cI, 32, .inl lo)), (o6, .inl (cI, 32, .inl hi)), (o7, .inl (cI, 32, .inl tm))]) rfl (by decide) (by decide) (wf := fun _ => [(m0, .inr (6, [.int (nI co), .int (nI np), .ref o1, .ref o2, .ref o3, .int (nI n), .ref o4, .ref o5, .ref o6, .ref o7, .int (nI 8), .int (nI (z + (cntR th t n) * 16)), .int (nI stat), .int (nI how), .int (nI pl), .int (nI la), .int (nI stt), .int (nI q), .ref o8, .ref o9, .int (nI dn), .ref o10, .ref o11])), (o4, .inl (cZ, 32, .inl ru)), (o5, .inl (cI, 32, .inl lo)), (o6, .inl (cI, 32, .inl hi)), (o7, .inl (cI, 32, .inl tm))]) (fun _ => rfl) (by decide) rfl hl.1 rfl (Nat.le_of_ble_eq_true rfl) (by decide) (by decide) d_Model_test_242 (fun u0 H locs hcq hP hD hS => ?_)
        refine lv_goto hx hb d_Model_test_245 rfl ?_
        exact pl_vret X hr hlk hK s0 ⟨hsn, rn_yes g18, by omega⟩ hP hD hS d_Model_test_309
      · skip
        refine lv_iload hx hb d_Model_test_26 (lv_at hl 0 rfl) ?_
        refine lv_aload_n hx hb d_Model_test_28 rfl (lv_at hl 2 rfl) ?_
        refine pl_get X fw_Model_23 hK hP 0 rfl (v := .ref o4) rfl d_Model_test_29 ?_
        refine lv_bipush (v := nI 8) hx hb d_Model_test_32 (by decide) ?_
        refine lv_iload hx hb d_Model_test_34 (lv_at hl 1 rfl) ?_
        refine pl_imul X d_Model_test_36 (z := nI (s0 * 8)) (pk_mulC _ _) ?_
        refine lv_iload_n hx hb d_Model_test_37 rfl (lv_at hl 3 rfl) ?_
        refine pl_iadd X d_Model_test_38 (z := nI (s0 * 8 + t)) (nI_add _ _) ?_
        refine pl_zald X hK hP 1 1 rfl rfl (s0 * 8 + t) (by omega) (by decide) (z := bI (decide (¬ th (s0 * 8 + t) = -1))) (hru _ (by omega)).1 d_Model_test_39 ?_
        refine pl_ifB_eq X d_Model_test_40 rfl (fun g40 => ?_) (fun g40 => ?_)
        · skip
          exact absurd g40 (by rw [g18]; decide)
        · skip
          refine lv_iconst (v := nI 1) hx hb d_Model_test_43 (by decide) ?_
          refine lv_goto hx hb d_Model_test_44 rfl ?_
          refine pl_isub X d_Model_test_48 (z := nI (k0 - cntR th t (s0 + 1))) (by rw [cntR_yes g40, pk_sub (by omega)]; rfl) ?_
          refine lv_istore hx hb d_Model_test_49 hl (by decide) (lv' := [(6, .int (nI (k0 - cntR th t (s0 + 1)))), (5, .int (nI s0)), (0, .ref m0), (1, .int (nI t)), (2, .int (nI k0)), (3, .int (nI 12)), (4, .int (nI z))]) rfl (fun ls hl => ?_)
          refine lv_iinc hx hb d_Model_test_51 hl (k := 1) rfl (nI_inc1 _) (by decide) (lv' := [(5, .int (nI (s0 + 1))), (6, .int (nI (k0 - cntR th t (s0 + 1)))), (0, .ref m0), (1, .int (nI t)), (2, .int (nI k0)), (3, .int (nI 12)), (4, .int (nI z))]) rfl (fun ls hl => ?_)
          refine lv_goto hx hb d_Model_test_54 rfl ?_
          exact ih _ (by omega) (s0 + 1) _ _ _ rfl (by omega) (by rw [cntR_yes g40]; omega) hP hD hS (lv_sub hl [1, 0, 2, 3, 4, 5, 6] rfl)
  exact loop_6 _ 0 _ _ _ rfl (Nat.zero_le _) (Nat.zero_le _) hP hD hS hl

set_option maxHeartbeats 4000000 in
set_option maxRecDepth 100000 in
theorem c_Model_test_13 (l : Launch) (D : va_G) (cI cZ cL : ClassId) (m0 o1 o2 o3 o4 o5 o6 o7 o8 o9 o10 o11 : Nat) (P K Hm ru lo hi tm sa ca ta tn : Nat → Int32) (fo1 fk1 : Int32) (co np n stat how pl la stt q dn : Nat) (th : Nat → Int32) (t k0 z : Nat) (hn : n ≤ 4) (ht : t < 8) (hk0 : k0 < cntR th t n) (hz : z ≤ 1600) (hru : rulR ru tm th) : pl_V l y_Model_test b_Model_test 9 ({ frames := 1, cells := 0, slots := 0, locals := 23 } : Room) pl_E0 D classes (TY cI cZ cL) [.ref m0, .int (nI t), .int (nI k0), .int (nI 13), .int (nI z)] [(m0, .inr (6, [.int (nI co), .int (nI np), .ref o1, .ref o2, .ref o3, .int (nI n), .ref o4, .ref o5, .ref o6, .ref o7, .int fo1, .int fk1, .int (nI stat), .int (nI how), .int (nI pl), .int (nI la), .int (nI stt), .int (nI q), .ref o8, .ref o9, .int (nI dn), .ref o10, .ref o11])), (o4, .inl (cZ, 32, .inl ru)), (o5, .inl (cI, 32, .inl lo)), (o6, .inl (cI, 32, .inl hi)), (o7, .inl (cI, 32, .inl tm))] (fun u : Nat => u < n ∧ ¬ th (u * 8 + t) = -1 ∧ cntR th t u = k0) (fun (u : Nat) => [(m0, .inr (6, [.int (nI co), .int (nI np), .ref o1, .ref o2, .ref o3, .int (nI n), .ref o4, .ref o5, .ref o6, .ref o7, .int (nI 0), .int (tm (u * 8 + t)), .int (nI stat), .int (nI how), .int (nI pl), .int (nI la), .int (nI stt), .int (nI q), .ref o8, .ref o9, .int (nI dn), .ref o10, .ref o11])), (o4, .inl (cZ, 32, .inl ru)), (o5, .inl (cI, 32, .inl lo)), (o6, .inl (cI, 32, .inl hi)), (o7, .inl (cI, 32, .inl tm))]) := by
  refine pl_startV (by decide) (Nat.le_of_ble_eq_true rfl) ?_
  intro p e s m args below meth c A ls X hr hlk hin hK hP hD hS hA hE hl
  have X : CallFix p m c b_Model_test 9 s args TG R_Model := X
  have hx := X.1
  have hb := X.2.1
  have hl : lv_has ls 9 [(0, .ref m0), (1, .int (nI t)), (2, .int (nI k0)), (3, .int (nI 13)), (4, .int (nI z))] := hl
  have hcn := cntR_le th t n
  refine lv_iconst (v := nI 0) hx hb d_Model_test_0 (by decide) ?_
  refine lv_istore hx hb d_Model_test_1 hl (by decide) (lv' := [(5, .int (nI 0)), (0, .ref m0), (1, .int (nI t)), (2, .int (nI k0)), (3, .int (nI 13)), (4, .int (nI z))]) rfl (fun ls hl => ?_)
  refine lv_iload_n hx hb d_Model_test_3 rfl (lv_at hl 3 rfl) ?_
  refine lv_istore hx hb d_Model_test_4 hl (by decide) (lv' := [(6, .int (nI k0)), (5, .int (nI 0)), (0, .ref m0), (1, .int (nI t)), (2, .int (nI k0)), (3, .int (nI 13)), (4, .int (nI z))]) rfl (fun ls hl => ?_)
  have loop_6 : ∀ (k : Nat) (s0 : Nat) (H : Heap) (locs : List Loc) (ls : Array Slot), n - s0 = k → (s0 ≤ n) → (cntR th t s0 ≤ k0) → va_P D classes [(m0, .inr (6, [.int (nI co), .int (nI np), .ref o1, .ref o2, .ref o3, .int (nI n), .ref o4, .ref o5, .ref o6, .ref o7, .int fo1, .int fk1, .int (nI stat), .int (nI how), .int (nI pl), .int (nI la), .int (nI stt), .int (nI q), .ref o8, .ref o9, .int (nI dn), .ref o10, .ref o11])), (o4, .inl (cZ, 32, .inl ru)), (o5, .inl (cI, 32, .inl lo)), (o6, .inl (cI, 32, .inl hi)), (o7, .inl (cI, 32, .inl tm))] H → va_D A [(m0, .inr (6, [.int (nI co), .int (nI np), .ref o1, .ref o2, .ref o3, .int (nI n), .ref o4, .ref o5, .ref o6, .ref o7, .int fo1, .int fk1, .int (nI stat), .int (nI how), .int (nI pl), .int (nI la), .int (nI stt), .int (nI q), .ref o8, .ref o9, .int (nI dn), .ref o10, .ref o11])), (o4, .inl (cZ, 32, .inl ru)), (o5, .inl (cI, 32, .inl lo)), (o6, .inl (cI, 32, .inl hi)), (o7, .inl (cI, 32, .inl tm))] → va_S A s.heap H locs → lv_has ls 9 [(6, .int (nI (k0 - cntR th t s0))), (5, .int (nI s0)), (0, .ref m0), (1, .int (nI t)), (2, .int (nI k0)), (3, .int (nI 13)), (4, .int (nI z))] → W p l e ({ frames := 1, cells := 0, slots := 0, locals := 23 } : Room) s m args below meth c H locs 0 0 (MQ below (va_Qv (fun u : Nat => u < n ∧ ¬ th (u * 8 + t) = -1 ∧ cntR th t u = k0) (fun u => pl_out D classes (TY cI cZ cL) A ((fun (u : Nat) => [(m0, .inr (6, [.int (nI co), .int (nI np), .ref o1, .ref o2, .ref o3, .int (nI n), .ref o4, .ref o5, .ref o6, .ref o7, .int (nI 0), .int (tm (u * 8 + t)), .int (nI stat), .int (nI how), .int (nI pl), .int (nI la), .int (nI stt), .int (nI q), .ref o8, .ref o9, .int (nI dn), .ref o10, .ref o11])), (o4, .inl (cZ, 32, .inl ru)), (o5, .inl (cI, 32, .inl lo)), (o6, .inl (cI, 32, .inl hi)), (o7, .inl (cI, 32, .inl tm))]) u)) A) args s 0 0 A) (F0 m 6 ls []) := by
    intro k
    induction k using Nat.strongRecOn with
    | _ k ih =>
    intro s0 H locs ls hk hs0 hc0 hP hD hS hl
    have hsn : s0 < n := by rcases Nat.lt_or_eq_of_le hs0 with q | q; exact q; (rw [q] at hc0; omega)
    refine lv_aload_n hx hb d_Model_test_6 rfl (lv_at hl 2 rfl) ?_
    refine pl_get X fw_Model_23 hK hP 0 rfl (v := .ref o4) rfl d_Model_test_7 ?_
    refine lv_bipush (v := nI 8) hx hb d_Model_test_10 (by decide) ?_
    refine lv_iload hx hb d_Model_test_12 (lv_at hl 1 rfl) ?_
    refine pl_imul X d_Model_test_14 (z := nI (s0 * 8)) (pk_mulC _ _) ?_
    refine lv_iload_n hx hb d_Model_test_15 rfl (lv_at hl 3 rfl) ?_
    refine pl_iadd X d_Model_test_16 (z := nI (s0 * 8 + t)) (nI_add _ _) ?_
    refine pl_zald X hK hP 1 1 rfl rfl (s0 * 8 + t) (by omega) (by decide) (z := bI (decide (¬ th (s0 * 8 + t) = -1))) (hru _ (by omega)).1 d_Model_test_17 ?_
    refine pl_ifB_eq X d_Model_test_18 rfl (fun g18 => ?_) (fun g18 => ?_)
    · skip
      refine lv_iload hx hb d_Model_test_26 (lv_at hl 0 rfl) ?_
      refine lv_aload_n hx hb d_Model_test_28 rfl (lv_at hl 2 rfl) ?_
      refine pl_get X fw_Model_23 hK hP 0 rfl (v := .ref o4) rfl d_Model_test_29 ?_
      refine lv_bipush (v := nI 8) hx hb d_Model_test_32 (by decide) ?_
      refine lv_iload hx hb d_Model_test_34 (lv_at hl 1 rfl) ?_
      refine pl_imul X d_Model_test_36 (z := nI (s0 * 8)) (pk_mulC _ _) ?_
      refine lv_iload_n hx hb d_Model_test_37 rfl (lv_at hl 3 rfl) ?_
      refine pl_iadd X d_Model_test_38 (z := nI (s0 * 8 + t)) (nI_add _ _) ?_
      refine pl_zald X hK hP 1 1 rfl rfl (s0 * 8 + t) (by omega) (by decide) (z := bI (decide (¬ th (s0 * 8 + t) = -1))) (hru _ (by omega)).1 d_Model_test_39 ?_
      refine pl_ifB_eq X d_Model_test_40 rfl (fun g40 => ?_) (fun g40 => ?_)
      · skip
        refine lv_iconst (v := nI 0) hx hb d_Model_test_47 (by decide) ?_
        refine pl_isub X d_Model_test_48 (z := nI (k0 - cntR th t (s0 + 1))) (by rw [cntR_no g40, pk_sub (by omega)]; rfl) ?_
        refine lv_istore hx hb d_Model_test_49 hl (by decide) (lv' := [(6, .int (nI (k0 - cntR th t (s0 + 1)))), (5, .int (nI s0)), (0, .ref m0), (1, .int (nI t)), (2, .int (nI k0)), (3, .int (nI 13)), (4, .int (nI z))]) rfl (fun ls hl => ?_)
        refine lv_iinc hx hb d_Model_test_51 hl (k := 1) rfl (nI_inc1 _) (by decide) (lv' := [(5, .int (nI (s0 + 1))), (6, .int (nI (k0 - cntR th t (s0 + 1)))), (0, .ref m0), (1, .int (nI t)), (2, .int (nI k0)), (3, .int (nI 13)), (4, .int (nI z))]) rfl (fun ls hl => ?_)
        refine lv_goto hx hb d_Model_test_54 rfl ?_
        exact ih _ (by omega) (s0 + 1) _ _ _ rfl (by omega) (by rw [cntR_no g40]; exact hc0) hP hD hS (lv_sub hl [1, 0, 2, 3, 4, 5, 6] rfl)
      · skip
        exact absurd g40 (by rw [g18]; decide)
    · skip
      refine lv_iload hx hb d_Model_test_21 (lv_at hl 0 rfl) ?_
      refine pl_if_le X (by omega) d_Model_test_23 rfl (fun g23 => ?_) (fun g23 => ?_)
      · skip
        refine lv_bipush (v := nI 8) hx hb d_Model_test_57 (by decide) ?_
        refine lv_iload hx hb d_Model_test_59 (lv_at hl 1 rfl) ?_
        refine pl_imul X d_Model_test_61 (z := nI (s0 * 8)) (pk_mulC _ _) ?_
        refine lv_iload_n hx hb d_Model_test_62 rfl (lv_at hl 3 rfl) ?_
        refine pl_iadd X d_Model_test_63 (z := nI (s0 * 8 + t)) (nI_add _ _) ?_
        refine lv_istore hx hb d_Model_test_64 hl (by decide) (lv' := [(7, .int (nI (s0 * 8 + t))), (6, .int (nI (k0 - cntR th t s0))), (5, .int (nI s0)), (0, .ref m0), (1, .int (nI t)), (2, .int (nI k0)), (3, .int (nI 13)), (4, .int (nI z))]) rfl (fun ls hl => ?_)
        refine lv_iload hx hb d_Model_test_66 (lv_at hl 7 rfl) ?_
        refine lv_bipush (v := nI 16) hx hb d_Model_test_68 (by decide) ?_
        refine lv_aload_n hx hb d_Model_test_70 rfl (lv_at hl 3 rfl) ?_
        refine lv_iload_n hx hb d_Model_test_71 rfl (lv_at hl 4 rfl) ?_
        refine pl_callVI X (rest := [.int (nI 16), .int (nI z)]) (As := [.int (nI t)]) (b := m0) (c_Model_testsOf l D cI cZ cL m0 o1 o2 o3 o4 o5 o6 o7 o8 o9 o10 o11 P K Hm ru lo hi tm sa ca ta tn fo1 fk1 co np n stat how pl la stt q dn th t hn ht hru) ck_Model_85 pl_E0_ok trivial hK hP hD hS hA (T := F_Model) (N := N_Model) (ci := 6) rfl 0 rfl [0, 1] [2, 3, 4] [3, 4, 0, 1, 2] rfl (by decide) (wr := [(o5, .inl (cI, 32, .inl lo)), (o6, .inl (cI, 32, .inl hi)), (o7, .inl (cI, 32, .inl tm))]) rfl (by decide) (by decide) (wf := fun _ => [(m0, .inr (6, [.int (nI co), .int (nI np), .ref o1, .ref o2, .ref o3, .int (nI n), .ref o4, .ref o5, .ref o6, .ref o7, .int fo1, .int fk1, .int (nI stat), .int (nI how), .int (nI pl), .int (nI la), .int (nI stt), .int (nI q), .ref o8, .ref o9, .int (nI dn), .ref o10, .ref o11])), (o4, .inl (cZ, 32, .inl ru)), (o5, .inl (cI, 32, .inl lo)), (o6, .inl (cI, 32, .inl hi)), (o7, .inl (cI, 32, .inl tm))]) (fun _ => rfl) (by decide) rfl hl.1 rfl (Nat.le_of_ble_eq_true rfl) (by decide) (by decide) d_Model_test_72 (fun r u0 H locs hcq hP hD hS => ?_)
        subst hcq
        refine pl_imul X d_Model_test_75 (z := nI ((cntR th t n) * 16)) (pk_mulC _ _) ?_
        refine pl_iadd X d_Model_test_76 (z := nI (z + (cntR th t n) * 16)) (nI_add _ _) ?_
        refine lv_istore hx hb d_Model_test_77 hl (by decide) (lv' := [(8, .int (nI (z + (cntR th t n) * 16))), (7, .int (nI (s0 * 8 + t))), (6, .int (nI (k0 - cntR th t s0))), (5, .int (nI s0)), (0, .ref m0), (1, .int (nI t)), (2, .int (nI k0)), (3, .int (nI 13)), (4, .int (nI z))]) rfl (fun ls hl => ?_)
        refine lv_iload_n hx hb d_Model_test_79 rfl (lv_at hl 7 rfl) ?_
        refine lv_tableIn hx hb d_Model_test_80 (by decide) (by decide) (off := 193) (by decide) (tgt := 273) rfl ?_
        refine lv_aload_n hx hb d_Model_test_273 rfl (lv_at hl 4 rfl) ?_
        refine lv_iconst (v := nI 0) hx hb d_Model_test_274 (by decide) ?_
        refine lv_aload_n hx hb d_Model_test_275 rfl (lv_at hl 4 rfl) ?_
        refine pl_get X fw_Model_33 hK hP 0 rfl (v := .ref o7) rfl d_Model_test_276 ?_
        refine lv_iload hx hb d_Model_test_279 (lv_at hl 1 rfl) ?_
        refine pl_iald X hK hP 4 0 rfl rfl (s0 * 8 + t) (by omega) (by decide) (z := tm (s0 * 8 + t)) rfl d_Model_test_281 ?_
        refine pl_callVV X (rest := []) (As := [.int (nI 0), .int (tm (s0 * 8 + t))]) (b := m0) (c_Model_set l D cI cZ cL m0 o1 o2 o3 o4 o5 o6 o7 o8 o9 o10 o11 P K Hm ru lo hi tm sa ca ta tn fo1 fk1 co np n stat how pl la stt q dn (nI 0) (tm (s0 * 8 + t))) ck_Model_100 pl_E0_ok trivial hK hP hD hS hA (T := F_Model) (N := N_Model) (ci := 6) rfl 0 rfl [0] [1, 2, 3, 4] [4, 0, 1, 2, 3] rfl (by decide) (wr := [(o4, .inl (cZ, 32, .inl ru)), (o5, .inl (cI, 32, .inl lo)), (o6, .inl (cI, 32, .inl hi)), (o7, .inl (cI, 32, .inl tm))]) rfl (by decide) (by decide) (wf := fun _ => [(m0, .inr (6, [.int (nI co), .int (nI np), .ref o1, .ref o2, .ref o3, .int (nI n), .ref o4, .ref o5, .ref o6, .ref o7, .int (nI 0), .int (tm (s0 * 8 + t)), .int (nI stat), .int (nI how), .int (nI pl), .int (nI la), .int (nI stt), .int (nI q), .ref o8, .ref o9, .int (nI dn), .ref o10, .ref o11])), (o4, .inl (cZ, 32, .inl ru)), (o5, .inl (cI, 32, .inl lo)), (o6, .inl (cI, 32, .inl hi)), (o7, .inl (cI, 32, .inl tm))]) (fun _ => rfl) (by decide) rfl hl.1 rfl (Nat.le_of_ble_eq_true rfl) (by decide) (by decide) d_Model_test_282 (fun u0 H locs hcq hP hD hS => ?_)
        refine lv_goto hx hb d_Model_test_285 rfl ?_
        exact pl_vret X hr hlk hK s0 ⟨hsn, rn_yes g18, by omega⟩ hP hD hS d_Model_test_309
      · skip
        refine lv_iload hx hb d_Model_test_26 (lv_at hl 0 rfl) ?_
        refine lv_aload_n hx hb d_Model_test_28 rfl (lv_at hl 2 rfl) ?_
        refine pl_get X fw_Model_23 hK hP 0 rfl (v := .ref o4) rfl d_Model_test_29 ?_
        refine lv_bipush (v := nI 8) hx hb d_Model_test_32 (by decide) ?_
        refine lv_iload hx hb d_Model_test_34 (lv_at hl 1 rfl) ?_
        refine pl_imul X d_Model_test_36 (z := nI (s0 * 8)) (pk_mulC _ _) ?_
        refine lv_iload_n hx hb d_Model_test_37 rfl (lv_at hl 3 rfl) ?_
        refine pl_iadd X d_Model_test_38 (z := nI (s0 * 8 + t)) (nI_add _ _) ?_
        refine pl_zald X hK hP 1 1 rfl rfl (s0 * 8 + t) (by omega) (by decide) (z := bI (decide (¬ th (s0 * 8 + t) = -1))) (hru _ (by omega)).1 d_Model_test_39 ?_
        refine pl_ifB_eq X d_Model_test_40 rfl (fun g40 => ?_) (fun g40 => ?_)
        · skip
          exact absurd g40 (by rw [g18]; decide)
        · skip
          refine lv_iconst (v := nI 1) hx hb d_Model_test_43 (by decide) ?_
          refine lv_goto hx hb d_Model_test_44 rfl ?_
          refine pl_isub X d_Model_test_48 (z := nI (k0 - cntR th t (s0 + 1))) (by rw [cntR_yes g40, pk_sub (by omega)]; rfl) ?_
          refine lv_istore hx hb d_Model_test_49 hl (by decide) (lv' := [(6, .int (nI (k0 - cntR th t (s0 + 1)))), (5, .int (nI s0)), (0, .ref m0), (1, .int (nI t)), (2, .int (nI k0)), (3, .int (nI 13)), (4, .int (nI z))]) rfl (fun ls hl => ?_)
          refine lv_iinc hx hb d_Model_test_51 hl (k := 1) rfl (nI_inc1 _) (by decide) (lv' := [(5, .int (nI (s0 + 1))), (6, .int (nI (k0 - cntR th t (s0 + 1)))), (0, .ref m0), (1, .int (nI t)), (2, .int (nI k0)), (3, .int (nI 13)), (4, .int (nI z))]) rfl (fun ls hl => ?_)
          refine lv_goto hx hb d_Model_test_54 rfl ?_
          exact ih _ (by omega) (s0 + 1) _ _ _ rfl (by omega) (by rw [cntR_yes g40]; omega) hP hD hS (lv_sub hl [1, 0, 2, 3, 4, 5, 6] rfl)
  exact loop_6 _ 0 _ _ _ rfl (Nat.zero_le _) (Nat.zero_le _) hP hD hS hl

set_option maxHeartbeats 4000000 in
set_option maxRecDepth 100000 in
theorem c_Model_test_14 (l : Launch) (D : va_G) (cI cZ cL : ClassId) (m0 o1 o2 o3 o4 o5 o6 o7 o8 o9 o10 o11 : Nat) (P K Hm ru lo hi tm sa ca ta tn : Nat → Int32) (fo1 fk1 : Int32) (co np n stat how pl la stt q dn : Nat) (th : Nat → Int32) (t k0 z : Nat) (hn : n ≤ 4) (ht : t < 8) (hk0 : k0 < cntR th t n) (hz : z ≤ 1600) (hru : rulR ru tm th) : pl_V l y_Model_test b_Model_test 9 ({ frames := 1, cells := 0, slots := 0, locals := 23 } : Room) pl_E0 D classes (TY cI cZ cL) [.ref m0, .int (nI t), .int (nI k0), .int (nI 14), .int (nI z)] [(m0, .inr (6, [.int (nI co), .int (nI np), .ref o1, .ref o2, .ref o3, .int (nI n), .ref o4, .ref o5, .ref o6, .ref o7, .int fo1, .int fk1, .int (nI stat), .int (nI how), .int (nI pl), .int (nI la), .int (nI stt), .int (nI q), .ref o8, .ref o9, .int (nI dn), .ref o10, .ref o11])), (o4, .inl (cZ, 32, .inl ru)), (o5, .inl (cI, 32, .inl lo)), (o6, .inl (cI, 32, .inl hi)), (o7, .inl (cI, 32, .inl tm))] (fun u : Nat => u < n ∧ ¬ th (u * 8 + t) = -1 ∧ cntR th t u = k0) (fun (u : Nat) => [(m0, .inr (6, [.int (nI co), .int (nI np), .ref o1, .ref o2, .ref o3, .int (nI n), .ref o4, .ref o5, .ref o6, .ref o7, .int (nI 6), .int (nI 7), .int (nI stat), .int (nI how), .int (nI pl), .int (nI la), .int (nI stt), .int (nI q), .ref o8, .ref o9, .int (nI dn), .ref o10, .ref o11])), (o4, .inl (cZ, 32, .inl ru)), (o5, .inl (cI, 32, .inl lo)), (o6, .inl (cI, 32, .inl hi)), (o7, .inl (cI, 32, .inl tm))]) := by
  refine pl_startV (by decide) (Nat.le_of_ble_eq_true rfl) ?_
  intro p e s m args below meth c A ls X hr hlk hin hK hP hD hS hA hE hl
  have X : CallFix p m c b_Model_test 9 s args TG R_Model := X
  have hx := X.1
  have hb := X.2.1
  have hl : lv_has ls 9 [(0, .ref m0), (1, .int (nI t)), (2, .int (nI k0)), (3, .int (nI 14)), (4, .int (nI z))] := hl
  have hcn := cntR_le th t n
  refine lv_iconst (v := nI 0) hx hb d_Model_test_0 (by decide) ?_
  refine lv_istore hx hb d_Model_test_1 hl (by decide) (lv' := [(5, .int (nI 0)), (0, .ref m0), (1, .int (nI t)), (2, .int (nI k0)), (3, .int (nI 14)), (4, .int (nI z))]) rfl (fun ls hl => ?_)
  refine lv_iload_n hx hb d_Model_test_3 rfl (lv_at hl 3 rfl) ?_
  refine lv_istore hx hb d_Model_test_4 hl (by decide) (lv' := [(6, .int (nI k0)), (5, .int (nI 0)), (0, .ref m0), (1, .int (nI t)), (2, .int (nI k0)), (3, .int (nI 14)), (4, .int (nI z))]) rfl (fun ls hl => ?_)
  have loop_6 : ∀ (k : Nat) (s0 : Nat) (H : Heap) (locs : List Loc) (ls : Array Slot), n - s0 = k → (s0 ≤ n) → (cntR th t s0 ≤ k0) → va_P D classes [(m0, .inr (6, [.int (nI co), .int (nI np), .ref o1, .ref o2, .ref o3, .int (nI n), .ref o4, .ref o5, .ref o6, .ref o7, .int fo1, .int fk1, .int (nI stat), .int (nI how), .int (nI pl), .int (nI la), .int (nI stt), .int (nI q), .ref o8, .ref o9, .int (nI dn), .ref o10, .ref o11])), (o4, .inl (cZ, 32, .inl ru)), (o5, .inl (cI, 32, .inl lo)), (o6, .inl (cI, 32, .inl hi)), (o7, .inl (cI, 32, .inl tm))] H → va_D A [(m0, .inr (6, [.int (nI co), .int (nI np), .ref o1, .ref o2, .ref o3, .int (nI n), .ref o4, .ref o5, .ref o6, .ref o7, .int fo1, .int fk1, .int (nI stat), .int (nI how), .int (nI pl), .int (nI la), .int (nI stt), .int (nI q), .ref o8, .ref o9, .int (nI dn), .ref o10, .ref o11])), (o4, .inl (cZ, 32, .inl ru)), (o5, .inl (cI, 32, .inl lo)), (o6, .inl (cI, 32, .inl hi)), (o7, .inl (cI, 32, .inl tm))] → va_S A s.heap H locs → lv_has ls 9 [(6, .int (nI (k0 - cntR th t s0))), (5, .int (nI s0)), (0, .ref m0), (1, .int (nI t)), (2, .int (nI k0)), (3, .int (nI 14)), (4, .int (nI z))] → W p l e ({ frames := 1, cells := 0, slots := 0, locals := 23 } : Room) s m args below meth c H locs 0 0 (MQ below (va_Qv (fun u : Nat => u < n ∧ ¬ th (u * 8 + t) = -1 ∧ cntR th t u = k0) (fun u => pl_out D classes (TY cI cZ cL) A ((fun (u : Nat) => [(m0, .inr (6, [.int (nI co), .int (nI np), .ref o1, .ref o2, .ref o3, .int (nI n), .ref o4, .ref o5, .ref o6, .ref o7, .int (nI 6), .int (nI 7), .int (nI stat), .int (nI how), .int (nI pl), .int (nI la), .int (nI stt), .int (nI q), .ref o8, .ref o9, .int (nI dn), .ref o10, .ref o11])), (o4, .inl (cZ, 32, .inl ru)), (o5, .inl (cI, 32, .inl lo)), (o6, .inl (cI, 32, .inl hi)), (o7, .inl (cI, 32, .inl tm))]) u)) A) args s 0 0 A) (F0 m 6 ls []) := by
    intro k
    induction k using Nat.strongRecOn with
    | _ k ih =>
    intro s0 H locs ls hk hs0 hc0 hP hD hS hl
    have hsn : s0 < n := by rcases Nat.lt_or_eq_of_le hs0 with q | q; exact q; (rw [q] at hc0; omega)
    refine lv_aload_n hx hb d_Model_test_6 rfl (lv_at hl 2 rfl) ?_
    refine pl_get X fw_Model_23 hK hP 0 rfl (v := .ref o4) rfl d_Model_test_7 ?_
    refine lv_bipush (v := nI 8) hx hb d_Model_test_10 (by decide) ?_
    refine lv_iload hx hb d_Model_test_12 (lv_at hl 1 rfl) ?_
    refine pl_imul X d_Model_test_14 (z := nI (s0 * 8)) (pk_mulC _ _) ?_
    refine lv_iload_n hx hb d_Model_test_15 rfl (lv_at hl 3 rfl) ?_
    refine pl_iadd X d_Model_test_16 (z := nI (s0 * 8 + t)) (nI_add _ _) ?_
    refine pl_zald X hK hP 1 1 rfl rfl (s0 * 8 + t) (by omega) (by decide) (z := bI (decide (¬ th (s0 * 8 + t) = -1))) (hru _ (by omega)).1 d_Model_test_17 ?_
    refine pl_ifB_eq X d_Model_test_18 rfl (fun g18 => ?_) (fun g18 => ?_)
    · skip
      refine lv_iload hx hb d_Model_test_26 (lv_at hl 0 rfl) ?_
      refine lv_aload_n hx hb d_Model_test_28 rfl (lv_at hl 2 rfl) ?_
      refine pl_get X fw_Model_23 hK hP 0 rfl (v := .ref o4) rfl d_Model_test_29 ?_
      refine lv_bipush (v := nI 8) hx hb d_Model_test_32 (by decide) ?_
      refine lv_iload hx hb d_Model_test_34 (lv_at hl 1 rfl) ?_
      refine pl_imul X d_Model_test_36 (z := nI (s0 * 8)) (pk_mulC _ _) ?_
      refine lv_iload_n hx hb d_Model_test_37 rfl (lv_at hl 3 rfl) ?_
      refine pl_iadd X d_Model_test_38 (z := nI (s0 * 8 + t)) (nI_add _ _) ?_
      refine pl_zald X hK hP 1 1 rfl rfl (s0 * 8 + t) (by omega) (by decide) (z := bI (decide (¬ th (s0 * 8 + t) = -1))) (hru _ (by omega)).1 d_Model_test_39 ?_
      refine pl_ifB_eq X d_Model_test_40 rfl (fun g40 => ?_) (fun g40 => ?_)
      · skip
        refine lv_iconst (v := nI 0) hx hb d_Model_test_47 (by decide) ?_
        refine pl_isub X d_Model_test_48 (z := nI (k0 - cntR th t (s0 + 1))) (by rw [cntR_no g40, pk_sub (by omega)]; rfl) ?_
        refine lv_istore hx hb d_Model_test_49 hl (by decide) (lv' := [(6, .int (nI (k0 - cntR th t (s0 + 1)))), (5, .int (nI s0)), (0, .ref m0), (1, .int (nI t)), (2, .int (nI k0)), (3, .int (nI 14)), (4, .int (nI z))]) rfl (fun ls hl => ?_)
        refine lv_iinc hx hb d_Model_test_51 hl (k := 1) rfl (nI_inc1 _) (by decide) (lv' := [(5, .int (nI (s0 + 1))), (6, .int (nI (k0 - cntR th t (s0 + 1)))), (0, .ref m0), (1, .int (nI t)), (2, .int (nI k0)), (3, .int (nI 14)), (4, .int (nI z))]) rfl (fun ls hl => ?_)
        refine lv_goto hx hb d_Model_test_54 rfl ?_
        exact ih _ (by omega) (s0 + 1) _ _ _ rfl (by omega) (by rw [cntR_no g40]; exact hc0) hP hD hS (lv_sub hl [1, 0, 2, 3, 4, 5, 6] rfl)
      · skip
        exact absurd g40 (by rw [g18]; decide)
    · skip
      refine lv_iload hx hb d_Model_test_21 (lv_at hl 0 rfl) ?_
      refine pl_if_le X (by omega) d_Model_test_23 rfl (fun g23 => ?_) (fun g23 => ?_)
      · skip
        refine lv_bipush (v := nI 8) hx hb d_Model_test_57 (by decide) ?_
        refine lv_iload hx hb d_Model_test_59 (lv_at hl 1 rfl) ?_
        refine pl_imul X d_Model_test_61 (z := nI (s0 * 8)) (pk_mulC _ _) ?_
        refine lv_iload_n hx hb d_Model_test_62 rfl (lv_at hl 3 rfl) ?_
        refine pl_iadd X d_Model_test_63 (z := nI (s0 * 8 + t)) (nI_add _ _) ?_
        refine lv_istore hx hb d_Model_test_64 hl (by decide) (lv' := [(7, .int (nI (s0 * 8 + t))), (6, .int (nI (k0 - cntR th t s0))), (5, .int (nI s0)), (0, .ref m0), (1, .int (nI t)), (2, .int (nI k0)), (3, .int (nI 14)), (4, .int (nI z))]) rfl (fun ls hl => ?_)
        refine lv_iload hx hb d_Model_test_66 (lv_at hl 7 rfl) ?_
        refine lv_bipush (v := nI 16) hx hb d_Model_test_68 (by decide) ?_
        refine lv_aload_n hx hb d_Model_test_70 rfl (lv_at hl 3 rfl) ?_
        refine lv_iload_n hx hb d_Model_test_71 rfl (lv_at hl 4 rfl) ?_
        refine pl_callVI X (rest := [.int (nI 16), .int (nI z)]) (As := [.int (nI t)]) (b := m0) (c_Model_testsOf l D cI cZ cL m0 o1 o2 o3 o4 o5 o6 o7 o8 o9 o10 o11 P K Hm ru lo hi tm sa ca ta tn fo1 fk1 co np n stat how pl la stt q dn th t hn ht hru) ck_Model_85 pl_E0_ok trivial hK hP hD hS hA (T := F_Model) (N := N_Model) (ci := 6) rfl 0 rfl [0, 1] [2, 3, 4] [3, 4, 0, 1, 2] rfl (by decide) (wr := [(o5, .inl (cI, 32, .inl lo)), (o6, .inl (cI, 32, .inl hi)), (o7, .inl (cI, 32, .inl tm))]) rfl (by decide) (by decide) (wf := fun _ => [(m0, .inr (6, [.int (nI co), .int (nI np), .ref o1, .ref o2, .ref o3, .int (nI n), .ref o4, .ref o5, .ref o6, .ref o7, .int fo1, .int fk1, .int (nI stat), .int (nI how), .int (nI pl), .int (nI la), .int (nI stt), .int (nI q), .ref o8, .ref o9, .int (nI dn), .ref o10, .ref o11])), (o4, .inl (cZ, 32, .inl ru)), (o5, .inl (cI, 32, .inl lo)), (o6, .inl (cI, 32, .inl hi)), (o7, .inl (cI, 32, .inl tm))]) (fun _ => rfl) (by decide) rfl hl.1 rfl (Nat.le_of_ble_eq_true rfl) (by decide) (by decide) d_Model_test_72 (fun r u0 H locs hcq hP hD hS => ?_)
        subst hcq
        refine pl_imul X d_Model_test_75 (z := nI ((cntR th t n) * 16)) (pk_mulC _ _) ?_
        refine pl_iadd X d_Model_test_76 (z := nI (z + (cntR th t n) * 16)) (nI_add _ _) ?_
        refine lv_istore hx hb d_Model_test_77 hl (by decide) (lv' := [(8, .int (nI (z + (cntR th t n) * 16))), (7, .int (nI (s0 * 8 + t))), (6, .int (nI (k0 - cntR th t s0))), (5, .int (nI s0)), (0, .ref m0), (1, .int (nI t)), (2, .int (nI k0)), (3, .int (nI 14)), (4, .int (nI z))]) rfl (fun ls hl => ?_)
        refine lv_iload_n hx hb d_Model_test_79 rfl (lv_at hl 7 rfl) ?_
        refine lv_tableIn hx hb d_Model_test_80 (by decide) (by decide) (off := 208) (by decide) (tgt := 288) rfl ?_
        refine lv_aload_n hx hb d_Model_test_288 rfl (lv_at hl 4 rfl) ?_
        refine lv_bipush (v := nI 6) hx hb d_Model_test_289 (by decide) ?_
        refine lv_bipush (v := nI 7) hx hb d_Model_test_291 (by decide) ?_
        refine pl_callVV X (rest := []) (As := [.int (nI 6), .int (nI 7)]) (b := m0) (c_Model_set l D cI cZ cL m0 o1 o2 o3 o4 o5 o6 o7 o8 o9 o10 o11 P K Hm ru lo hi tm sa ca ta tn fo1 fk1 co np n stat how pl la stt q dn (nI 6) (nI 7)) ck_Model_100 pl_E0_ok trivial hK hP hD hS hA (T := F_Model) (N := N_Model) (ci := 6) rfl 0 rfl [0] [1, 2, 3, 4] [4, 0, 1, 2, 3] rfl (by decide) (wr := [(o4, .inl (cZ, 32, .inl ru)), (o5, .inl (cI, 32, .inl lo)), (o6, .inl (cI, 32, .inl hi)), (o7, .inl (cI, 32, .inl tm))]) rfl (by decide) (by decide) (wf := fun _ => [(m0, .inr (6, [.int (nI co), .int (nI np), .ref o1, .ref o2, .ref o3, .int (nI n), .ref o4, .ref o5, .ref o6, .ref o7, .int (nI 6), .int (nI 7), .int (nI stat), .int (nI how), .int (nI pl), .int (nI la), .int (nI stt), .int (nI q), .ref o8, .ref o9, .int (nI dn), .ref o10, .ref o11])), (o4, .inl (cZ, 32, .inl ru)), (o5, .inl (cI, 32, .inl lo)), (o6, .inl (cI, 32, .inl hi)), (o7, .inl (cI, 32, .inl tm))]) (fun _ => rfl) (by decide) rfl hl.1 rfl (Nat.le_of_ble_eq_true rfl) (by decide) (by decide) d_Model_test_293 (fun u0 H locs hcq hP hD hS => ?_)
        refine lv_goto hx hb d_Model_test_296 rfl ?_
        exact pl_vret X hr hlk hK s0 ⟨hsn, rn_yes g18, by omega⟩ hP hD hS d_Model_test_309
      · skip
        refine lv_iload hx hb d_Model_test_26 (lv_at hl 0 rfl) ?_
        refine lv_aload_n hx hb d_Model_test_28 rfl (lv_at hl 2 rfl) ?_
        refine pl_get X fw_Model_23 hK hP 0 rfl (v := .ref o4) rfl d_Model_test_29 ?_
        refine lv_bipush (v := nI 8) hx hb d_Model_test_32 (by decide) ?_
        refine lv_iload hx hb d_Model_test_34 (lv_at hl 1 rfl) ?_
        refine pl_imul X d_Model_test_36 (z := nI (s0 * 8)) (pk_mulC _ _) ?_
        refine lv_iload_n hx hb d_Model_test_37 rfl (lv_at hl 3 rfl) ?_
        refine pl_iadd X d_Model_test_38 (z := nI (s0 * 8 + t)) (nI_add _ _) ?_
        refine pl_zald X hK hP 1 1 rfl rfl (s0 * 8 + t) (by omega) (by decide) (z := bI (decide (¬ th (s0 * 8 + t) = -1))) (hru _ (by omega)).1 d_Model_test_39 ?_
        refine pl_ifB_eq X d_Model_test_40 rfl (fun g40 => ?_) (fun g40 => ?_)
        · skip
          exact absurd g40 (by rw [g18]; decide)
        · skip
          refine lv_iconst (v := nI 1) hx hb d_Model_test_43 (by decide) ?_
          refine lv_goto hx hb d_Model_test_44 rfl ?_
          refine pl_isub X d_Model_test_48 (z := nI (k0 - cntR th t (s0 + 1))) (by rw [cntR_yes g40, pk_sub (by omega)]; rfl) ?_
          refine lv_istore hx hb d_Model_test_49 hl (by decide) (lv' := [(6, .int (nI (k0 - cntR th t (s0 + 1)))), (5, .int (nI s0)), (0, .ref m0), (1, .int (nI t)), (2, .int (nI k0)), (3, .int (nI 14)), (4, .int (nI z))]) rfl (fun ls hl => ?_)
          refine lv_iinc hx hb d_Model_test_51 hl (k := 1) rfl (nI_inc1 _) (by decide) (lv' := [(5, .int (nI (s0 + 1))), (6, .int (nI (k0 - cntR th t (s0 + 1)))), (0, .ref m0), (1, .int (nI t)), (2, .int (nI k0)), (3, .int (nI 14)), (4, .int (nI z))]) rfl (fun ls hl => ?_)
          refine lv_goto hx hb d_Model_test_54 rfl ?_
          exact ih _ (by omega) (s0 + 1) _ _ _ rfl (by omega) (by rw [cntR_yes g40]; omega) hP hD hS (lv_sub hl [1, 0, 2, 3, 4, 5, 6] rfl)
  exact loop_6 _ 0 _ _ _ rfl (Nat.zero_le _) (Nat.zero_le _) hP hD hS hl

set_option maxHeartbeats 4000000 in
set_option maxRecDepth 100000 in
theorem c_Model_test_15 (l : Launch) (D : va_G) (cI cZ cL : ClassId) (m0 o1 o2 o3 o4 o5 o6 o7 o8 o9 o10 o11 : Nat) (P K Hm ru lo hi tm sa ca ta tn : Nat → Int32) (fo1 fk1 : Int32) (co np n stat how pl la stt q dn : Nat) (th : Nat → Int32) (t k0 z : Nat) (hn : n ≤ 4) (ht : t < 8) (hk0 : k0 < cntR th t n) (hz : z ≤ 1600) (hru : rulR ru tm th) : pl_V l y_Model_test b_Model_test 9 ({ frames := 1, cells := 0, slots := 0, locals := 23 } : Room) pl_E0 D classes (TY cI cZ cL) [.ref m0, .int (nI t), .int (nI k0), .int (nI 15), .int (nI z)] [(m0, .inr (6, [.int (nI co), .int (nI np), .ref o1, .ref o2, .ref o3, .int (nI n), .ref o4, .ref o5, .ref o6, .ref o7, .int fo1, .int fk1, .int (nI stat), .int (nI how), .int (nI pl), .int (nI la), .int (nI stt), .int (nI q), .ref o8, .ref o9, .int (nI dn), .ref o10, .ref o11])), (o4, .inl (cZ, 32, .inl ru)), (o5, .inl (cI, 32, .inl lo)), (o6, .inl (cI, 32, .inl hi)), (o7, .inl (cI, 32, .inl tm))] (fun u : Nat => u < n ∧ ¬ th (u * 8 + t) = -1 ∧ cntR th t u = k0) (fun (u : Nat) => [(m0, .inr (6, [.int (nI co), .int (nI np), .ref o1, .ref o2, .ref o3, .int (nI n), .ref o4, .ref o5, .ref o6, .ref o7, .int (nI 7), .int (nI (z + cntR th t n * 16 + 1)), .int (nI stat), .int (nI how), .int (nI pl), .int (nI la), .int (nI stt), .int (nI q), .ref o8, .ref o9, .int (nI dn), .ref o10, .ref o11])), (o4, .inl (cZ, 32, .inl ru)), (o5, .inl (cI, 32, .inl lo)), (o6, .inl (cI, 32, .inl hi)), (o7, .inl (cI, 32, .inl tm))]) := by
  refine pl_startV (by decide) (Nat.le_of_ble_eq_true rfl) ?_
  intro p e s m args below meth c A ls X hr hlk hin hK hP hD hS hA hE hl
  have X : CallFix p m c b_Model_test 9 s args TG R_Model := X
  have hx := X.1
  have hb := X.2.1
  have hl : lv_has ls 9 [(0, .ref m0), (1, .int (nI t)), (2, .int (nI k0)), (3, .int (nI 15)), (4, .int (nI z))] := hl
  have hcn := cntR_le th t n
  refine lv_iconst (v := nI 0) hx hb d_Model_test_0 (by decide) ?_
  refine lv_istore hx hb d_Model_test_1 hl (by decide) (lv' := [(5, .int (nI 0)), (0, .ref m0), (1, .int (nI t)), (2, .int (nI k0)), (3, .int (nI 15)), (4, .int (nI z))]) rfl (fun ls hl => ?_)
  refine lv_iload_n hx hb d_Model_test_3 rfl (lv_at hl 3 rfl) ?_
  refine lv_istore hx hb d_Model_test_4 hl (by decide) (lv' := [(6, .int (nI k0)), (5, .int (nI 0)), (0, .ref m0), (1, .int (nI t)), (2, .int (nI k0)), (3, .int (nI 15)), (4, .int (nI z))]) rfl (fun ls hl => ?_)
  have loop_6 : ∀ (k : Nat) (s0 : Nat) (H : Heap) (locs : List Loc) (ls : Array Slot), n - s0 = k → (s0 ≤ n) → (cntR th t s0 ≤ k0) → va_P D classes [(m0, .inr (6, [.int (nI co), .int (nI np), .ref o1, .ref o2, .ref o3, .int (nI n), .ref o4, .ref o5, .ref o6, .ref o7, .int fo1, .int fk1, .int (nI stat), .int (nI how), .int (nI pl), .int (nI la), .int (nI stt), .int (nI q), .ref o8, .ref o9, .int (nI dn), .ref o10, .ref o11])), (o4, .inl (cZ, 32, .inl ru)), (o5, .inl (cI, 32, .inl lo)), (o6, .inl (cI, 32, .inl hi)), (o7, .inl (cI, 32, .inl tm))] H → va_D A [(m0, .inr (6, [.int (nI co), .int (nI np), .ref o1, .ref o2, .ref o3, .int (nI n), .ref o4, .ref o5, .ref o6, .ref o7, .int fo1, .int fk1, .int (nI stat), .int (nI how), .int (nI pl), .int (nI la), .int (nI stt), .int (nI q), .ref o8, .ref o9, .int (nI dn), .ref o10, .ref o11])), (o4, .inl (cZ, 32, .inl ru)), (o5, .inl (cI, 32, .inl lo)), (o6, .inl (cI, 32, .inl hi)), (o7, .inl (cI, 32, .inl tm))] → va_S A s.heap H locs → lv_has ls 9 [(6, .int (nI (k0 - cntR th t s0))), (5, .int (nI s0)), (0, .ref m0), (1, .int (nI t)), (2, .int (nI k0)), (3, .int (nI 15)), (4, .int (nI z))] → W p l e ({ frames := 1, cells := 0, slots := 0, locals := 23 } : Room) s m args below meth c H locs 0 0 (MQ below (va_Qv (fun u : Nat => u < n ∧ ¬ th (u * 8 + t) = -1 ∧ cntR th t u = k0) (fun u => pl_out D classes (TY cI cZ cL) A ((fun (u : Nat) => [(m0, .inr (6, [.int (nI co), .int (nI np), .ref o1, .ref o2, .ref o3, .int (nI n), .ref o4, .ref o5, .ref o6, .ref o7, .int (nI 7), .int (nI (z + cntR th t n * 16 + 1)), .int (nI stat), .int (nI how), .int (nI pl), .int (nI la), .int (nI stt), .int (nI q), .ref o8, .ref o9, .int (nI dn), .ref o10, .ref o11])), (o4, .inl (cZ, 32, .inl ru)), (o5, .inl (cI, 32, .inl lo)), (o6, .inl (cI, 32, .inl hi)), (o7, .inl (cI, 32, .inl tm))]) u)) A) args s 0 0 A) (F0 m 6 ls []) := by
    intro k
    induction k using Nat.strongRecOn with
    | _ k ih =>
    intro s0 H locs ls hk hs0 hc0 hP hD hS hl
    have hsn : s0 < n := by rcases Nat.lt_or_eq_of_le hs0 with q | q; exact q; (rw [q] at hc0; omega)
    refine lv_aload_n hx hb d_Model_test_6 rfl (lv_at hl 2 rfl) ?_
    refine pl_get X fw_Model_23 hK hP 0 rfl (v := .ref o4) rfl d_Model_test_7 ?_
    refine lv_bipush (v := nI 8) hx hb d_Model_test_10 (by decide) ?_
    refine lv_iload hx hb d_Model_test_12 (lv_at hl 1 rfl) ?_
    refine pl_imul X d_Model_test_14 (z := nI (s0 * 8)) (pk_mulC _ _) ?_
    refine lv_iload_n hx hb d_Model_test_15 rfl (lv_at hl 3 rfl) ?_
    refine pl_iadd X d_Model_test_16 (z := nI (s0 * 8 + t)) (nI_add _ _) ?_
    refine pl_zald X hK hP 1 1 rfl rfl (s0 * 8 + t) (by omega) (by decide) (z := bI (decide (¬ th (s0 * 8 + t) = -1))) (hru _ (by omega)).1 d_Model_test_17 ?_
    refine pl_ifB_eq X d_Model_test_18 rfl (fun g18 => ?_) (fun g18 => ?_)
    · skip
      refine lv_iload hx hb d_Model_test_26 (lv_at hl 0 rfl) ?_
      refine lv_aload_n hx hb d_Model_test_28 rfl (lv_at hl 2 rfl) ?_
      refine pl_get X fw_Model_23 hK hP 0 rfl (v := .ref o4) rfl d_Model_test_29 ?_
      refine lv_bipush (v := nI 8) hx hb d_Model_test_32 (by decide) ?_
      refine lv_iload hx hb d_Model_test_34 (lv_at hl 1 rfl) ?_
      refine pl_imul X d_Model_test_36 (z := nI (s0 * 8)) (pk_mulC _ _) ?_
      refine lv_iload_n hx hb d_Model_test_37 rfl (lv_at hl 3 rfl) ?_
      refine pl_iadd X d_Model_test_38 (z := nI (s0 * 8 + t)) (nI_add _ _) ?_
      refine pl_zald X hK hP 1 1 rfl rfl (s0 * 8 + t) (by omega) (by decide) (z := bI (decide (¬ th (s0 * 8 + t) = -1))) (hru _ (by omega)).1 d_Model_test_39 ?_
      refine pl_ifB_eq X d_Model_test_40 rfl (fun g40 => ?_) (fun g40 => ?_)
      · skip
        refine lv_iconst (v := nI 0) hx hb d_Model_test_47 (by decide) ?_
        refine pl_isub X d_Model_test_48 (z := nI (k0 - cntR th t (s0 + 1))) (by rw [cntR_no g40, pk_sub (by omega)]; rfl) ?_
        refine lv_istore hx hb d_Model_test_49 hl (by decide) (lv' := [(6, .int (nI (k0 - cntR th t (s0 + 1)))), (5, .int (nI s0)), (0, .ref m0), (1, .int (nI t)), (2, .int (nI k0)), (3, .int (nI 15)), (4, .int (nI z))]) rfl (fun ls hl => ?_)
        refine lv_iinc hx hb d_Model_test_51 hl (k := 1) rfl (nI_inc1 _) (by decide) (lv' := [(5, .int (nI (s0 + 1))), (6, .int (nI (k0 - cntR th t (s0 + 1)))), (0, .ref m0), (1, .int (nI t)), (2, .int (nI k0)), (3, .int (nI 15)), (4, .int (nI z))]) rfl (fun ls hl => ?_)
        refine lv_goto hx hb d_Model_test_54 rfl ?_
        exact ih _ (by omega) (s0 + 1) _ _ _ rfl (by omega) (by rw [cntR_no g40]; exact hc0) hP hD hS (lv_sub hl [1, 0, 2, 3, 4, 5, 6] rfl)
      · skip
        exact absurd g40 (by rw [g18]; decide)
    · skip
      refine lv_iload hx hb d_Model_test_21 (lv_at hl 0 rfl) ?_
      refine pl_if_le X (by omega) d_Model_test_23 rfl (fun g23 => ?_) (fun g23 => ?_)
      · skip
        refine lv_bipush (v := nI 8) hx hb d_Model_test_57 (by decide) ?_
        refine lv_iload hx hb d_Model_test_59 (lv_at hl 1 rfl) ?_
        refine pl_imul X d_Model_test_61 (z := nI (s0 * 8)) (pk_mulC _ _) ?_
        refine lv_iload_n hx hb d_Model_test_62 rfl (lv_at hl 3 rfl) ?_
        refine pl_iadd X d_Model_test_63 (z := nI (s0 * 8 + t)) (nI_add _ _) ?_
        refine lv_istore hx hb d_Model_test_64 hl (by decide) (lv' := [(7, .int (nI (s0 * 8 + t))), (6, .int (nI (k0 - cntR th t s0))), (5, .int (nI s0)), (0, .ref m0), (1, .int (nI t)), (2, .int (nI k0)), (3, .int (nI 15)), (4, .int (nI z))]) rfl (fun ls hl => ?_)
        refine lv_iload hx hb d_Model_test_66 (lv_at hl 7 rfl) ?_
        refine lv_bipush (v := nI 16) hx hb d_Model_test_68 (by decide) ?_
        refine lv_aload_n hx hb d_Model_test_70 rfl (lv_at hl 3 rfl) ?_
        refine lv_iload_n hx hb d_Model_test_71 rfl (lv_at hl 4 rfl) ?_
        refine pl_callVI X (rest := [.int (nI 16), .int (nI z)]) (As := [.int (nI t)]) (b := m0) (c_Model_testsOf l D cI cZ cL m0 o1 o2 o3 o4 o5 o6 o7 o8 o9 o10 o11 P K Hm ru lo hi tm sa ca ta tn fo1 fk1 co np n stat how pl la stt q dn th t hn ht hru) ck_Model_85 pl_E0_ok trivial hK hP hD hS hA (T := F_Model) (N := N_Model) (ci := 6) rfl 0 rfl [0, 1] [2, 3, 4] [3, 4, 0, 1, 2] rfl (by decide) (wr := [(o5, .inl (cI, 32, .inl lo)), (o6, .inl (cI, 32, .inl hi)), (o7, .inl (cI, 32, .inl tm))]) rfl (by decide) (by decide) (wf := fun _ => [(m0, .inr (6, [.int (nI co), .int (nI np), .ref o1, .ref o2, .ref o3, .int (nI n), .ref o4, .ref o5, .ref o6, .ref o7, .int fo1, .int fk1, .int (nI stat), .int (nI how), .int (nI pl), .int (nI la), .int (nI stt), .int (nI q), .ref o8, .ref o9, .int (nI dn), .ref o10, .ref o11])), (o4, .inl (cZ, 32, .inl ru)), (o5, .inl (cI, 32, .inl lo)), (o6, .inl (cI, 32, .inl hi)), (o7, .inl (cI, 32, .inl tm))]) (fun _ => rfl) (by decide) rfl hl.1 rfl (Nat.le_of_ble_eq_true rfl) (by decide) (by decide) d_Model_test_72 (fun r u0 H locs hcq hP hD hS => ?_)
        subst hcq
        refine pl_imul X d_Model_test_75 (z := nI ((cntR th t n) * 16)) (pk_mulC _ _) ?_
        refine pl_iadd X d_Model_test_76 (z := nI (z + (cntR th t n) * 16)) (nI_add _ _) ?_
        refine lv_istore hx hb d_Model_test_77 hl (by decide) (lv' := [(8, .int (nI (z + (cntR th t n) * 16))), (7, .int (nI (s0 * 8 + t))), (6, .int (nI (k0 - cntR th t s0))), (5, .int (nI s0)), (0, .ref m0), (1, .int (nI t)), (2, .int (nI k0)), (3, .int (nI 15)), (4, .int (nI z))]) rfl (fun ls hl => ?_)
        refine lv_iload_n hx hb d_Model_test_79 rfl (lv_at hl 7 rfl) ?_
        refine lv_tableOut hx hb d_Model_test_80 (by decide) (tgt := 299) rfl ?_
        refine lv_aload_n hx hb d_Model_test_299 rfl (lv_at hl 4 rfl) ?_
        refine lv_bipush (v := nI 7) hx hb d_Model_test_300 (by decide) ?_
        refine lv_iload hx hb d_Model_test_302 (lv_at hl 0 rfl) ?_
        refine lv_iconst (v := nI 1) hx hb d_Model_test_304 (by decide) ?_
        refine pl_iadd X d_Model_test_305 (z := nI (z + (cntR th t n) * 16 + 1)) (nI_add _ _) ?_
        refine pl_callVV X (rest := []) (As := [.int (nI 7), .int (nI (z + (cntR th t n) * 16 + 1))]) (b := m0) (c_Model_set l D cI cZ cL m0 o1 o2 o3 o4 o5 o6 o7 o8 o9 o10 o11 P K Hm ru lo hi tm sa ca ta tn fo1 fk1 co np n stat how pl la stt q dn (nI 7) (nI (z + (cntR th t n) * 16 + 1))) ck_Model_100 pl_E0_ok trivial hK hP hD hS hA (T := F_Model) (N := N_Model) (ci := 6) rfl 0 rfl [0] [1, 2, 3, 4] [4, 0, 1, 2, 3] rfl (by decide) (wr := [(o4, .inl (cZ, 32, .inl ru)), (o5, .inl (cI, 32, .inl lo)), (o6, .inl (cI, 32, .inl hi)), (o7, .inl (cI, 32, .inl tm))]) rfl (by decide) (by decide) (wf := fun _ => [(m0, .inr (6, [.int (nI co), .int (nI np), .ref o1, .ref o2, .ref o3, .int (nI n), .ref o4, .ref o5, .ref o6, .ref o7, .int (nI 7), .int (nI (z + (cntR th t n) * 16 + 1)), .int (nI stat), .int (nI how), .int (nI pl), .int (nI la), .int (nI stt), .int (nI q), .ref o8, .ref o9, .int (nI dn), .ref o10, .ref o11])), (o4, .inl (cZ, 32, .inl ru)), (o5, .inl (cI, 32, .inl lo)), (o6, .inl (cI, 32, .inl hi)), (o7, .inl (cI, 32, .inl tm))]) (fun _ => rfl) (by decide) rfl hl.1 rfl (Nat.le_of_ble_eq_true rfl) (by decide) (by decide) d_Model_test_306 (fun u0 H locs hcq hP hD hS => ?_)
        exact pl_vret X hr hlk hK s0 ⟨hsn, rn_yes g18, by omega⟩ hP hD hS d_Model_test_309
      · skip
        refine lv_iload hx hb d_Model_test_26 (lv_at hl 0 rfl) ?_
        refine lv_aload_n hx hb d_Model_test_28 rfl (lv_at hl 2 rfl) ?_
        refine pl_get X fw_Model_23 hK hP 0 rfl (v := .ref o4) rfl d_Model_test_29 ?_
        refine lv_bipush (v := nI 8) hx hb d_Model_test_32 (by decide) ?_
        refine lv_iload hx hb d_Model_test_34 (lv_at hl 1 rfl) ?_
        refine pl_imul X d_Model_test_36 (z := nI (s0 * 8)) (pk_mulC _ _) ?_
        refine lv_iload_n hx hb d_Model_test_37 rfl (lv_at hl 3 rfl) ?_
        refine pl_iadd X d_Model_test_38 (z := nI (s0 * 8 + t)) (nI_add _ _) ?_
        refine pl_zald X hK hP 1 1 rfl rfl (s0 * 8 + t) (by omega) (by decide) (z := bI (decide (¬ th (s0 * 8 + t) = -1))) (hru _ (by omega)).1 d_Model_test_39 ?_
        refine pl_ifB_eq X d_Model_test_40 rfl (fun g40 => ?_) (fun g40 => ?_)
        · skip
          exact absurd g40 (by rw [g18]; decide)
        · skip
          refine lv_iconst (v := nI 1) hx hb d_Model_test_43 (by decide) ?_
          refine lv_goto hx hb d_Model_test_44 rfl ?_
          refine pl_isub X d_Model_test_48 (z := nI (k0 - cntR th t (s0 + 1))) (by rw [cntR_yes g40, pk_sub (by omega)]; rfl) ?_
          refine lv_istore hx hb d_Model_test_49 hl (by decide) (lv' := [(6, .int (nI (k0 - cntR th t (s0 + 1)))), (5, .int (nI s0)), (0, .ref m0), (1, .int (nI t)), (2, .int (nI k0)), (3, .int (nI 15)), (4, .int (nI z))]) rfl (fun ls hl => ?_)
          refine lv_iinc hx hb d_Model_test_51 hl (k := 1) rfl (nI_inc1 _) (by decide) (lv' := [(5, .int (nI (s0 + 1))), (6, .int (nI (k0 - cntR th t (s0 + 1)))), (0, .ref m0), (1, .int (nI t)), (2, .int (nI k0)), (3, .int (nI 15)), (4, .int (nI z))]) rfl (fun ls hl => ?_)
          refine lv_goto hx hb d_Model_test_54 rfl ?_
          exact ih _ (by omega) (s0 + 1) _ _ _ rfl (by omega) (by rw [cntR_yes g40]; omega) hP hD hS (lv_sub hl [1, 0, 2, 3, 4, 5, 6] rfl)
  exact loop_6 _ 0 _ _ _ rfl (Nat.zero_le _) (Nat.zero_le _) hP hD hS hl

set_option maxHeartbeats 4000000 in
theorem c_Model_test (l : Launch) (D : va_G) (cI cZ cL : ClassId) (m0 o1 o2 o3 o4 o5 o6 o7 o8 o9 o10 o11 : Nat) (P K Hm ru lo hi tm sa ca ta tn : Nat → Int32) (fo1 fk1 : Int32) (co np n stat how pl la stt q dn : Nat) (th : Nat → Int32) (t k0 k z : Nat) (hn : n ≤ 4) (ht : t < 8) (hk0 : k0 < cntR th t n) (hk : k < 16) (hz : z ≤ 1600) (hru : rulR ru tm th) : pl_V l y_Model_test b_Model_test 9 ({ frames := 1, cells := 0, slots := 0, locals := 23 } : Room) pl_E0 D classes (TY cI cZ cL) [.ref m0, .int (nI t), .int (nI k0), .int (nI k), .int (nI z)] [(m0, .inr (6, [.int (nI co), .int (nI np), .ref o1, .ref o2, .ref o3, .int (nI n), .ref o4, .ref o5, .ref o6, .ref o7, .int fo1, .int fk1, .int (nI stat), .int (nI how), .int (nI pl), .int (nI la), .int (nI stt), .int (nI q), .ref o8, .ref o9, .int (nI dn), .ref o10, .ref o11])), (o4, .inl (cZ, 32, .inl ru)), (o5, .inl (cI, 32, .inl lo)), (o6, .inl (cI, 32, .inl hi)), (o7, .inl (cI, 32, .inl tm))] (fun u : Int32 × Int32 => ∃ s0, s0 < n ∧ ¬ th (s0 * 8 + t) = -1 ∧ cntR th t s0 = k0 ∧ u.1 = tO.getD k 0 ∧ u.2 = (tK lo hi th t s0 (z + 16 * k0) (z + cntR th t n * 16)).getD k 0) (fun (u : (Int32 × Int32)) => [(m0, .inr (6, [.int (nI co), .int (nI np), .ref o1, .ref o2, .ref o3, .int (nI n), .ref o4, .ref o5, .ref o6, .ref o7, .int u.1, .int u.2, .int (nI stat), .int (nI how), .int (nI pl), .int (nI la), .int (nI stt), .int (nI q), .ref o8, .ref o9, .int (nI dn), .ref o10, .ref o11])), (o4, .inl (cZ, 32, .inl ru)), (o5, .inl (cI, 32, .inl lo)), (o6, .inl (cI, 32, .inl hi)), (o7, .inl (cI, 32, .inl tm))]) := by
  rcases (show k = 0 ∨ k = 1 ∨ k = 2 ∨ k = 3 ∨ k = 4 ∨ k = 5 ∨ k = 6 ∨ k = 7 ∨ k = 8 ∨ k = 9 ∨ k = 10 ∨ k = 11 ∨ k = 12 ∨ k = 13 ∨ k = 14 ∨ k = 15 by omega) with rfl | rfl | rfl | rfl | rfl | rfl | rfl | rfl | rfl | rfl | rfl | rfl | rfl | rfl | rfl | rfl
  · exact pl_V_conv (c_Model_test_0 l D cI cZ cL m0 o1 o2 o3 o4 o5 o6 o7 o8 o9 o10 o11 P K Hm ru lo hi tm sa ca ta tn fo1 fk1 co np n stat how pl la stt q dn th t k0 z hn ht hk0 hz hru) (fun u => (nI 5, nI 7)) (fun u ⟨h1, h2, h3⟩ => ⟨u, h1, h2, h3, rfl, rfl⟩) (fun _ _ => rfl)
  · exact pl_V_conv (c_Model_test_1 l D cI cZ cL m0 o1 o2 o3 o4 o5 o6 o7 o8 o9 o10 o11 P K Hm ru lo hi tm sa ca ta tn fo1 fk1 co np n stat how pl la stt q dn th t k0 z hn ht hk0 hz hru) (fun u => (nI 0, nI u)) (fun u ⟨h1, h2, h3⟩ => ⟨u, h1, h2, h3, rfl, rfl⟩) (fun _ _ => rfl)
  · exact pl_V_conv (c_Model_test_2 l D cI cZ cL m0 o1 o2 o3 o4 o5 o6 o7 o8 o9 o10 o11 P K Hm ru lo hi tm sa ca ta tn fo1 fk1 co np n stat how pl la stt q dn th t k0 z hn ht hk0 hz hru) (fun u => (nI 3, nI 0)) (fun u ⟨h1, h2, h3⟩ => ⟨u, h1, h2, h3, rfl, rfl⟩) (fun _ _ => rfl)
  · exact pl_V_conv (c_Model_test_3 l D cI cZ cL m0 o1 o2 o3 o4 o5 o6 o7 o8 o9 o10 o11 P K Hm ru lo hi tm sa ca ta tn fo1 fk1 co np n stat how pl la stt q dn th t k0 z hn ht hk0 hz hru) (fun u => (nI 8, nI (z + (k0 + 1) * 16))) (fun u ⟨h1, h2, h3⟩ => ⟨u, h1, h2, h3, rfl, congrArg nI (by omega)⟩) (fun _ _ => rfl)
  · exact pl_V_conv (c_Model_test_4 l D cI cZ cL m0 o1 o2 o3 o4 o5 o6 o7 o8 o9 o10 o11 P K Hm ru lo hi tm sa ca ta tn fo1 fk1 co np n stat how pl la stt q dn th t k0 z hn ht hk0 hz hru) (fun u => (nI 11, nI 0)) (fun u ⟨h1, h2, h3⟩ => ⟨u, h1, h2, h3, rfl, rfl⟩) (fun _ _ => rfl)
  · exact pl_V_conv (c_Model_test_5 l D cI cZ cL m0 o1 o2 o3 o4 o5 o6 o7 o8 o9 o10 o11 P K Hm ru lo hi tm sa ca ta tn fo1 fk1 co np n stat how pl la stt q dn th t k0 z hn ht hk0 hz hru) (fun u => (nI 0, lo (u * 8 + t))) (fun u ⟨h1, h2, h3⟩ => ⟨u, h1, h2, h3, rfl, rfl⟩) (fun _ _ => rfl)
  · exact pl_V_conv (c_Model_test_6 l D cI cZ cL m0 o1 o2 o3 o4 o5 o6 o7 o8 o9 o10 o11 P K Hm ru lo hi tm sa ca ta tn fo1 fk1 co np n stat how pl la stt q dn th t k0 z hn ht hk0 hz hru) (fun u => (nI 4, nI 0)) (fun u ⟨h1, h2, h3⟩ => ⟨u, h1, h2, h3, rfl, rfl⟩) (fun _ _ => rfl)
  · exact pl_V_conv (c_Model_test_7 l D cI cZ cL m0 o1 o2 o3 o4 o5 o6 o7 o8 o9 o10 o11 P K Hm ru lo hi tm sa ca ta tn fo1 fk1 co np n stat how pl la stt q dn th t k0 z hn ht hk0 hz hru) (fun u => (nI 8, nI (z + cntR th t n * 16))) (fun u ⟨h1, h2, h3⟩ => ⟨u, h1, h2, h3, rfl, rfl⟩) (fun _ _ => rfl)
  · exact pl_V_conv (c_Model_test_8 l D cI cZ cL m0 o1 o2 o3 o4 o5 o6 o7 o8 o9 o10 o11 P K Hm ru lo hi tm sa ca ta tn fo1 fk1 co np n stat how pl la stt q dn th t k0 z hn ht hk0 hz hru) (fun u => (nI 11, nI 0)) (fun u ⟨h1, h2, h3⟩ => ⟨u, h1, h2, h3, rfl, rfl⟩) (fun _ _ => rfl)
  · exact pl_V_conv (c_Model_test_9 l D cI cZ cL m0 o1 o2 o3 o4 o5 o6 o7 o8 o9 o10 o11 P K Hm ru lo hi tm sa ca ta tn fo1 fk1 co np n stat how pl la stt q dn th t k0 z hn ht hk0 hz hru) (fun u => (nI 0, hi (u * 8 + t))) (fun u ⟨h1, h2, h3⟩ => ⟨u, h1, h2, h3, rfl, rfl⟩) (fun _ _ => rfl)
  · exact pl_V_conv (c_Model_test_10 l D cI cZ cL m0 o1 o2 o3 o4 o5 o6 o7 o8 o9 o10 o11 P K Hm ru lo hi tm sa ca ta tn fo1 fk1 co np n stat how pl la stt q dn th t k0 z hn ht hk0 hz hru) (fun u => (nI 10, nI 0)) (fun u ⟨h1, h2, h3⟩ => ⟨u, h1, h2, h3, rfl, rfl⟩) (fun _ _ => rfl)
  · exact pl_V_conv (c_Model_test_11 l D cI cZ cL m0 o1 o2 o3 o4 o5 o6 o7 o8 o9 o10 o11 P K Hm ru lo hi tm sa ca ta tn fo1 fk1 co np n stat how pl la stt q dn th t k0 z hn ht hk0 hz hru) (fun u => (nI 4, nI 0)) (fun u ⟨h1, h2, h3⟩ => ⟨u, h1, h2, h3, rfl, rfl⟩) (fun _ _ => rfl)
  · exact pl_V_conv (c_Model_test_12 l D cI cZ cL m0 o1 o2 o3 o4 o5 o6 o7 o8 o9 o10 o11 P K Hm ru lo hi tm sa ca ta tn fo1 fk1 co np n stat how pl la stt q dn th t k0 z hn ht hk0 hz hru) (fun u => (nI 8, nI (z + cntR th t n * 16))) (fun u ⟨h1, h2, h3⟩ => ⟨u, h1, h2, h3, rfl, rfl⟩) (fun _ _ => rfl)
  · exact pl_V_conv (c_Model_test_13 l D cI cZ cL m0 o1 o2 o3 o4 o5 o6 o7 o8 o9 o10 o11 P K Hm ru lo hi tm sa ca ta tn fo1 fk1 co np n stat how pl la stt q dn th t k0 z hn ht hk0 hz hru) (fun u => (nI 0, tm (u * 8 + t))) (fun u ⟨h1, h2, h3⟩ => ⟨u, h1, h2, h3, rfl, (hru _ (by omega)).2 h2⟩) (fun _ _ => rfl)
  · exact pl_V_conv (c_Model_test_14 l D cI cZ cL m0 o1 o2 o3 o4 o5 o6 o7 o8 o9 o10 o11 P K Hm ru lo hi tm sa ca ta tn fo1 fk1 co np n stat how pl la stt q dn th t k0 z hn ht hk0 hz hru) (fun u => (nI 6, nI 7)) (fun u ⟨h1, h2, h3⟩ => ⟨u, h1, h2, h3, rfl, rfl⟩) (fun _ _ => rfl)
  · exact pl_V_conv (c_Model_test_15 l D cI cZ cL m0 o1 o2 o3 o4 o5 o6 o7 o8 o9 o10 o11 P K Hm ru lo hi tm sa ca ta tn fo1 fk1 co np n stat how pl la stt q dn th t k0 z hn ht hk0 hz hru) (fun u => (nI 7, nI (z + cntR th t n * 16 + 1))) (fun u ⟨h1, h2, h3⟩ => ⟨u, h1, h2, h3, rfl, rfl⟩) (fun _ _ => rfl)

set_option maxHeartbeats 4000000 in
set_option maxRecDepth 100000 in
theorem c_Model_find (l : Launch) (D : va_G) (cI cZ cL : ClassId) (m0 o1 o2 o3 o4 o5 o6 o7 o8 o9 o10 o11 : Nat) (P K Hm ru lo hi tm sa ca ta tn : Nat → Int32) (fo1 fk1 : Int32) (co np n stat how pl la stt q dn : Nat) (th : Nat → Int32) (pp : Nat) (hn : n ≤ 4) (hnp : np ≤ 24) (hop : okP P np) (hok : okK P K np) (hru : rulR ru tm th) (hpp : pp < plc P K th n np) : pl_V l y_Model_find b_Model_find 5 ({ frames := 3, cells := 0, slots := 0, locals := 67 } : Room) pl_E0 D classes (TY cI cZ cL) [.ref m0, .int (nI pp)] [(m0, .inr (6, [.int (nI co), .int (nI np), .ref o1, .ref o2, .ref o3, .int (nI n), .ref o4, .ref o5, .ref o6, .ref o7, .int fo1, .int fk1, .int (nI stat), .int (nI how), .int (nI pl), .int (nI la), .int (nI stt), .int (nI q), .ref o8, .ref o9, .int (nI dn), .ref o10, .ref o11])), (o1, .inl (cI, 24, .inl P)), (o2, .inl (cI, 24, .inl K)), (o4, .inl (cZ, 32, .inl ru)), (o5, .inl (cI, 32, .inl lo)), (o6, .inl (cI, 32, .inl hi)), (o7, .inl (cI, 32, .inl tm))] (fun u : Int32 × Int32 => u.1 = (wO P K th n np).getD pp 0 ∧ u.2 = (wK P K lo hi th n np).getD pp 0) (fun (u : (Int32 × Int32)) => [(m0, .inr (6, [.int (nI co), .int (nI np), .ref o1, .ref o2, .ref o3, .int (nI n), .ref o4, .ref o5, .ref o6, .ref o7, .int u.1, .int u.2, .int (nI stat), .int (nI how), .int (nI pl), .int (nI la), .int (nI stt), .int (nI q), .ref o8, .ref o9, .int (nI dn), .ref o10, .ref o11])), (o1, .inl (cI, 24, .inl P)), (o2, .inl (cI, 24, .inl K)), (o4, .inl (cZ, 32, .inl ru)), (o5, .inl (cI, 32, .inl lo)), (o6, .inl (cI, 32, .inl hi)), (o7, .inl (cI, 32, .inl tm))]) := by
  refine pl_startV (by decide) (Nat.le_of_ble_eq_true rfl) ?_
  intro p e s m args below meth c A ls X hr hlk hin hK hP hD hS hA hE hl
  have X : CallFix p m c b_Model_find 5 s args TG R_Model := X
  have hx := X.1
  have hb := X.2.1
  have hl : lv_has ls 5 [(0, .ref m0), (1, .int (nI pp))] := hl
  have hpn := plc_le P K th hn np
  refine lv_iconst (v := nI 0) hx hb d_Model_find_0 (by decide) ?_
  refine lv_istore_n hx hb d_Model_find_1 rfl hl (by decide) (lv' := [(2, .int (nI 0)), (0, .ref m0), (1, .int (nI pp))]) rfl (fun ls hl => ?_)
  have loop_2 : ∀ (k : Nat) (i : Nat) (H : Heap) (locs : List Loc) (ls : Array Slot), np - i = k → (i < np) → (plc P K th n i ≤ pp) → va_P D classes [(m0, .inr (6, [.int (nI co), .int (nI np), .ref o1, .ref o2, .ref o3, .int (nI n), .ref o4, .ref o5, .ref o6, .ref o7, .int fo1, .int fk1, .int (nI stat), .int (nI how), .int (nI pl), .int (nI la), .int (nI stt), .int (nI q), .ref o8, .ref o9, .int (nI dn), .ref o10, .ref o11])), (o1, .inl (cI, 24, .inl P)), (o2, .inl (cI, 24, .inl K)), (o4, .inl (cZ, 32, .inl ru)), (o5, .inl (cI, 32, .inl lo)), (o6, .inl (cI, 32, .inl hi)), (o7, .inl (cI, 32, .inl tm))] H → va_D A [(m0, .inr (6, [.int (nI co), .int (nI np), .ref o1, .ref o2, .ref o3, .int (nI n), .ref o4, .ref o5, .ref o6, .ref o7, .int fo1, .int fk1, .int (nI stat), .int (nI how), .int (nI pl), .int (nI la), .int (nI stt), .int (nI q), .ref o8, .ref o9, .int (nI dn), .ref o10, .ref o11])), (o1, .inl (cI, 24, .inl P)), (o2, .inl (cI, 24, .inl K)), (o4, .inl (cZ, 32, .inl ru)), (o5, .inl (cI, 32, .inl lo)), (o6, .inl (cI, 32, .inl hi)), (o7, .inl (cI, 32, .inl tm))] → va_S A s.heap H locs → lv_has ls 5 [(2, .int (nI i)), (0, .ref m0), (1, .int (nI pp))] → W p l e ({ frames := 3, cells := 0, slots := 0, locals := 67 } : Room) s m args below meth c H locs 0 0 (MQ below (va_Qv (fun u : Int32 × Int32 => u.1 = (wO P K th n np).getD pp 0 ∧ u.2 = (wK P K lo hi th n np).getD pp 0) (fun u => pl_out D classes (TY cI cZ cL) A ((fun (u : (Int32 × Int32)) => [(m0, .inr (6, [.int (nI co), .int (nI np), .ref o1, .ref o2, .ref o3, .int (nI n), .ref o4, .ref o5, .ref o6, .ref o7, .int u.1, .int u.2, .int (nI stat), .int (nI how), .int (nI pl), .int (nI la), .int (nI stt), .int (nI q), .ref o8, .ref o9, .int (nI dn), .ref o10, .ref o11])), (o1, .inl (cI, 24, .inl P)), (o2, .inl (cI, 24, .inl K)), (o4, .inl (cZ, 32, .inl ru)), (o5, .inl (cI, 32, .inl lo)), (o6, .inl (cI, 32, .inl hi)), (o7, .inl (cI, 32, .inl tm))]) u)) A) args s 0 0 A) (F0 m 2 ls []) := by
    intro k
    induction k using Nat.strongRecOn with
    | _ k ih =>
    intro i H locs ls hk hilt hpi hP hD hS hl
    have hpl := plc_le P K th hn (i + 1)
    refine lv_aload_n hx hb d_Model_find_2 rfl (lv_at hl 1 rfl) ?_
    refine lv_iload_n hx hb d_Model_find_3 rfl (lv_at hl 0 rfl) ?_
    refine lv_iconst (v := nI 1) hx hb d_Model_find_4 (by decide) ?_
    refine pl_iadd X d_Model_find_5 (z := nI (i + 1)) (nI_add _ _) ?_
    refine pl_callVI X (rest := []) (As := [.int (nI (i + 1))]) (b := m0) (c_Model_place l D cI cZ cL m0 o1 o2 o3 o4 o5 o6 o7 o8 o9 o10 o11 P K Hm ru lo hi tm sa ca ta tn fo1 fk1 co np n stat how pl la stt q dn th (i + 1) hn hnp hop hok hru (by omega)) ck_Model_97 pl_E0_ok trivial hK hP hD hS hA (T := F_Model) (N := N_Model) (ci := 6) rfl 0 rfl [0, 1, 2, 3] [4, 5, 6] [3, 4, 5, 6, 0, 1, 2] rfl (by decide) (wr := [(o5, .inl (cI, 32, .inl lo)), (o6, .inl (cI, 32, .inl hi)), (o7, .inl (cI, 32, .inl tm))]) rfl (by decide) (by decide) (wf := fun _ => [(m0, .inr (6, [.int (nI co), .int (nI np), .ref o1, .ref o2, .ref o3, .int (nI n), .ref o4, .ref o5, .ref o6, .ref o7, .int fo1, .int fk1, .int (nI stat), .int (nI how), .int (nI pl), .int (nI la), .int (nI stt), .int (nI q), .ref o8, .ref o9, .int (nI dn), .ref o10, .ref o11])), (o1, .inl (cI, 24, .inl P)), (o2, .inl (cI, 24, .inl K)), (o4, .inl (cZ, 32, .inl ru)), (o5, .inl (cI, 32, .inl lo)), (o6, .inl (cI, 32, .inl hi)), (o7, .inl (cI, 32, .inl tm))]) (fun _ => rfl) (by decide) rfl hl.1 rfl (Nat.le_of_ble_eq_true rfl) (by decide) (by decide) d_Model_find_6 (fun r u0 H locs hcq hP hD hS => ?_)
    subst hcq
    refine lv_iload_n hx hb d_Model_find_9 rfl (lv_at hl 2 rfl) ?_
    refine pl_icmp_gt X (by omega) (by omega) d_Model_find_10 rfl (fun g10 => ?_) (fun g10 => ?_)
    · skip
      obtain ⟨ho1, ho2⟩ := hop i hilt
      have hah := ahd_le P K th hn i
      have hps1 : plc P K th n (i + 1) = plc P K th n i + ahd P K th n i + 1 := rfl
      refine lv_iload_n hx hb d_Model_find_19 rfl (lv_at hl 2 rfl) ?_
      refine lv_aload_n hx hb d_Model_find_20 rfl (lv_at hl 1 rfl) ?_
      refine lv_iload_n hx hb d_Model_find_21 rfl (lv_at hl 0 rfl) ?_
      refine pl_callVI X (rest := [.int (nI pp)]) (As := [.int (nI i)]) (b := m0) (c_Model_place l D cI cZ cL m0 o1 o2 o3 o4 o5 o6 o7 o8 o9 o10 o11 P K Hm ru lo hi tm sa ca ta tn fo1 fk1 co np n stat how pl la stt q dn th i hn hnp hop hok hru (by omega)) ck_Model_97 pl_E0_ok trivial hK hP hD hS hA (T := F_Model) (N := N_Model) (ci := 6) rfl 0 rfl [0, 1, 2, 3] [4, 5, 6] [3, 4, 5, 6, 0, 1, 2] rfl (by decide) (wr := [(o5, .inl (cI, 32, .inl lo)), (o6, .inl (cI, 32, .inl hi)), (o7, .inl (cI, 32, .inl tm))]) rfl (by decide) (by decide) (wf := fun _ => [(m0, .inr (6, [.int (nI co), .int (nI np), .ref o1, .ref o2, .ref o3, .int (nI n), .ref o4, .ref o5, .ref o6, .ref o7, .int fo1, .int fk1, .int (nI stat), .int (nI how), .int (nI pl), .int (nI la), .int (nI stt), .int (nI q), .ref o8, .ref o9, .int (nI dn), .ref o10, .ref o11])), (o1, .inl (cI, 24, .inl P)), (o2, .inl (cI, 24, .inl K)), (o4, .inl (cZ, 32, .inl ru)), (o5, .inl (cI, 32, .inl lo)), (o6, .inl (cI, 32, .inl hi)), (o7, .inl (cI, 32, .inl tm))]) (fun _ => rfl) (by decide) rfl hl.1 rfl (Nat.le_of_ble_eq_true rfl) (by decide) (by decide) d_Model_find_22 (fun r u0 H locs hcq hP hD hS => ?_)
      subst hcq
      refine pl_isub X d_Model_find_25 (z := nI (pp - plc P K th n i)) (pk_sub (by omega)) ?_
      refine lv_istore_n hx hb d_Model_find_26 rfl hl (by decide) (lv' := [(3, .int (nI (pp - plc P K th n i))), (2, .int (nI i)), (0, .ref m0), (1, .int (nI pp))]) rfl (fun ls hl => ?_)
      refine lv_aload_n hx hb d_Model_find_27 rfl (lv_at hl 2 rfl) ?_
      refine lv_iload_n hx hb d_Model_find_28 rfl (lv_at hl 1 rfl) ?_
      refine pl_callVI X (rest := []) (As := [.int (nI i)]) (b := m0) (c_Model_aheadOf l D cI cZ cL m0 o1 o2 o3 o4 o5 o6 o7 o8 o9 o10 o11 P K Hm ru lo hi tm sa ca ta tn fo1 fk1 co np n stat how pl la stt q dn th i hn hnp hop hok hru hilt) ck_Model_88 pl_E0_ok trivial hK hP hD hS hA (T := F_Model) (N := N_Model) (ci := 6) rfl 0 rfl [0, 1, 2, 3] [4, 5, 6] [3, 4, 5, 6, 0, 1, 2] rfl (by decide) (wr := [(o5, .inl (cI, 32, .inl lo)), (o6, .inl (cI, 32, .inl hi)), (o7, .inl (cI, 32, .inl tm))]) rfl (by decide) (by decide) (wf := fun _ => [(m0, .inr (6, [.int (nI co), .int (nI np), .ref o1, .ref o2, .ref o3, .int (nI n), .ref o4, .ref o5, .ref o6, .ref o7, .int fo1, .int fk1, .int (nI stat), .int (nI how), .int (nI pl), .int (nI la), .int (nI stt), .int (nI q), .ref o8, .ref o9, .int (nI dn), .ref o10, .ref o11])), (o1, .inl (cI, 24, .inl P)), (o2, .inl (cI, 24, .inl K)), (o4, .inl (cZ, 32, .inl ru)), (o5, .inl (cI, 32, .inl lo)), (o6, .inl (cI, 32, .inl hi)), (o7, .inl (cI, 32, .inl tm))]) (fun _ => rfl) (by decide) rfl hl.1 rfl (Nat.le_of_ble_eq_true rfl) (by decide) (by decide) d_Model_find_29 (fun r u0 H locs hcq hP hD hS => ?_)
      subst hcq
      refine lv_istore hx hb d_Model_find_32 hl (by decide) (lv' := [(4, .int (nI (ahd P K th n i))), (3, .int (nI (pp - plc P K th n i))), (2, .int (nI i)), (0, .ref m0), (1, .int (nI pp))]) rfl (fun ls hl => ?_)
      refine lv_iload_n hx hb d_Model_find_34 rfl (lv_at hl 1 rfl) ?_
      refine lv_iload hx hb d_Model_find_35 (lv_at hl 0 rfl) ?_
      refine pl_icmp_ne X (by omega) (by omega) d_Model_find_37 rfl (fun g37 => ?_) (fun g37 => ?_)
      · skip
        obtain ⟨h9, hah9⟩ := ahd_9 (show ahd P K th n i ≠ 0 by omega)
        obtain ⟨hk1, hk2⟩ := okK_9 hok hilt h9
        have hcn := cntR_le th (kn K i) n
        refine lv_iload_n hx hb d_Model_find_94 rfl (lv_at hl 1 rfl) ?_
        refine lv_iload hx hb d_Model_find_95 (lv_at hl 0 rfl) ?_
        refine lv_iconst (v := nI 1) hx hb d_Model_find_97 (by decide) ?_
        refine pl_isub X d_Model_find_98 (z := nI (ahd P K th n i - 1)) (pk_sub (by omega)) ?_
        refine pl_icmp_ne X (by omega) (by omega) d_Model_find_99 rfl (fun g99 => ?_) (fun g99 => ?_)
        · skip
          refine lv_aload_n hx hb d_Model_find_112 rfl (lv_at hl 3 rfl) ?_
          refine lv_aload_n hx hb d_Model_find_113 rfl (lv_at hl 3 rfl) ?_
          refine pl_get X fw_Model_13 hK hP 0 rfl (v := .ref o2) rfl d_Model_find_114 ?_
          refine lv_iload_n hx hb d_Model_find_117 rfl (lv_at hl 2 rfl) ?_
          refine pl_iald X hK hP 2 0 rfl rfl i (by omega) (by decide) (z := nI (kn K i)) hk1 d_Model_find_118 ?_
          refine lv_iload_n hx hb d_Model_find_119 rfl (lv_at hl 1 rfl) ?_
          refine lv_bipush (v := nI 16) hx hb d_Model_find_120 (by decide) ?_
          refine pl_idiv X (by decide) (by omega) (by decide) d_Model_find_122 ?_
          refine lv_iload_n hx hb d_Model_find_123 rfl (lv_at hl 1 rfl) ?_
          refine lv_bipush (v := nI 16) hx hb d_Model_find_124 (by decide) ?_
          refine pl_irem X (by decide) (by omega) (by decide) d_Model_find_126 ?_
          refine lv_aload_n hx hb d_Model_find_127 rfl (lv_at hl 3 rfl) ?_
          refine lv_iload_n hx hb d_Model_find_128 rfl (lv_at hl 2 rfl) ?_
          refine pl_callVI X (rest := [.int (nI ((pp - plc P K th n i) % 16)), .int (nI ((pp - plc P K th n i) / 16)), .int (nI (kn K i)), .ref m0]) (As := [.int (nI i)]) (b := m0) (c_Model_place l D cI cZ cL m0 o1 o2 o3 o4 o5 o6 o7 o8 o9 o10 o11 P K Hm ru lo hi tm sa ca ta tn fo1 fk1 co np n stat how pl la stt q dn th i hn hnp hop hok hru (by omega)) ck_Model_97 pl_E0_ok trivial hK hP hD hS hA (T := F_Model) (N := N_Model) (ci := 6) rfl 0 rfl [0, 1, 2, 3] [4, 5, 6] [3, 4, 5, 6, 0, 1, 2] rfl (by decide) (wr := [(o5, .inl (cI, 32, .inl lo)), (o6, .inl (cI, 32, .inl hi)), (o7, .inl (cI, 32, .inl tm))]) rfl (by decide) (by decide) (wf := fun _ => [(m0, .inr (6, [.int (nI co), .int (nI np), .ref o1, .ref o2, .ref o3, .int (nI n), .ref o4, .ref o5, .ref o6, .ref o7, .int fo1, .int fk1, .int (nI stat), .int (nI how), .int (nI pl), .int (nI la), .int (nI stt), .int (nI q), .ref o8, .ref o9, .int (nI dn), .ref o10, .ref o11])), (o1, .inl (cI, 24, .inl P)), (o2, .inl (cI, 24, .inl K)), (o4, .inl (cZ, 32, .inl ru)), (o5, .inl (cI, 32, .inl lo)), (o6, .inl (cI, 32, .inl hi)), (o7, .inl (cI, 32, .inl tm))]) (fun _ => rfl) (by decide) rfl hl.1 rfl (Nat.le_of_ble_eq_true rfl) (by decide) (by decide) d_Model_find_129 (fun r u0 H locs hcq hP hD hS => ?_)
          subst hcq
          refine pl_callVV X (rest := []) (As := [.int (nI (kn K i)), .int (nI ((pp - plc P K th n i) / 16)), .int (nI ((pp - plc P K th n i) % 16)), .int (nI (plc P K th n i))]) (b := m0) (c_Model_test l D cI cZ cL m0 o1 o2 o3 o4 o5 o6 o7 o8 o9 o10 o11 P K Hm ru lo hi tm sa ca ta tn fo1 fk1 co np n stat how pl la stt q dn th (kn K i) ((pp - plc P K th n i) / 16) ((pp - plc P K th n i) % 16) (plc P K th n i) hn hk2 (by omega) (by omega) (by have := plc_le P K th hn i; omega) hru) ck_Model_104 pl_E0_ok trivial hK hP hD hS hA (T := F_Model) (N := N_Model) (ci := 6) rfl 0 rfl [0, 3, 4, 5, 6] [1, 2] [2, 0, 1, 3, 4, 5, 6] rfl (by decide) (wr := [(o1, .inl (cI, 24, .inl P)), (o2, .inl (cI, 24, .inl K))]) rfl (by decide) (by decide) (wf := fun (u : Int32 × Int32) => [(m0, .inr (6, [.int (nI co), .int (nI np), .ref o1, .ref o2, .ref o3, .int (nI n), .ref o4, .ref o5, .ref o6, .ref o7, .int u.1, .int u.2, .int (nI stat), .int (nI how), .int (nI pl), .int (nI la), .int (nI stt), .int (nI q), .ref o8, .ref o9, .int (nI dn), .ref o10, .ref o11])), (o1, .inl (cI, 24, .inl P)), (o2, .inl (cI, 24, .inl K)), (o4, .inl (cZ, 32, .inl ru)), (o5, .inl (cI, 32, .inl lo)), (o6, .inl (cI, 32, .inl hi)), (o7, .inl (cI, 32, .inl tm))]) (fun _ => rfl) (by decide) rfl hl.1 rfl (Nat.le_of_ble_eq_true rfl) (by decide) (by decide) d_Model_find_132 (fun u H locs hcq hP hD hS => ?_)
          obtain ⟨s9, hs9, hg9, hc9, he1, he2⟩ := hcq
          have hpt : pp = plc P K th n i + (16 * cntR th (kn K i) s9 + (pp - plc P K th n i) % 16) := by rw [hc9]; omega
          exact pl_vret X hr hlk hK u ⟨by conv => { rhs; rw [hpt] }; rw [wO_test hilt h9 hs9 hg9 (by omega)]; exact he1, by conv => { rhs; rw [hpt] }; rw [wK_test hilt h9 hs9 hg9 (by omega), hc9]; exact he2⟩ hP hD hS d_Model_find_135
        · skip
          have hps : pp = plc P K th n i + 16 * cntR th (kn K i) n := by omega
          refine lv_aload_n hx hb d_Model_find_102 rfl (lv_at hl 3 rfl) ?_
          refine lv_bipush (v := nI 12) hx hb d_Model_find_103 (by decide) ?_
          refine lv_iconst (v := nI 0) hx hb d_Model_find_105 (by decide) ?_
          refine pl_callVV X (rest := []) (As := [.int (nI 12), .int (nI 0)]) (b := m0) (c_Model_set l D cI cZ cL m0 o1 o2 o3 o4 o5 o6 o7 o8 o9 o10 o11 P K Hm ru lo hi tm sa ca ta tn fo1 fk1 co np n stat how pl la stt q dn (nI 12) (nI 0)) ck_Model_100 pl_E0_ok trivial hK hP hD hS hA (T := F_Model) (N := N_Model) (ci := 6) rfl 0 rfl [0] [1, 2, 3, 4, 5, 6] [6, 0, 1, 2, 3, 4, 5] rfl (by decide) (wr := [(o1, .inl (cI, 24, .inl P)), (o2, .inl (cI, 24, .inl K)), (o4, .inl (cZ, 32, .inl ru)), (o5, .inl (cI, 32, .inl lo)), (o6, .inl (cI, 32, .inl hi)), (o7, .inl (cI, 32, .inl tm))]) rfl (by decide) (by decide) (wf := fun _ => [(m0, .inr (6, [.int (nI co), .int (nI np), .ref o1, .ref o2, .ref o3, .int (nI n), .ref o4, .ref o5, .ref o6, .ref o7, .int (nI 12), .int (nI 0), .int (nI stat), .int (nI how), .int (nI pl), .int (nI la), .int (nI stt), .int (nI q), .ref o8, .ref o9, .int (nI dn), .ref o10, .ref o11])), (o1, .inl (cI, 24, .inl P)), (o2, .inl (cI, 24, .inl K)), (o4, .inl (cZ, 32, .inl ru)), (o5, .inl (cI, 32, .inl lo)), (o6, .inl (cI, 32, .inl hi)), (o7, .inl (cI, 32, .inl tm))]) (fun _ => rfl) (by decide) rfl hl.1 rfl (Nat.le_of_ble_eq_true rfl) (by decide) (by decide) d_Model_find_106 (fun u0 H locs hcq hP hD hS => ?_)
          refine lv_goto hx hb d_Model_find_109 rfl ?_
          exact pl_vret X hr hlk hK (nI 12, nI 0) ⟨by rw [hps]; exact (wO_stop hilt h9).symm, by rw [hps]; exact (wK_stop hilt h9).symm⟩ hP hD hS d_Model_find_135
      · skip
        have hpo : pp = plc P K th n i + ahd P K th n i := by omega
        refine lv_aload_n hx hb d_Model_find_40 rfl (lv_at hl 3 rfl) ?_
        refine lv_aload_n hx hb d_Model_find_41 rfl (lv_at hl 3 rfl) ?_
        refine pl_get X fw_Model_7 hK hP 0 rfl (v := .ref o1) rfl d_Model_find_42 ?_
        refine lv_iload_n hx hb d_Model_find_45 rfl (lv_at hl 2 rfl) ?_
        refine pl_iald X hK hP 1 0 rfl rfl i (by omega) (by decide) (z := nI (opn P i)) ho1 d_Model_find_46 ?_
        refine lv_aload_n hx hb d_Model_find_47 rfl (lv_at hl 3 rfl) ?_
        refine pl_get X fw_Model_7 hK hP 0 rfl (v := .ref o1) rfl d_Model_find_48 ?_
        refine lv_iload_n hx hb d_Model_find_51 rfl (lv_at hl 2 rfl) ?_
        refine pl_iald X hK hP 1 0 rfl rfl i (by omega) (by decide) (z := nI (opn P i)) ho1 d_Model_find_52 ?_
        refine lv_bipush (v := nI 7) hx hb d_Model_find_53 (by decide) ?_
        refine pl_icmp_eq X (by omega) (by decide) d_Model_find_55 rfl (fun g55 => ?_) (fun g55 => ?_)
        · skip
          obtain ⟨hk1, hk2⟩ := okK_7 (by omega) hok hilt (show opn P i = 7 ∨ opn P i = 8 by omega)
          refine lv_aload_n hx hb d_Model_find_69 rfl (lv_at hl 3 rfl) ?_
          refine lv_aload_n hx hb d_Model_find_70 rfl (lv_at hl 3 rfl) ?_
          refine pl_get X fw_Model_13 hK hP 0 rfl (v := .ref o2) rfl d_Model_find_71 ?_
          refine lv_iload_n hx hb d_Model_find_74 rfl (lv_at hl 2 rfl) ?_
          refine pl_iald X hK hP 2 0 rfl rfl i (by omega) (by decide) (z := nI (kn K i)) hk1 d_Model_find_75 ?_
          refine pl_callVI X (rest := [.int (nI (opn P i)), .ref m0]) (As := [.int (nI (kn K i))]) (b := m0) (c_Model_place l D cI cZ cL m0 o1 o2 o3 o4 o5 o6 o7 o8 o9 o10 o11 P K Hm ru lo hi tm sa ca ta tn fo1 fk1 co np n stat how pl la stt q dn th (kn K i) hn hnp hop hok hru (by omega)) ck_Model_97 pl_E0_ok trivial hK hP hD hS hA (T := F_Model) (N := N_Model) (ci := 6) rfl 0 rfl [0, 1, 2, 3] [4, 5, 6] [3, 4, 5, 6, 0, 1, 2] rfl (by decide) (wr := [(o5, .inl (cI, 32, .inl lo)), (o6, .inl (cI, 32, .inl hi)), (o7, .inl (cI, 32, .inl tm))]) rfl (by decide) (by decide) (wf := fun _ => [(m0, .inr (6, [.int (nI co), .int (nI np), .ref o1, .ref o2, .ref o3, .int (nI n), .ref o4, .ref o5, .ref o6, .ref o7, .int fo1, .int fk1, .int (nI stat), .int (nI how), .int (nI pl), .int (nI la), .int (nI stt), .int (nI q), .ref o8, .ref o9, .int (nI dn), .ref o10, .ref o11])), (o1, .inl (cI, 24, .inl P)), (o2, .inl (cI, 24, .inl K)), (o4, .inl (cZ, 32, .inl ru)), (o5, .inl (cI, 32, .inl lo)), (o6, .inl (cI, 32, .inl hi)), (o7, .inl (cI, 32, .inl tm))]) (fun _ => rfl) (by decide) rfl hl.1 rfl (Nat.le_of_ble_eq_true rfl) (by decide) (by decide) d_Model_find_76 (fun r u0 H locs hcq hP hD hS => ?_)
          subst hcq
          refine lv_goto hx hb d_Model_find_79 rfl ?_
          refine pl_callVV X (rest := []) (As := [.int (nI (opn P i)), .int (nI (plc P K th n (kn K i)))]) (b := m0) (c_Model_set l D cI cZ cL m0 o1 o2 o3 o4 o5 o6 o7 o8 o9 o10 o11 P K Hm ru lo hi tm sa ca ta tn fo1 fk1 co np n stat how pl la stt q dn (nI (opn P i)) (nI (plc P K th n (kn K i)))) ck_Model_100 pl_E0_ok trivial hK hP hD hS hA (T := F_Model) (N := N_Model) (ci := 6) rfl 0 rfl [0] [1, 2, 3, 4, 5, 6] [6, 0, 1, 2, 3, 4, 5] rfl (by decide) (wr := [(o1, .inl (cI, 24, .inl P)), (o2, .inl (cI, 24, .inl K)), (o4, .inl (cZ, 32, .inl ru)), (o5, .inl (cI, 32, .inl lo)), (o6, .inl (cI, 32, .inl hi)), (o7, .inl (cI, 32, .inl tm))]) rfl (by decide) (by decide) (wf := fun _ => [(m0, .inr (6, [.int (nI co), .int (nI np), .ref o1, .ref o2, .ref o3, .int (nI n), .ref o4, .ref o5, .ref o6, .ref o7, .int (nI (opn P i)), .int (nI (plc P K th n (kn K i))), .int (nI stat), .int (nI how), .int (nI pl), .int (nI la), .int (nI stt), .int (nI q), .ref o8, .ref o9, .int (nI dn), .ref o10, .ref o11])), (o1, .inl (cI, 24, .inl P)), (o2, .inl (cI, 24, .inl K)), (o4, .inl (cZ, 32, .inl ru)), (o5, .inl (cI, 32, .inl lo)), (o6, .inl (cI, 32, .inl hi)), (o7, .inl (cI, 32, .inl tm))]) (fun _ => rfl) (by decide) rfl hl.1 rfl (Nat.le_of_ble_eq_true rfl) (by decide) (by decide) d_Model_find_88 (fun u0 H locs hcq hP hD hS => ?_)
          refine lv_goto hx hb d_Model_find_91 rfl ?_
          exact pl_vret X hr hlk hK (nI (opn P i), nI (plc P K th n (kn K i))) ⟨by rw [hpo]; exact (wO_own hilt).symm, by rw [hpo]; exact ((wK_own hilt).trans (tgt_g (by omega))).symm⟩ hP hD hS d_Model_find_135
        · skip
          refine lv_aload_n hx hb d_Model_find_58 rfl (lv_at hl 3 rfl) ?_
          refine pl_get X fw_Model_7 hK hP 0 rfl (v := .ref o1) rfl d_Model_find_59 ?_
          refine lv_iload_n hx hb d_Model_find_62 rfl (lv_at hl 2 rfl) ?_
          refine pl_iald X hK hP 1 0 rfl rfl i (by omega) (by decide) (z := nI (opn P i)) ho1 d_Model_find_63 ?_
          refine lv_bipush (v := nI 8) hx hb d_Model_find_64 (by decide) ?_
          refine pl_icmp_ne X (by omega) (by decide) d_Model_find_66 rfl (fun g66 => ?_) (fun g66 => ?_)
          · skip
            refine lv_aload_n hx hb d_Model_find_82 rfl (lv_at hl 3 rfl) ?_
            refine pl_get X fw_Model_13 hK hP 0 rfl (v := .ref o2) rfl d_Model_find_83 ?_
            refine lv_iload_n hx hb d_Model_find_86 rfl (lv_at hl 2 rfl) ?_
            refine pl_iald X hK hP 2 0 rfl rfl i (by omega) (by decide) (z := K i) rfl d_Model_find_87 ?_
            refine pl_callVV X (rest := []) (As := [.int (nI (opn P i)), .int (K i)]) (b := m0) (c_Model_set l D cI cZ cL m0 o1 o2 o3 o4 o5 o6 o7 o8 o9 o10 o11 P K Hm ru lo hi tm sa ca ta tn fo1 fk1 co np n stat how pl la stt q dn (nI (opn P i)) (K i)) ck_Model_100 pl_E0_ok trivial hK hP hD hS hA (T := F_Model) (N := N_Model) (ci := 6) rfl 0 rfl [0] [1, 2, 3, 4, 5, 6] [6, 0, 1, 2, 3, 4, 5] rfl (by decide) (wr := [(o1, .inl (cI, 24, .inl P)), (o2, .inl (cI, 24, .inl K)), (o4, .inl (cZ, 32, .inl ru)), (o5, .inl (cI, 32, .inl lo)), (o6, .inl (cI, 32, .inl hi)), (o7, .inl (cI, 32, .inl tm))]) rfl (by decide) (by decide) (wf := fun _ => [(m0, .inr (6, [.int (nI co), .int (nI np), .ref o1, .ref o2, .ref o3, .int (nI n), .ref o4, .ref o5, .ref o6, .ref o7, .int (nI (opn P i)), .int (K i), .int (nI stat), .int (nI how), .int (nI pl), .int (nI la), .int (nI stt), .int (nI q), .ref o8, .ref o9, .int (nI dn), .ref o10, .ref o11])), (o1, .inl (cI, 24, .inl P)), (o2, .inl (cI, 24, .inl K)), (o4, .inl (cZ, 32, .inl ru)), (o5, .inl (cI, 32, .inl lo)), (o6, .inl (cI, 32, .inl hi)), (o7, .inl (cI, 32, .inl tm))]) (fun _ => rfl) (by decide) rfl hl.1 rfl (Nat.le_of_ble_eq_true rfl) (by decide) (by decide) d_Model_find_88 (fun u0 H locs hcq hP hD hS => ?_)
            refine lv_goto hx hb d_Model_find_91 rfl ?_
            exact pl_vret X hr hlk hK (nI (opn P i), K i) ⟨by rw [hpo]; exact (wO_own hilt).symm, by rw [hpo]; exact ((wK_own hilt).trans (tgt_n (by omega))).symm⟩ hP hD hS d_Model_find_135
          · skip
            obtain ⟨hk1, hk2⟩ := okK_7 (by omega) hok hilt (show opn P i = 7 ∨ opn P i = 8 by omega)
            refine lv_aload_n hx hb d_Model_find_69 rfl (lv_at hl 3 rfl) ?_
            refine lv_aload_n hx hb d_Model_find_70 rfl (lv_at hl 3 rfl) ?_
            refine pl_get X fw_Model_13 hK hP 0 rfl (v := .ref o2) rfl d_Model_find_71 ?_
            refine lv_iload_n hx hb d_Model_find_74 rfl (lv_at hl 2 rfl) ?_
            refine pl_iald X hK hP 2 0 rfl rfl i (by omega) (by decide) (z := nI (kn K i)) hk1 d_Model_find_75 ?_
            refine pl_callVI X (rest := [.int (nI (opn P i)), .ref m0]) (As := [.int (nI (kn K i))]) (b := m0) (c_Model_place l D cI cZ cL m0 o1 o2 o3 o4 o5 o6 o7 o8 o9 o10 o11 P K Hm ru lo hi tm sa ca ta tn fo1 fk1 co np n stat how pl la stt q dn th (kn K i) hn hnp hop hok hru (by omega)) ck_Model_97 pl_E0_ok trivial hK hP hD hS hA (T := F_Model) (N := N_Model) (ci := 6) rfl 0 rfl [0, 1, 2, 3] [4, 5, 6] [3, 4, 5, 6, 0, 1, 2] rfl (by decide) (wr := [(o5, .inl (cI, 32, .inl lo)), (o6, .inl (cI, 32, .inl hi)), (o7, .inl (cI, 32, .inl tm))]) rfl (by decide) (by decide) (wf := fun _ => [(m0, .inr (6, [.int (nI co), .int (nI np), .ref o1, .ref o2, .ref o3, .int (nI n), .ref o4, .ref o5, .ref o6, .ref o7, .int fo1, .int fk1, .int (nI stat), .int (nI how), .int (nI pl), .int (nI la), .int (nI stt), .int (nI q), .ref o8, .ref o9, .int (nI dn), .ref o10, .ref o11])), (o1, .inl (cI, 24, .inl P)), (o2, .inl (cI, 24, .inl K)), (o4, .inl (cZ, 32, .inl ru)), (o5, .inl (cI, 32, .inl lo)), (o6, .inl (cI, 32, .inl hi)), (o7, .inl (cI, 32, .inl tm))]) (fun _ => rfl) (by decide) rfl hl.1 rfl (Nat.le_of_ble_eq_true rfl) (by decide) (by decide) d_Model_find_76 (fun r u0 H locs hcq hP hD hS => ?_)
            subst hcq
            refine lv_goto hx hb d_Model_find_79 rfl ?_
            refine pl_callVV X (rest := []) (As := [.int (nI (opn P i)), .int (nI (plc P K th n (kn K i)))]) (b := m0) (c_Model_set l D cI cZ cL m0 o1 o2 o3 o4 o5 o6 o7 o8 o9 o10 o11 P K Hm ru lo hi tm sa ca ta tn fo1 fk1 co np n stat how pl la stt q dn (nI (opn P i)) (nI (plc P K th n (kn K i)))) ck_Model_100 pl_E0_ok trivial hK hP hD hS hA (T := F_Model) (N := N_Model) (ci := 6) rfl 0 rfl [0] [1, 2, 3, 4, 5, 6] [6, 0, 1, 2, 3, 4, 5] rfl (by decide) (wr := [(o1, .inl (cI, 24, .inl P)), (o2, .inl (cI, 24, .inl K)), (o4, .inl (cZ, 32, .inl ru)), (o5, .inl (cI, 32, .inl lo)), (o6, .inl (cI, 32, .inl hi)), (o7, .inl (cI, 32, .inl tm))]) rfl (by decide) (by decide) (wf := fun _ => [(m0, .inr (6, [.int (nI co), .int (nI np), .ref o1, .ref o2, .ref o3, .int (nI n), .ref o4, .ref o5, .ref o6, .ref o7, .int (nI (opn P i)), .int (nI (plc P K th n (kn K i))), .int (nI stat), .int (nI how), .int (nI pl), .int (nI la), .int (nI stt), .int (nI q), .ref o8, .ref o9, .int (nI dn), .ref o10, .ref o11])), (o1, .inl (cI, 24, .inl P)), (o2, .inl (cI, 24, .inl K)), (o4, .inl (cZ, 32, .inl ru)), (o5, .inl (cI, 32, .inl lo)), (o6, .inl (cI, 32, .inl hi)), (o7, .inl (cI, 32, .inl tm))]) (fun _ => rfl) (by decide) rfl hl.1 rfl (Nat.le_of_ble_eq_true rfl) (by decide) (by decide) d_Model_find_88 (fun u0 H locs hcq hP hD hS => ?_)
            refine lv_goto hx hb d_Model_find_91 rfl ?_
            exact pl_vret X hr hlk hK (nI (opn P i), nI (plc P K th n (kn K i))) ⟨by rw [hpo]; exact (wO_own hilt).symm, by rw [hpo]; exact ((wK_own hilt).trans (tgt_g (by omega))).symm⟩ hP hD hS d_Model_find_135
    · skip
      refine lv_iinc hx hb d_Model_find_13 hl (k := 0) rfl (nI_inc1 _) (by decide) (lv' := [(2, .int (nI (i + 1))), (0, .ref m0), (1, .int (nI pp))]) rfl (fun ls hl => ?_)
      refine lv_goto hx hb d_Model_find_16 rfl ?_
      exact ih _ (by omega) (i + 1) _ _ _ rfl (by rcases Nat.lt_or_eq_of_le (show i + 1 ≤ np by omega) with q | q; exact q; (rw [q] at g10; omega)) g10 hP hD hS hl
  exact loop_2 _ 0 _ _ _ rfl (by rcases Nat.eq_zero_or_pos np with q | q; (rw [q] at hpp; exact absurd hpp (Nat.not_lt_zero _)); exact q) (Nat.zero_le _) hP hD hS hl
