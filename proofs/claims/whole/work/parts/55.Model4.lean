/-! Decode rows of reference. -/
theorem d_Model_pop_0 : decode b_Model_pop 0 = .ok (.aload_n 0, 1) := by decide +kernel
theorem d_Model_pop_1 : decode b_Model_pop 1 = .ok (.dup, 1) := by decide +kernel
theorem d_Model_pop_2 : decode b_Model_pop 2 = .ok (.getfield 124, 3) := by decide +kernel
theorem d_Model_pop_5 : decode b_Model_pop 5 = .ok (.iconst 1, 1) := by decide +kernel
theorem d_Model_pop_6 : decode b_Model_pop 6 = .ok (.isub, 1) := by decide +kernel
theorem d_Model_pop_7 : decode b_Model_pop 7 = .ok (.putfield 124, 3) := by decide +kernel
theorem d_Model_pop_10 : decode b_Model_pop 10 = .ok (.aload_n 0, 1) := by decide +kernel
theorem d_Model_pop_11 : decode b_Model_pop 11 = .ok (.getfield 36, 3) := by decide +kernel
theorem d_Model_pop_14 : decode b_Model_pop 14 = .ok (.aload_n 0, 1) := by decide +kernel
theorem d_Model_pop_15 : decode b_Model_pop 15 = .ok (.getfield 124, 3) := by decide +kernel
theorem d_Model_pop_18 : decode b_Model_pop 18 = .ok (.iaload, 1) := by decide +kernel
theorem d_Model_pop_19 : decode b_Model_pop 19 = .ok (.ireturn, 1) := by decide +kernel
theorem d_Model_push_0 : decode b_Model_push 0 = .ok (.aload_n 0, 1) := by decide +kernel
theorem d_Model_push_1 : decode b_Model_push 1 = .ok (.getfield 36, 3) := by decide +kernel
theorem d_Model_push_4 : decode b_Model_push 4 = .ok (.aload_n 0, 1) := by decide +kernel
theorem d_Model_push_5 : decode b_Model_push 5 = .ok (.getfield 124, 3) := by decide +kernel
theorem d_Model_push_8 : decode b_Model_push 8 = .ok (.iload_n 1, 1) := by decide +kernel
theorem d_Model_push_9 : decode b_Model_push 9 = .ok (.iastore, 1) := by decide +kernel
theorem d_Model_push_10 : decode b_Model_push 10 = .ok (.aload_n 0, 1) := by decide +kernel
theorem d_Model_push_11 : decode b_Model_push 11 = .ok (.dup, 1) := by decide +kernel
theorem d_Model_push_12 : decode b_Model_push 12 = .ok (.getfield 124, 3) := by decide +kernel
theorem d_Model_push_15 : decode b_Model_push 15 = .ok (.iconst 1, 1) := by decide +kernel
theorem d_Model_push_16 : decode b_Model_push 16 = .ok (.iadd, 1) := by decide +kernel
theorem d_Model_push_17 : decode b_Model_push 17 = .ok (.putfield 124, 3) := by decide +kernel
theorem d_Model_push_20 : decode b_Model_push 20 = .ok (.return_, 1) := by decide +kernel
theorem d_Model_done_0 : decode b_Model_done 0 = .ok (.aload_n 0, 1) := by decide +kernel
theorem d_Model_done_1 : decode b_Model_done 1 = .ok (.getfield 36, 3) := by decide +kernel
theorem d_Model_done_4 : decode b_Model_done 4 = .ok (.aload_n 0, 1) := by decide +kernel
theorem d_Model_done_5 : decode b_Model_done 5 = .ok (.getfield 124, 3) := by decide +kernel
theorem d_Model_done_8 : decode b_Model_done 8 = .ok (.iconst 1, 1) := by decide +kernel
theorem d_Model_done_9 : decode b_Model_done 9 = .ok (.isub, 1) := by decide +kernel
theorem d_Model_done_10 : decode b_Model_done 10 = .ok (.iaload, 1) := by decide +kernel
theorem d_Model_done_11 : decode b_Model_done 11 = .ok (.istore_n 2, 1) := by decide +kernel
theorem d_Model_done_12 : decode b_Model_done 12 = .ok (.bipush 8, 2) := by decide +kernel
theorem d_Model_done_14 : decode b_Model_done 14 = .ok (.aload_n 0, 1) := by decide +kernel
theorem d_Model_done_15 : decode b_Model_done 15 = .ok (.getfield 121, 3) := by decide +kernel
theorem d_Model_done_18 : decode b_Model_done 18 = .ok (.imul, 1) := by decide +kernel
theorem d_Model_done_19 : decode b_Model_done 19 = .ok (.iload_n 1, 1) := by decide +kernel
theorem d_Model_done_20 : decode b_Model_done 20 = .ok (.iadd, 1) := by decide +kernel
theorem d_Model_done_21 : decode b_Model_done 21 = .ok (.istore_n 3, 1) := by decide +kernel
theorem d_Model_done_22 : decode b_Model_done 22 = .ok (.aload_n 0, 1) := by decide +kernel
theorem d_Model_done_23 : decode b_Model_done 23 = .ok (.getfield 112, 3) := by decide +kernel
theorem d_Model_done_26 : decode b_Model_done 26 = .ok (.iconst 2, 1) := by decide +kernel
theorem d_Model_done_27 : decode b_Model_done 27 = .ok (.if_icmp .ne 38, 3) := by decide +kernel
theorem d_Model_done_30 : decode b_Model_done 30 = .ok (.aload_n 0, 1) := by decide +kernel
theorem d_Model_done_31 : decode b_Model_done 31 = .ok (.getfield 23, 3) := by decide +kernel
theorem d_Model_done_34 : decode b_Model_done 34 = .ok (.iload_n 3, 1) := by decide +kernel
theorem d_Model_done_35 : decode b_Model_done 35 = .ok (.baload, 1) := by decide +kernel
theorem d_Model_done_36 : decode b_Model_done 36 = .ok (.ifCond .eq 23, 3) := by decide +kernel
theorem d_Model_done_39 : decode b_Model_done 39 = .ok (.iload_n 2, 1) := by decide +kernel
theorem d_Model_done_40 : decode b_Model_done 40 = .ok (.aload_n 0, 1) := by decide +kernel
theorem d_Model_done_41 : decode b_Model_done 41 = .ok (.getfield 27, 3) := by decide +kernel
theorem d_Model_done_44 : decode b_Model_done 44 = .ok (.iload_n 3, 1) := by decide +kernel
theorem d_Model_done_45 : decode b_Model_done 45 = .ok (.iaload, 1) := by decide +kernel
theorem d_Model_done_46 : decode b_Model_done 46 = .ok (.if_icmp .lt 13, 3) := by decide +kernel
theorem d_Model_done_49 : decode b_Model_done 49 = .ok (.iload_n 2, 1) := by decide +kernel
theorem d_Model_done_50 : decode b_Model_done 50 = .ok (.aload_n 0, 1) := by decide +kernel
theorem d_Model_done_51 : decode b_Model_done 51 = .ok (.getfield 30, 3) := by decide +kernel
theorem d_Model_done_54 : decode b_Model_done 54 = .ok (.iload_n 3, 1) := by decide +kernel
theorem d_Model_done_55 : decode b_Model_done 55 = .ok (.iaload, 1) := by decide +kernel
theorem d_Model_done_56 : decode b_Model_done 56 = .ok (.if_icmp .le 9, 3) := by decide +kernel
theorem d_Model_done_59 : decode b_Model_done 59 = .ok (.aload_n 0, 1) := by decide +kernel
theorem d_Model_done_60 : decode b_Model_done 60 = .ok (.iconst 4, 1) := by decide +kernel
theorem d_Model_done_61 : decode b_Model_done 61 = .ok (.putfield 58, 3) := by decide +kernel
theorem d_Model_done_64 : decode b_Model_done 64 = .ok (.return_, 1) := by decide +kernel
theorem d_Model_done_65 : decode b_Model_done 65 = .ok (.aload_n 0, 1) := by decide +kernel
theorem d_Model_done_66 : decode b_Model_done 66 = .ok (.getfield 127, 3) := by decide +kernel
theorem d_Model_done_69 : decode b_Model_done 69 = .ok (.bipush 60, 2) := by decide +kernel
theorem d_Model_done_71 : decode b_Model_done 71 = .ok (.if_icmp .ne 9, 3) := by decide +kernel
theorem d_Model_done_74 : decode b_Model_done 74 = .ok (.aload_n 0, 1) := by decide +kernel
theorem d_Model_done_75 : decode b_Model_done 75 = .ok (.iconst 3, 1) := by decide +kernel
theorem d_Model_done_76 : decode b_Model_done 76 = .ok (.putfield 58, 3) := by decide +kernel
theorem d_Model_done_79 : decode b_Model_done 79 = .ok (.return_, 1) := by decide +kernel
theorem d_Model_done_80 : decode b_Model_done 80 = .ok (.aload_n 0, 1) := by decide +kernel
theorem d_Model_done_81 : decode b_Model_done 81 = .ok (.getfield 112, 3) := by decide +kernel
theorem d_Model_done_84 : decode b_Model_done 84 = .ok (.iconst 2, 1) := by decide +kernel
theorem d_Model_done_85 : decode b_Model_done 85 = .ok (.if_icmp .ne 13, 3) := by decide +kernel
theorem d_Model_done_88 : decode b_Model_done 88 = .ok (.aload_n 0, 1) := by decide +kernel
theorem d_Model_done_89 : decode b_Model_done 89 = .ok (.aload_n 0, 1) := by decide +kernel
theorem d_Model_done_90 : decode b_Model_done 90 = .ok (.getfield 33, 3) := by decide +kernel
theorem d_Model_done_93 : decode b_Model_done 93 = .ok (.iload_n 3, 1) := by decide +kernel
theorem d_Model_done_94 : decode b_Model_done 94 = .ok (.iaload, 1) := by decide +kernel
theorem d_Model_done_95 : decode b_Model_done 95 = .ok (.putfield 121, 3) := by decide +kernel
theorem d_Model_done_98 : decode b_Model_done 98 = .ok (.aload_n 0, 1) := by decide +kernel
theorem d_Model_done_99 : decode b_Model_done 99 = .ok (.getfield 42, 3) := by decide +kernel
theorem d_Model_done_102 : decode b_Model_done 102 = .ok (.aload_n 0, 1) := by decide +kernel
theorem d_Model_done_103 : decode b_Model_done 103 = .ok (.getfield 127, 3) := by decide +kernel
theorem d_Model_done_106 : decode b_Model_done 106 = .ok (.iload_n 1, 1) := by decide +kernel
theorem d_Model_done_107 : decode b_Model_done 107 = .ok (.iastore, 1) := by decide +kernel
theorem d_Model_done_108 : decode b_Model_done 108 = .ok (.aload_n 0, 1) := by decide +kernel
theorem d_Model_done_109 : decode b_Model_done 109 = .ok (.getfield 45, 3) := by decide +kernel
theorem d_Model_done_112 : decode b_Model_done 112 = .ok (.aload_n 0, 1) := by decide +kernel
theorem d_Model_done_113 : decode b_Model_done 113 = .ok (.getfield 127, 3) := by decide +kernel
theorem d_Model_done_116 : decode b_Model_done 116 = .ok (.iload_n 2, 1) := by decide +kernel
theorem d_Model_done_117 : decode b_Model_done 117 = .ok (.iastore, 1) := by decide +kernel
theorem d_Model_done_118 : decode b_Model_done 118 = .ok (.aload_n 0, 1) := by decide +kernel
theorem d_Model_done_119 : decode b_Model_done 119 = .ok (.dup, 1) := by decide +kernel
theorem d_Model_done_120 : decode b_Model_done 120 = .ok (.getfield 127, 3) := by decide +kernel
theorem d_Model_done_123 : decode b_Model_done 123 = .ok (.iconst 1, 1) := by decide +kernel
theorem d_Model_done_124 : decode b_Model_done 124 = .ok (.iadd, 1) := by decide +kernel
theorem d_Model_done_125 : decode b_Model_done 125 = .ok (.putfield 127, 3) := by decide +kernel
theorem d_Model_done_128 : decode b_Model_done 128 = .ok (.aload_n 0, 1) := by decide +kernel
theorem d_Model_done_129 : decode b_Model_done 129 = .ok (.dup, 1) := by decide +kernel
theorem d_Model_done_130 : decode b_Model_done 130 = .ok (.getfield 124, 3) := by decide +kernel
theorem d_Model_done_133 : decode b_Model_done 133 = .ok (.iconst 1, 1) := by decide +kernel
theorem d_Model_done_134 : decode b_Model_done 134 = .ok (.isub, 1) := by decide +kernel
theorem d_Model_done_135 : decode b_Model_done 135 = .ok (.putfield 124, 3) := by decide +kernel
theorem d_Model_done_138 : decode b_Model_done 138 = .ok (.return_, 1) := by decide +kernel
theorem d_Model_one_0 : decode b_Model_one 0 = .ok (.aload_n 0, 1) := by decide +kernel
theorem d_Model_one_1 : decode b_Model_one 1 = .ok (.aload_n 0, 1) := by decide +kernel
theorem d_Model_one_2 : decode b_Model_one 2 = .ok (.getfield 115, 3) := by decide +kernel
theorem d_Model_one_5 : decode b_Model_one 5 = .ok (.putfield 118, 3) := by decide +kernel
theorem d_Model_one_8 : decode b_Model_one 8 = .ok (.aload_n 0, 1) := by decide +kernel
theorem d_Model_one_9 : decode b_Model_one 9 = .ok (.getfield 112, 3) := by decide +kernel
theorem d_Model_one_12 : decode b_Model_one 12 = .ok (.iconst 1, 1) := by decide +kernel
theorem d_Model_one_13 : decode b_Model_one 13 = .ok (.if_icmp .ne 14, 3) := by decide +kernel
theorem d_Model_one_16 : decode b_Model_one 16 = .ok (.aload_n 0, 1) := by decide +kernel
theorem d_Model_one_17 : decode b_Model_one 17 = .ok (.aload_n 0, 1) := by decide +kernel
theorem d_Model_one_18 : decode b_Model_one 18 = .ok (.getfield 115, 3) := by decide +kernel
theorem d_Model_one_21 : decode b_Model_one 21 = .ok (.invokevirtual 108, 3) := by decide +kernel
theorem d_Model_one_24 : decode b_Model_one 24 = .ok (.goto 25, 3) := by decide +kernel
theorem d_Model_one_27 : decode b_Model_one 27 = .ok (.aload_n 0, 1) := by decide +kernel
theorem d_Model_one_28 : decode b_Model_one 28 = .ok (.aload_n 0, 1) := by decide +kernel
theorem d_Model_one_29 : decode b_Model_one 29 = .ok (.getfield 7, 3) := by decide +kernel
theorem d_Model_one_32 : decode b_Model_one 32 = .ok (.aload_n 0, 1) := by decide +kernel
theorem d_Model_one_33 : decode b_Model_one 33 = .ok (.getfield 115, 3) := by decide +kernel
theorem d_Model_one_36 : decode b_Model_one 36 = .ok (.iaload, 1) := by decide +kernel
theorem d_Model_one_37 : decode b_Model_one 37 = .ok (.aload_n 0, 1) := by decide +kernel
theorem d_Model_one_38 : decode b_Model_one 38 = .ok (.getfield 13, 3) := by decide +kernel
theorem d_Model_one_41 : decode b_Model_one 41 = .ok (.aload_n 0, 1) := by decide +kernel
theorem d_Model_one_42 : decode b_Model_one 42 = .ok (.getfield 115, 3) := by decide +kernel
theorem d_Model_one_45 : decode b_Model_one 45 = .ok (.iaload, 1) := by decide +kernel
theorem d_Model_one_46 : decode b_Model_one 46 = .ok (.invokevirtual 100, 3) := by decide +kernel
theorem d_Model_one_49 : decode b_Model_one 49 = .ok (.aload_n 0, 1) := by decide +kernel
theorem d_Model_one_50 : decode b_Model_one 50 = .ok (.getfield 91, 3) := by decide +kernel
theorem d_Model_one_53 : decode b_Model_one 53 = .ok (.istore_n 1, 1) := by decide +kernel
theorem d_Model_one_54 : decode b_Model_one 54 = .ok (.aload_n 0, 1) := by decide +kernel
theorem d_Model_one_55 : decode b_Model_one 55 = .ok (.getfield 94, 3) := by decide +kernel
theorem d_Model_one_58 : decode b_Model_one 58 = .ok (.istore_n 2, 1) := by decide +kernel
theorem d_Model_one_59 : decode b_Model_one 59 = .ok (.aload_n 0, 1) := by decide +kernel
theorem d_Model_one_60 : decode b_Model_one 60 = .ok (.dup, 1) := by decide +kernel
theorem d_Model_one_61 : decode b_Model_one 61 = .ok (.getfield 115, 3) := by decide +kernel
theorem d_Model_one_64 : decode b_Model_one 64 = .ok (.iconst 1, 1) := by decide +kernel
theorem d_Model_one_65 : decode b_Model_one 65 = .ok (.iadd, 1) := by decide +kernel
theorem d_Model_one_66 : decode b_Model_one 66 = .ok (.putfield 115, 3) := by decide +kernel
theorem d_Model_one_69 : decode b_Model_one 69 = .ok (.iload_n 1, 1) := by decide +kernel
theorem d_Model_one_70 : decode b_Model_one 70 = .ok (.invokestatic 71, 3) := by decide +kernel
theorem d_Model_one_73 : decode b_Model_one 73 = .ok (.iconst 2, 1) := by decide +kernel
theorem d_Model_one_74 : decode b_Model_one 74 = .ok (.if_icmp .ne 10, 3) := by decide +kernel
theorem d_Model_one_77 : decode b_Model_one 77 = .ok (.aload_n 0, 1) := by decide +kernel
theorem d_Model_one_78 : decode b_Model_one 78 = .ok (.invokevirtual 130, 3) := by decide +kernel
theorem d_Model_one_81 : decode b_Model_one 81 = .ok (.goto 4, 3) := by decide +kernel
theorem d_Model_one_84 : decode b_Model_one 84 = .ok (.iconst 0, 1) := by decide +kernel
theorem d_Model_one_85 : decode b_Model_one 85 = .ok (.istore_n 3, 1) := by decide +kernel
theorem d_Model_one_86 : decode b_Model_one 86 = .ok (.iload_n 1, 1) := by decide +kernel
theorem d_Model_one_87 : decode b_Model_one 87 = .ok (.iconst 2, 1) := by decide +kernel
theorem d_Model_one_88 : decode b_Model_one 88 = .ok (.if_icmp .eq 19, 3) := by decide +kernel
theorem d_Model_one_91 : decode b_Model_one 91 = .ok (.iload_n 1, 1) := by decide +kernel
theorem d_Model_one_92 : decode b_Model_one 92 = .ok (.iconst 3, 1) := by decide +kernel
theorem d_Model_one_93 : decode b_Model_one 93 = .ok (.if_icmp .eq 14, 3) := by decide +kernel
theorem d_Model_one_96 : decode b_Model_one 96 = .ok (.iload_n 1, 1) := by decide +kernel
theorem d_Model_one_97 : decode b_Model_one 97 = .ok (.iconst 4, 1) := by decide +kernel
theorem d_Model_one_98 : decode b_Model_one 98 = .ok (.if_icmp .eq 9, 3) := by decide +kernel
theorem d_Model_one_101 : decode b_Model_one 101 = .ok (.iload_n 1, 1) := by decide +kernel
theorem d_Model_one_102 : decode b_Model_one 102 = .ok (.bipush 10, 2) := by decide +kernel
theorem d_Model_one_104 : decode b_Model_one 104 = .ok (.if_icmp .ne 10, 3) := by decide +kernel
theorem d_Model_one_107 : decode b_Model_one 107 = .ok (.aload_n 0, 1) := by decide +kernel
theorem d_Model_one_108 : decode b_Model_one 108 = .ok (.invokevirtual 130, 3) := by decide +kernel
theorem d_Model_one_111 : decode b_Model_one 111 = .ok (.goto 4, 3) := by decide +kernel
theorem d_Model_one_114 : decode b_Model_one 114 = .ok (.iconst 0, 1) := by decide +kernel
theorem d_Model_one_115 : decode b_Model_one 115 = .ok (.istore 4, 2) := by decide +kernel
theorem d_Model_one_117 : decode b_Model_one 117 = .ok (.iload_n 1, 1) := by decide +kernel
theorem d_Model_one_118 : decode b_Model_one 118 = .ok (.tableswitch 219 0 11 #[62, 70, 83, 94, 105, 123, 136, 149, 157, 179, 187, 201], 62) := by decide +kernel
theorem d_Model_one_180 : decode b_Model_one 180 = .ok (.aload_n 0, 1) := by decide +kernel
theorem d_Model_one_181 : decode b_Model_one 181 = .ok (.iload_n 2, 1) := by decide +kernel
theorem d_Model_one_182 : decode b_Model_one 182 = .ok (.invokevirtual 134, 3) := by decide +kernel
theorem d_Model_one_185 : decode b_Model_one 185 = .ok (.goto 157, 3) := by decide +kernel
theorem d_Model_one_188 : decode b_Model_one 188 = .ok (.aload_n 0, 1) := by decide +kernel
theorem d_Model_one_189 : decode b_Model_one 189 = .ok (.dup, 1) := by decide +kernel
theorem d_Model_one_190 : decode b_Model_one 190 = .ok (.getfield 124, 3) := by decide +kernel
theorem d_Model_one_193 : decode b_Model_one 193 = .ok (.iconst 1, 1) := by decide +kernel
theorem d_Model_one_194 : decode b_Model_one 194 = .ok (.isub, 1) := by decide +kernel
theorem d_Model_one_195 : decode b_Model_one 195 = .ok (.putfield 124, 3) := by decide +kernel
theorem d_Model_one_198 : decode b_Model_one 198 = .ok (.goto 144, 3) := by decide +kernel
theorem d_Model_one_201 : decode b_Model_one 201 = .ok (.aload_n 0, 1) := by decide +kernel
theorem d_Model_one_202 : decode b_Model_one 202 = .ok (.iload 4, 2) := by decide +kernel
theorem d_Model_one_204 : decode b_Model_one 204 = .ok (.iload_n 3, 1) := by decide +kernel
theorem d_Model_one_205 : decode b_Model_one 205 = .ok (.iadd, 1) := by decide +kernel
theorem d_Model_one_206 : decode b_Model_one 206 = .ok (.invokevirtual 134, 3) := by decide +kernel
theorem d_Model_one_209 : decode b_Model_one 209 = .ok (.goto 133, 3) := by decide +kernel
theorem d_Model_one_212 : decode b_Model_one 212 = .ok (.aload_n 0, 1) := by decide +kernel
theorem d_Model_one_213 : decode b_Model_one 213 = .ok (.iload 4, 2) := by decide +kernel
theorem d_Model_one_215 : decode b_Model_one 215 = .ok (.iload_n 3, 1) := by decide +kernel
theorem d_Model_one_216 : decode b_Model_one 216 = .ok (.isub, 1) := by decide +kernel
theorem d_Model_one_217 : decode b_Model_one 217 = .ok (.invokevirtual 134, 3) := by decide +kernel
theorem d_Model_one_220 : decode b_Model_one 220 = .ok (.goto 122, 3) := by decide +kernel
theorem d_Model_one_223 : decode b_Model_one 223 = .ok (.aload_n 0, 1) := by decide +kernel
theorem d_Model_one_224 : decode b_Model_one 224 = .ok (.iload 4, 2) := by decide +kernel
theorem d_Model_one_226 : decode b_Model_one 226 = .ok (.iload_n 3, 1) := by decide +kernel
theorem d_Model_one_227 : decode b_Model_one 227 = .ok (.if_icmp .ge 7, 3) := by decide +kernel
theorem d_Model_one_230 : decode b_Model_one 230 = .ok (.iconst 1, 1) := by decide +kernel
theorem d_Model_one_231 : decode b_Model_one 231 = .ok (.goto 4, 3) := by decide +kernel
theorem d_Model_one_234 : decode b_Model_one 234 = .ok (.iconst 0, 1) := by decide +kernel
theorem d_Model_one_235 : decode b_Model_one 235 = .ok (.invokevirtual 134, 3) := by decide +kernel
theorem d_Model_one_238 : decode b_Model_one 238 = .ok (.goto 104, 3) := by decide +kernel
theorem d_Model_one_241 : decode b_Model_one 241 = .ok (.aload_n 0, 1) := by decide +kernel
theorem d_Model_one_242 : decode b_Model_one 242 = .ok (.aload_n 0, 1) := by decide +kernel
theorem d_Model_one_243 : decode b_Model_one 243 = .ok (.getfield 39, 3) := by decide +kernel
theorem d_Model_one_246 : decode b_Model_one 246 = .ok (.iload_n 2, 1) := by decide +kernel
theorem d_Model_one_247 : decode b_Model_one 247 = .ok (.iaload, 1) := by decide +kernel
theorem d_Model_one_248 : decode b_Model_one 248 = .ok (.invokevirtual 134, 3) := by decide +kernel
theorem d_Model_one_251 : decode b_Model_one 251 = .ok (.goto 91, 3) := by decide +kernel
theorem d_Model_one_254 : decode b_Model_one 254 = .ok (.aload_n 0, 1) := by decide +kernel
theorem d_Model_one_255 : decode b_Model_one 255 = .ok (.getfield 39, 3) := by decide +kernel
theorem d_Model_one_258 : decode b_Model_one 258 = .ok (.iload_n 2, 1) := by decide +kernel
theorem d_Model_one_259 : decode b_Model_one 259 = .ok (.aload_n 0, 1) := by decide +kernel
theorem d_Model_one_260 : decode b_Model_one 260 = .ok (.invokevirtual 130, 3) := by decide +kernel
theorem d_Model_one_263 : decode b_Model_one 263 = .ok (.iastore, 1) := by decide +kernel
theorem d_Model_one_264 : decode b_Model_one 264 = .ok (.goto 78, 3) := by decide +kernel
theorem d_Model_one_267 : decode b_Model_one 267 = .ok (.aload_n 0, 1) := by decide +kernel
theorem d_Model_one_268 : decode b_Model_one 268 = .ok (.iload_n 2, 1) := by decide +kernel
theorem d_Model_one_269 : decode b_Model_one 269 = .ok (.putfield 115, 3) := by decide +kernel
theorem d_Model_one_272 : decode b_Model_one 272 = .ok (.goto 70, 3) := by decide +kernel
theorem d_Model_one_275 : decode b_Model_one 275 = .ok (.aload_n 0, 1) := by decide +kernel
theorem d_Model_one_276 : decode b_Model_one 276 = .ok (.aload_n 0, 1) := by decide +kernel
theorem d_Model_one_277 : decode b_Model_one 277 = .ok (.invokevirtual 130, 3) := by decide +kernel
theorem d_Model_one_280 : decode b_Model_one 280 = .ok (.ifCond .eq 7, 3) := by decide +kernel
theorem d_Model_one_283 : decode b_Model_one 283 = .ok (.iload_n 2, 1) := by decide +kernel
theorem d_Model_one_284 : decode b_Model_one 284 = .ok (.goto 7, 3) := by decide +kernel
theorem d_Model_one_287 : decode b_Model_one 287 = .ok (.aload_n 0, 1) := by decide +kernel
theorem d_Model_one_288 : decode b_Model_one 288 = .ok (.getfield 115, 3) := by decide +kernel
theorem d_Model_one_291 : decode b_Model_one 291 = .ok (.putfield 115, 3) := by decide +kernel
theorem d_Model_one_294 : decode b_Model_one 294 = .ok (.goto 48, 3) := by decide +kernel
theorem d_Model_one_297 : decode b_Model_one 297 = .ok (.aload_n 0, 1) := by decide +kernel
theorem d_Model_one_298 : decode b_Model_one 298 = .ok (.iload_n 2, 1) := by decide +kernel
theorem d_Model_one_299 : decode b_Model_one 299 = .ok (.invokevirtual 137, 3) := by decide +kernel
theorem d_Model_one_302 : decode b_Model_one 302 = .ok (.goto 40, 3) := by decide +kernel
theorem d_Model_one_305 : decode b_Model_one 305 = .ok (.aload_n 0, 1) := by decide +kernel
theorem d_Model_one_306 : decode b_Model_one 306 = .ok (.iload_n 3, 1) := by decide +kernel
theorem d_Model_one_307 : decode b_Model_one 307 = .ok (.invokevirtual 134, 3) := by decide +kernel
theorem d_Model_one_310 : decode b_Model_one 310 = .ok (.aload_n 0, 1) := by decide +kernel
theorem d_Model_one_311 : decode b_Model_one 311 = .ok (.iload 4, 2) := by decide +kernel
theorem d_Model_one_313 : decode b_Model_one 313 = .ok (.invokevirtual 134, 3) := by decide +kernel
theorem d_Model_one_316 : decode b_Model_one 316 = .ok (.goto 26, 3) := by decide +kernel
theorem d_Model_one_319 : decode b_Model_one 319 = .ok (.aload_n 0, 1) := by decide +kernel
theorem d_Model_one_320 : decode b_Model_one 320 = .ok (.aload_n 0, 1) := by decide +kernel
theorem d_Model_one_321 : decode b_Model_one 321 = .ok (.getfield 36, 3) := by decide +kernel
theorem d_Model_one_324 : decode b_Model_one 324 = .ok (.aload_n 0, 1) := by decide +kernel
theorem d_Model_one_325 : decode b_Model_one 325 = .ok (.getfield 124, 3) := by decide +kernel
theorem d_Model_one_328 : decode b_Model_one 328 = .ok (.iconst 1, 1) := by decide +kernel
theorem d_Model_one_329 : decode b_Model_one 329 = .ok (.isub, 1) := by decide +kernel
theorem d_Model_one_330 : decode b_Model_one 330 = .ok (.iaload, 1) := by decide +kernel
theorem d_Model_one_331 : decode b_Model_one 331 = .ok (.invokevirtual 134, 3) := by decide +kernel
theorem d_Model_one_334 : decode b_Model_one 334 = .ok (.goto 8, 3) := by decide +kernel
theorem d_Model_one_337 : decode b_Model_one 337 = .ok (.aload_n 0, 1) := by decide +kernel
theorem d_Model_one_338 : decode b_Model_one 338 = .ok (.iconst 2, 1) := by decide +kernel
theorem d_Model_one_339 : decode b_Model_one 339 = .ok (.putfield 58, 3) := by decide +kernel
theorem d_Model_one_342 : decode b_Model_one 342 = .ok (.return_, 1) := by decide +kernel
set_option maxHeartbeats 4000000 in
set_option maxRecDepth 100000 in
theorem c_Model_pop (l : Launch) (D : va_G) (cI cZ cL : ClassId) (m0 o1 o2 o3 o4 o5 o6 o7 o8 o9 o10 o11 : Nat) (P K Hm ru lo hi tm sa ca ta tn : Nat → Int32) (fo1 fk1 : Int32) (co np n stat how pl la stt q dn : Nat) (hq : q < 20) : pl_I l y_Model_pop b_Model_pop 1 .int ({ frames := 0, cells := 0, slots := 0, locals := 0 } : Room) pl_E0 D classes (TY cI cZ cL) [.ref m0] [(m0, .inr (6, [.int (nI co), .int (nI np), .ref o1, .ref o2, .ref o3, .int (nI n), .ref o4, .ref o5, .ref o6, .ref o7, .int fo1, .int fk1, .int (nI stat), .int (nI how), .int (nI pl), .int (nI la), .int (nI stt), .int (nI (q + 1)), .ref o8, .ref o9, .int (nI dn), .ref o10, .ref o11])), (o8, .inl (cI, 20, .inl sa))] (fun (r : Int32) (_ : Unit) => r = sa q) (fun (_ : Unit) => [(m0, .inr (6, [.int (nI co), .int (nI np), .ref o1, .ref o2, .ref o3, .int (nI n), .ref o4, .ref o5, .ref o6, .ref o7, .int fo1, .int fk1, .int (nI stat), .int (nI how), .int (nI pl), .int (nI la), .int (nI stt), .int (nI q), .ref o8, .ref o9, .int (nI dn), .ref o10, .ref o11])), (o8, .inl (cI, 20, .inl sa))]) := by
  refine pl_startI (by decide) (Nat.le_of_ble_eq_true rfl) ?_
  intro p e s m args below meth c A ls X hr hlk hin hK hP hD hS hA hE hl
  have X : CallFix p m c b_Model_pop 1 s args TG R_Model := X
  have hx := X.1
  have hb := X.2.1
  have hl : lv_has ls 1 [(0, .ref m0)] := hl
  refine lv_aload_n hx hb d_Model_pop_0 rfl (lv_at hl 0 rfl) ?_
  refine lv_dup hx hb d_Model_pop_1 rfl ?_
  refine pl_get X fw_Model_124 hK hP 0 rfl (v := .int (nI (q + 1))) rfl d_Model_pop_2 ?_
  refine lv_iconst (v := nI 1) hx hb d_Model_pop_5 (by decide) ?_
  refine pl_isub X d_Model_pop_6 (z := nI q) (nI_dec _) ?_
  refine pl_put X fw_Model_124 fp_Model rfl hK hP hD hS 0 rfl (v := .int (nI q)) rfl rfl (Nat.le_of_ble_eq_true rfl) d_Model_pop_7 (ws' := [(m0, .inr (6, [.int (nI co), .int (nI np), .ref o1, .ref o2, .ref o3, .int (nI n), .ref o4, .ref o5, .ref o6, .ref o7, .int fo1, .int fk1, .int (nI stat), .int (nI how), .int (nI pl), .int (nI la), .int (nI stt), .int (nI q), .ref o8, .ref o9, .int (nI dn), .ref o10, .ref o11])), (o8, .inl (cI, 20, .inl sa))]) rfl (fun H locs hP hD hS => ?_)
  refine lv_aload_n hx hb d_Model_pop_10 rfl (lv_at hl 0 rfl) ?_
  refine pl_get X fw_Model_36 hK hP 0 rfl (v := .ref o8) rfl d_Model_pop_11 ?_
  refine lv_aload_n hx hb d_Model_pop_14 rfl (lv_at hl 0 rfl) ?_
  refine pl_get X fw_Model_124 hK hP 0 rfl (v := .int (nI q)) rfl d_Model_pop_15 ?_
  refine pl_iald X hK hP 1 0 rfl rfl q (by omega) (by decide) (z := sa q) rfl d_Model_pop_18 ?_
  exact pl_iret X hr hlk hK rfl () rfl hP hD hS d_Model_pop_19

set_option maxHeartbeats 4000000 in
set_option maxRecDepth 100000 in
theorem c_Model_push (l : Launch) (D : va_G) (cI cZ cL : ClassId) (m0 o1 o2 o3 o4 o5 o6 o7 o8 o9 o10 o11 : Nat) (P K Hm ru lo hi tm sa ca ta tn : Nat → Int32) (fo1 fk1 : Int32) (co np n stat how pl la stt q dn : Nat) (x : Int32) (hq : q < 20) : pl_V l y_Model_push b_Model_push 2 ({ frames := 0, cells := 0, slots := 0, locals := 0 } : Room) pl_E0 D classes (TY cI cZ cL) [.ref m0, .int x] [(m0, .inr (6, [.int (nI co), .int (nI np), .ref o1, .ref o2, .ref o3, .int (nI n), .ref o4, .ref o5, .ref o6, .ref o7, .int fo1, .int fk1, .int (nI stat), .int (nI how), .int (nI pl), .int (nI la), .int (nI stt), .int (nI q), .ref o8, .ref o9, .int (nI dn), .ref o10, .ref o11])), (o8, .inl (cI, 20, .inl sa))] (fun _ : Unit => True) (fun (_ : Unit) => [(m0, .inr (6, [.int (nI co), .int (nI np), .ref o1, .ref o2, .ref o3, .int (nI n), .ref o4, .ref o5, .ref o6, .ref o7, .int fo1, .int fk1, .int (nI stat), .int (nI how), .int (nI pl), .int (nI la), .int (nI stt), .int (nI (q + 1)), .ref o8, .ref o9, .int (nI dn), .ref o10, .ref o11])), (o8, .inl (cI, 20, .inl (upd sa q x)))]) := by
  refine pl_startV (by decide) (Nat.le_of_ble_eq_true rfl) ?_
  intro p e s m args below meth c A ls X hr hlk hin hK hP hD hS hA hE hl
  have X : CallFix p m c b_Model_push 2 s args TG R_Model := X
  have hx := X.1
  have hb := X.2.1
  have hl : lv_has ls 2 [(0, .ref m0), (1, .int x)] := hl
  refine lv_aload_n hx hb d_Model_push_0 rfl (lv_at hl 0 rfl) ?_
  refine pl_get X fw_Model_36 hK hP 0 rfl (v := .ref o8) rfl d_Model_push_1 ?_
  refine lv_aload_n hx hb d_Model_push_4 rfl (lv_at hl 0 rfl) ?_
  refine pl_get X fw_Model_124 hK hP 0 rfl (v := .int (nI q)) rfl d_Model_push_5 ?_
  refine lv_iload_n hx hb d_Model_push_8 rfl (lv_at hl 1 rfl) ?_
  refine pl_iast X hK hP hD hS 1 0 rfl rfl q (by omega) (by decide) d_Model_push_9 (ws' := [(m0, .inr (6, [.int (nI co), .int (nI np), .ref o1, .ref o2, .ref o3, .int (nI n), .ref o4, .ref o5, .ref o6, .ref o7, .int fo1, .int fk1, .int (nI stat), .int (nI how), .int (nI pl), .int (nI la), .int (nI stt), .int (nI q), .ref o8, .ref o9, .int (nI dn), .ref o10, .ref o11])), (o8, .inl (cI, 20, .inl (upd sa q x)))]) rfl (fun H locs hP hD hS => ?_)
  refine lv_aload_n hx hb d_Model_push_10 rfl (lv_at hl 0 rfl) ?_
  refine lv_dup hx hb d_Model_push_11 rfl ?_
  refine pl_get X fw_Model_124 hK hP 0 rfl (v := .int (nI q)) rfl d_Model_push_12 ?_
  refine lv_iconst (v := nI 1) hx hb d_Model_push_15 (by decide) ?_
  refine pl_iadd X d_Model_push_16 (z := nI (q + 1)) (nI_add _ _) ?_
  refine pl_put X fw_Model_124 fp_Model rfl hK hP hD hS 0 rfl (v := .int (nI (q + 1))) rfl rfl (Nat.le_of_ble_eq_true rfl) d_Model_push_17 (ws' := [(m0, .inr (6, [.int (nI co), .int (nI np), .ref o1, .ref o2, .ref o3, .int (nI n), .ref o4, .ref o5, .ref o6, .ref o7, .int fo1, .int fk1, .int (nI stat), .int (nI how), .int (nI pl), .int (nI la), .int (nI stt), .int (nI (q + 1)), .ref o8, .ref o9, .int (nI dn), .ref o10, .ref o11])), (o8, .inl (cI, 20, .inl (upd sa q x)))]) rfl (fun H locs hP hD hS => ?_)
  exact pl_vret X hr hlk hK () trivial hP hD hS d_Model_push_20

set_option maxHeartbeats 4000000 in
set_option maxRecDepth 100000 in
theorem c_Model_done (l : Launch) (D : va_G) (cI cZ cL : ClassId) (m0 o1 o2 o3 o4 o5 o6 o7 o8 o9 o10 o11 : Nat) (P K Hm ru lo hi tm sa ca ta tn : Nat → Int32) (fo1 fk1 : Int32) (co np n stat how pl la stt q dn : Nat) (th : Nat → Int32) (pl0 j : Nat) (hh : how ≤ 2) (hq : q < 20) (hs : stt < 4) (hj : j < 8) (hd : dn ≤ 60) (hth : ¬ th (stt * 8 + j) = -1 → th (stt * 8 + j) = nI (th (stt * 8 + j)).toNatClampNeg) (hru : rulR ru tm th) : pl_V l y_Model_done b_Model_done 4 ({ frames := 0, cells := 0, slots := 0, locals := 0 } : Room) pl_E0 D classes (TY cI cZ cL) [.ref m0, .int (nI j)] [(m0, .inr (6, [.int (nI co), .int (nI np), .ref o1, .ref o2, .ref o3, .int (nI n), .ref o4, .ref o5, .ref o6, .ref o7, .int fo1, .int fk1, .int (nI 1), .int (nI how), .int (nI pl), .int (nI la), .int (nI stt), .int (nI (q + 1)), .ref o8, .ref o9, .int (nI dn), .ref o10, .ref o11])), (o4, .inl (cZ, 32, .inl ru)), (o5, .inl (cI, 32, .inl lo)), (o6, .inl (cI, 32, .inl hi)), (o7, .inl (cI, 32, .inl tm)), (o8, .inl (cI, 20, .inl sa)), (o10, .inl (cI, 60, .inl ta)), (o11, .inl (cI, 60, .inl tn))] (fun u : RSa => u = actS how (okA lo hi th (stt * 8 + j) (sa q)) pl0 q stt dn (th (stt * 8 + j)).toNatClampNeg j (sa q) ta tn) (fun (u : RSa) => [(m0, .inr (6, [.int (nI co), .int (nI np), .ref o1, .ref o2, .ref o3, .int (nI n), .ref o4, .ref o5, .ref o6, .ref o7, .int fo1, .int fk1, .int (nI u.1), .int (nI how), .int (nI pl), .int (nI la), .int (nI u.2.2.2.1), .int (nI u.2.2.1), .ref o8, .ref o9, .int (nI u.2.2.2.2.1), .ref o10, .ref o11])), (o4, .inl (cZ, 32, .inl ru)), (o5, .inl (cI, 32, .inl lo)), (o6, .inl (cI, 32, .inl hi)), (o7, .inl (cI, 32, .inl tm)), (o8, .inl (cI, 20, .inl sa)), (o10, .inl (cI, 60, .inl u.2.2.2.2.2.1)), (o11, .inl (cI, 60, .inl u.2.2.2.2.2.2))]) := by
  refine pl_startV (by decide) (Nat.le_of_ble_eq_true rfl) ?_
  intro p e s m args below meth c A ls X hr hlk hin hK hP hD hS hA hE hl
  have X : CallFix p m c b_Model_done 4 s args TG R_Model := X
  have hx := X.1
  have hb := X.2.1
  have hl : lv_has ls 4 [(0, .ref m0), (1, .int (nI j))] := hl
  refine lv_aload_n hx hb d_Model_done_0 rfl (lv_at hl 0 rfl) ?_
  refine pl_get X fw_Model_36 hK hP 0 rfl (v := .ref o8) rfl d_Model_done_1 ?_
  refine lv_aload_n hx hb d_Model_done_4 rfl (lv_at hl 0 rfl) ?_
  refine pl_get X fw_Model_124 hK hP 0 rfl (v := .int (nI (q + 1))) rfl d_Model_done_5 ?_
  refine lv_iconst (v := nI 1) hx hb d_Model_done_8 (by decide) ?_
  refine pl_isub X d_Model_done_9 (z := nI q) (nI_dec _) ?_
  refine pl_iald X hK hP 5 0 rfl rfl q (by omega) (by decide) (z := sa q) rfl d_Model_done_10 ?_
  refine lv_istore_n hx hb d_Model_done_11 rfl hl (by decide) (lv' := [(2, .int (sa q)), (0, .ref m0), (1, .int (nI j))]) rfl (fun ls hl => ?_)
  refine lv_bipush (v := nI 8) hx hb d_Model_done_12 (by decide) ?_
  refine lv_aload_n hx hb d_Model_done_14 rfl (lv_at hl 1 rfl) ?_
  refine pl_get X fw_Model_121 hK hP 0 rfl (v := .int (nI stt)) rfl d_Model_done_15 ?_
  refine pl_imul X d_Model_done_18 (z := nI (stt * 8)) (pk_mulC _ _) ?_
  refine lv_iload_n hx hb d_Model_done_19 rfl (lv_at hl 2 rfl) ?_
  refine pl_iadd X d_Model_done_20 (z := nI (stt * 8 + j)) (nI_add _ _) ?_
  refine lv_istore_n hx hb d_Model_done_21 rfl hl (by decide) (lv' := [(3, .int (nI (stt * 8 + j))), (2, .int (sa q)), (0, .ref m0), (1, .int (nI j))]) rfl (fun ls hl => ?_)
  refine lv_aload_n hx hb d_Model_done_22 rfl (lv_at hl 2 rfl) ?_
  refine pl_get X fw_Model_112 hK hP 0 rfl (v := .int (nI how)) rfl d_Model_done_23 ?_
  refine lv_iconst (v := nI 2) hx hb d_Model_done_26 (by decide) ?_
  refine pl_icmp_ne X (by omega) (by decide) d_Model_done_27 rfl (fun g27 => ?_) (fun g27 => ?_)
  · skip
    refine lv_aload_n hx hb d_Model_done_65 rfl (lv_at hl 2 rfl) ?_
    refine pl_get X fw_Model_127 hK hP 0 rfl (v := .int (nI dn)) rfl d_Model_done_66 ?_
    refine lv_bipush (v := nI 60) hx hb d_Model_done_69 (by decide) ?_
    refine pl_icmp_ne X (by omega) (by decide) d_Model_done_71 rfl (fun g71 => ?_) (fun g71 => ?_)
    · skip
      refine lv_aload_n hx hb d_Model_done_80 rfl (lv_at hl 2 rfl) ?_
      refine pl_get X fw_Model_112 hK hP 0 rfl (v := .int (nI how)) rfl d_Model_done_81 ?_
      refine lv_iconst (v := nI 2) hx hb d_Model_done_84 (by decide) ?_
      refine pl_icmp_ne X (by omega) (by decide) d_Model_done_85 rfl (fun g85 => ?_) (fun g85 => ?_)
      · skip
        refine lv_aload_n hx hb d_Model_done_98 rfl (lv_at hl 2 rfl) ?_
        refine pl_get X fw_Model_42 hK hP 0 rfl (v := .ref o10) rfl d_Model_done_99 ?_
        refine lv_aload_n hx hb d_Model_done_102 rfl (lv_at hl 2 rfl) ?_
        refine pl_get X fw_Model_127 hK hP 0 rfl (v := .int (nI dn)) rfl d_Model_done_103 ?_
        refine lv_iload_n hx hb d_Model_done_106 rfl (lv_at hl 3 rfl) ?_
        refine pl_iast X hK hP hD hS 6 0 rfl rfl dn (by omega) (by decide) d_Model_done_107 (ws' := [(m0, .inr (6, [.int (nI co), .int (nI np), .ref o1, .ref o2, .ref o3, .int (nI n), .ref o4, .ref o5, .ref o6, .ref o7, .int fo1, .int fk1, .int (nI 1), .int (nI how), .int (nI pl), .int (nI la), .int (nI stt), .int (nI (q + 1)), .ref o8, .ref o9, .int (nI dn), .ref o10, .ref o11])), (o4, .inl (cZ, 32, .inl ru)), (o5, .inl (cI, 32, .inl lo)), (o6, .inl (cI, 32, .inl hi)), (o7, .inl (cI, 32, .inl tm)), (o8, .inl (cI, 20, .inl sa)), (o10, .inl (cI, 60, .inl (upd ta dn (nI j)))), (o11, .inl (cI, 60, .inl tn))]) rfl (fun H locs hP hD hS => ?_)
        refine lv_aload_n hx hb d_Model_done_108 rfl (lv_at hl 2 rfl) ?_
        refine pl_get X fw_Model_45 hK hP 0 rfl (v := .ref o11) rfl d_Model_done_109 ?_
        refine lv_aload_n hx hb d_Model_done_112 rfl (lv_at hl 2 rfl) ?_
        refine pl_get X fw_Model_127 hK hP 0 rfl (v := .int (nI dn)) rfl d_Model_done_113 ?_
        refine lv_iload_n hx hb d_Model_done_116 rfl (lv_at hl 1 rfl) ?_
        refine pl_iast X hK hP hD hS 7 0 rfl rfl dn (by omega) (by decide) d_Model_done_117 (ws' := [(m0, .inr (6, [.int (nI co), .int (nI np), .ref o1, .ref o2, .ref o3, .int (nI n), .ref o4, .ref o5, .ref o6, .ref o7, .int fo1, .int fk1, .int (nI 1), .int (nI how), .int (nI pl), .int (nI la), .int (nI stt), .int (nI (q + 1)), .ref o8, .ref o9, .int (nI dn), .ref o10, .ref o11])), (o4, .inl (cZ, 32, .inl ru)), (o5, .inl (cI, 32, .inl lo)), (o6, .inl (cI, 32, .inl hi)), (o7, .inl (cI, 32, .inl tm)), (o8, .inl (cI, 20, .inl sa)), (o10, .inl (cI, 60, .inl (upd ta dn (nI j)))), (o11, .inl (cI, 60, .inl (upd tn dn (sa q))))]) rfl (fun H locs hP hD hS => ?_)
        refine lv_aload_n hx hb d_Model_done_118 rfl (lv_at hl 2 rfl) ?_
        refine lv_dup hx hb d_Model_done_119 rfl ?_
        refine pl_get X fw_Model_127 hK hP 0 rfl (v := .int (nI dn)) rfl d_Model_done_120 ?_
        refine lv_iconst (v := nI 1) hx hb d_Model_done_123 (by decide) ?_
        refine pl_iadd X d_Model_done_124 (z := nI (dn + 1)) (nI_add _ _) ?_
        refine pl_put X fw_Model_127 fp_Model rfl hK hP hD hS 0 rfl (v := .int (nI (dn + 1))) rfl rfl (Nat.le_of_ble_eq_true rfl) d_Model_done_125 (ws' := [(m0, .inr (6, [.int (nI co), .int (nI np), .ref o1, .ref o2, .ref o3, .int (nI n), .ref o4, .ref o5, .ref o6, .ref o7, .int fo1, .int fk1, .int (nI 1), .int (nI how), .int (nI pl), .int (nI la), .int (nI stt), .int (nI (q + 1)), .ref o8, .ref o9, .int (nI (dn + 1)), .ref o10, .ref o11])), (o4, .inl (cZ, 32, .inl ru)), (o5, .inl (cI, 32, .inl lo)), (o6, .inl (cI, 32, .inl hi)), (o7, .inl (cI, 32, .inl tm)), (o8, .inl (cI, 20, .inl sa)), (o10, .inl (cI, 60, .inl (upd ta dn (nI j)))), (o11, .inl (cI, 60, .inl (upd tn dn (sa q))))]) rfl (fun H locs hP hD hS => ?_)
        refine lv_aload_n hx hb d_Model_done_128 rfl (lv_at hl 2 rfl) ?_
        refine lv_dup hx hb d_Model_done_129 rfl ?_
        refine pl_get X fw_Model_124 hK hP 0 rfl (v := .int (nI (q + 1))) rfl d_Model_done_130 ?_
        refine lv_iconst (v := nI 1) hx hb d_Model_done_133 (by decide) ?_
        refine pl_isub X d_Model_done_134 (z := nI q) (nI_dec _) ?_
        refine pl_put X fw_Model_124 fp_Model rfl hK hP hD hS 0 rfl (v := .int (nI q)) rfl rfl (Nat.le_of_ble_eq_true rfl) d_Model_done_135 (ws' := [(m0, .inr (6, [.int (nI co), .int (nI np), .ref o1, .ref o2, .ref o3, .int (nI n), .ref o4, .ref o5, .ref o6, .ref o7, .int fo1, .int fk1, .int (nI 1), .int (nI how), .int (nI pl), .int (nI la), .int (nI stt), .int (nI q), .ref o8, .ref o9, .int (nI (dn + 1)), .ref o10, .ref o11])), (o4, .inl (cZ, 32, .inl ru)), (o5, .inl (cI, 32, .inl lo)), (o6, .inl (cI, 32, .inl hi)), (o7, .inl (cI, 32, .inl tm)), (o8, .inl (cI, 20, .inl sa)), (o10, .inl (cI, 60, .inl (upd ta dn (nI j)))), (o11, .inl (cI, 60, .inl (upd tn dn (sa q))))]) rfl (fun H locs hP hD hS => ?_)
        exact pl_vret X hr hlk hK (1, pl0 + 1, q, stt, dn + 1, upd ta dn (nI j), upd tn dn (sa q)) (actS_1n g27 (by omega)) hP hD hS d_Model_done_138
      · skip
        exact absurd g85 g27
    · skip
      refine lv_aload_n hx hb d_Model_done_74 rfl (lv_at hl 2 rfl) ?_
      refine lv_iconst (v := nI 3) hx hb d_Model_done_75 (by decide) ?_
      refine pl_put X fw_Model_58 fp_Model rfl hK hP hD hS 0 rfl (v := .int (nI 3)) rfl rfl (Nat.le_of_ble_eq_true rfl) d_Model_done_76 (ws' := [(m0, .inr (6, [.int (nI co), .int (nI np), .ref o1, .ref o2, .ref o3, .int (nI n), .ref o4, .ref o5, .ref o6, .ref o7, .int fo1, .int fk1, .int (nI 3), .int (nI how), .int (nI pl), .int (nI la), .int (nI stt), .int (nI (q + 1)), .ref o8, .ref o9, .int (nI dn), .ref o10, .ref o11])), (o4, .inl (cZ, 32, .inl ru)), (o5, .inl (cI, 32, .inl lo)), (o6, .inl (cI, 32, .inl hi)), (o7, .inl (cI, 32, .inl tm)), (o8, .inl (cI, 20, .inl sa)), (o10, .inl (cI, 60, .inl ta)), (o11, .inl (cI, 60, .inl tn))]) rfl (fun H locs hP hD hS => ?_)
      exact pl_vret X hr hlk hK (3, pl0, q + 1, stt, dn, ta, tn) (actS_3n g27 (by omega)) hP hD hS d_Model_done_79
  · skip
    refine lv_aload_n hx hb d_Model_done_30 rfl (lv_at hl 2 rfl) ?_
    refine pl_get X fw_Model_23 hK hP 0 rfl (v := .ref o4) rfl d_Model_done_31 ?_
    refine lv_iload_n hx hb d_Model_done_34 rfl (lv_at hl 0 rfl) ?_
    refine pl_zald X hK hP 1 1 rfl rfl (stt * 8 + j) (by omega) (by decide) (z := bI (decide (¬ th (stt * 8 + j) = -1))) (hru _ (by omega)).1 d_Model_done_35 ?_
    refine pl_ifB_eq X d_Model_done_36 rfl (fun g36 => ?_) (fun g36 => ?_)
    · skip
      refine lv_aload_n hx hb d_Model_done_59 rfl (lv_at hl 2 rfl) ?_
      refine lv_iconst (v := nI 4) hx hb d_Model_done_60 (by decide) ?_
      refine pl_put X fw_Model_58 fp_Model rfl hK hP hD hS 0 rfl (v := .int (nI 4)) rfl rfl (Nat.le_of_ble_eq_true rfl) d_Model_done_61 (ws' := [(m0, .inr (6, [.int (nI co), .int (nI np), .ref o1, .ref o2, .ref o3, .int (nI n), .ref o4, .ref o5, .ref o6, .ref o7, .int fo1, .int fk1, .int (nI 4), .int (nI how), .int (nI pl), .int (nI la), .int (nI stt), .int (nI (q + 1)), .ref o8, .ref o9, .int (nI dn), .ref o10, .ref o11])), (o4, .inl (cZ, 32, .inl ru)), (o5, .inl (cI, 32, .inl lo)), (o6, .inl (cI, 32, .inl hi)), (o7, .inl (cI, 32, .inl tm)), (o8, .inl (cI, 20, .inl sa)), (o10, .inl (cI, 60, .inl ta)), (o11, .inl (cI, 60, .inl tn))]) rfl (fun H locs hP hD hS => ?_)
      exact pl_vret X hr hlk hK (4, pl0, q + 1, stt, dn, ta, tn) (actS_4 g27 (okA_1 g36)) hP hD hS d_Model_done_64
    · skip
      refine lv_iload_n hx hb d_Model_done_39 rfl (lv_at hl 1 rfl) ?_
      refine lv_aload_n hx hb d_Model_done_40 rfl (lv_at hl 2 rfl) ?_
      refine pl_get X fw_Model_27 hK hP 0 rfl (v := .ref o5) rfl d_Model_done_41 ?_
      refine lv_iload_n hx hb d_Model_done_44 rfl (lv_at hl 0 rfl) ?_
      refine pl_iald X hK hP 2 0 rfl rfl (stt * 8 + j) (by omega) (by decide) (z := lo (stt * 8 + j)) rfl d_Model_done_45 ?_
      refine lv_icmp_lt hx hb d_Model_done_46 rfl (fun g46 => ?_) (fun g46 => ?_)
      · skip
        refine lv_aload_n hx hb d_Model_done_59 rfl (lv_at hl 2 rfl) ?_
        refine lv_iconst (v := nI 4) hx hb d_Model_done_60 (by decide) ?_
        refine pl_put X fw_Model_58 fp_Model rfl hK hP hD hS 0 rfl (v := .int (nI 4)) rfl rfl (Nat.le_of_ble_eq_true rfl) d_Model_done_61 (ws' := [(m0, .inr (6, [.int (nI co), .int (nI np), .ref o1, .ref o2, .ref o3, .int (nI n), .ref o4, .ref o5, .ref o6, .ref o7, .int fo1, .int fk1, .int (nI 4), .int (nI how), .int (nI pl), .int (nI la), .int (nI stt), .int (nI (q + 1)), .ref o8, .ref o9, .int (nI dn), .ref o10, .ref o11])), (o4, .inl (cZ, 32, .inl ru)), (o5, .inl (cI, 32, .inl lo)), (o6, .inl (cI, 32, .inl hi)), (o7, .inl (cI, 32, .inl tm)), (o8, .inl (cI, 20, .inl sa)), (o10, .inl (cI, 60, .inl ta)), (o11, .inl (cI, 60, .inl tn))]) rfl (fun H locs hP hD hS => ?_)
        exact pl_vret X hr hlk hK (4, pl0, q + 1, stt, dn, ta, tn) (actS_4 g27 (okA_2 g46)) hP hD hS d_Model_done_64
      · skip
        refine lv_iload_n hx hb d_Model_done_49 rfl (lv_at hl 1 rfl) ?_
        refine lv_aload_n hx hb d_Model_done_50 rfl (lv_at hl 2 rfl) ?_
        refine pl_get X fw_Model_30 hK hP 0 rfl (v := .ref o6) rfl d_Model_done_51 ?_
        refine lv_iload_n hx hb d_Model_done_54 rfl (lv_at hl 0 rfl) ?_
        refine pl_iald X hK hP 3 0 rfl rfl (stt * 8 + j) (by omega) (by decide) (z := hi (stt * 8 + j)) rfl d_Model_done_55 ?_
        refine lv_icmp_le hx hb d_Model_done_56 rfl (fun g56 => ?_) (fun g56 => ?_)
        · skip
          refine lv_aload_n hx hb d_Model_done_65 rfl (lv_at hl 2 rfl) ?_
          refine pl_get X fw_Model_127 hK hP 0 rfl (v := .int (nI dn)) rfl d_Model_done_66 ?_
          refine lv_bipush (v := nI 60) hx hb d_Model_done_69 (by decide) ?_
          refine pl_icmp_ne X (by omega) (by decide) d_Model_done_71 rfl (fun g71 => ?_) (fun g71 => ?_)
          · skip
            refine lv_aload_n hx hb d_Model_done_80 rfl (lv_at hl 2 rfl) ?_
            refine pl_get X fw_Model_112 hK hP 0 rfl (v := .int (nI how)) rfl d_Model_done_81 ?_
            refine lv_iconst (v := nI 2) hx hb d_Model_done_84 (by decide) ?_
            refine pl_icmp_ne X (by omega) (by decide) d_Model_done_85 rfl (fun g85 => ?_) (fun g85 => ?_)
            · skip
              exact absurd g27 g85
            · skip
              refine lv_aload_n hx hb d_Model_done_88 rfl (lv_at hl 2 rfl) ?_
              refine lv_aload_n hx hb d_Model_done_89 rfl (lv_at hl 2 rfl) ?_
              refine pl_get X fw_Model_33 hK hP 0 rfl (v := .ref o7) rfl d_Model_done_90 ?_
              refine lv_iload_n hx hb d_Model_done_93 rfl (lv_at hl 0 rfl) ?_
              refine pl_iald X hK hP 4 0 rfl rfl (stt * 8 + j) (by omega) (by decide) (z := nI ((th (stt * 8 + j)).toNatClampNeg)) (((hru _ (by omega)).2 (rn_yes g36)).trans (hth (rn_yes g36))) d_Model_done_94 ?_
              refine pl_put X fw_Model_121 fp_Model rfl hK hP hD hS 0 rfl (v := .int (nI ((th (stt * 8 + j)).toNatClampNeg))) rfl rfl (Nat.le_of_ble_eq_true rfl) d_Model_done_95 (ws' := [(m0, .inr (6, [.int (nI co), .int (nI np), .ref o1, .ref o2, .ref o3, .int (nI n), .ref o4, .ref o5, .ref o6, .ref o7, .int fo1, .int fk1, .int (nI 1), .int (nI how), .int (nI pl), .int (nI la), .int (nI ((th (stt * 8 + j)).toNatClampNeg)), .int (nI (q + 1)), .ref o8, .ref o9, .int (nI dn), .ref o10, .ref o11])), (o4, .inl (cZ, 32, .inl ru)), (o5, .inl (cI, 32, .inl lo)), (o6, .inl (cI, 32, .inl hi)), (o7, .inl (cI, 32, .inl tm)), (o8, .inl (cI, 20, .inl sa)), (o10, .inl (cI, 60, .inl ta)), (o11, .inl (cI, 60, .inl tn))]) rfl (fun H locs hP hD hS => ?_)
              refine lv_aload_n hx hb d_Model_done_98 rfl (lv_at hl 2 rfl) ?_
              refine pl_get X fw_Model_42 hK hP 0 rfl (v := .ref o10) rfl d_Model_done_99 ?_
              refine lv_aload_n hx hb d_Model_done_102 rfl (lv_at hl 2 rfl) ?_
              refine pl_get X fw_Model_127 hK hP 0 rfl (v := .int (nI dn)) rfl d_Model_done_103 ?_
              refine lv_iload_n hx hb d_Model_done_106 rfl (lv_at hl 3 rfl) ?_
              refine pl_iast X hK hP hD hS 6 0 rfl rfl dn (by omega) (by decide) d_Model_done_107 (ws' := [(m0, .inr (6, [.int (nI co), .int (nI np), .ref o1, .ref o2, .ref o3, .int (nI n), .ref o4, .ref o5, .ref o6, .ref o7, .int fo1, .int fk1, .int (nI 1), .int (nI how), .int (nI pl), .int (nI la), .int (nI ((th (stt * 8 + j)).toNatClampNeg)), .int (nI (q + 1)), .ref o8, .ref o9, .int (nI dn), .ref o10, .ref o11])), (o4, .inl (cZ, 32, .inl ru)), (o5, .inl (cI, 32, .inl lo)), (o6, .inl (cI, 32, .inl hi)), (o7, .inl (cI, 32, .inl tm)), (o8, .inl (cI, 20, .inl sa)), (o10, .inl (cI, 60, .inl (upd ta dn (nI j)))), (o11, .inl (cI, 60, .inl tn))]) rfl (fun H locs hP hD hS => ?_)
              refine lv_aload_n hx hb d_Model_done_108 rfl (lv_at hl 2 rfl) ?_
              refine pl_get X fw_Model_45 hK hP 0 rfl (v := .ref o11) rfl d_Model_done_109 ?_
              refine lv_aload_n hx hb d_Model_done_112 rfl (lv_at hl 2 rfl) ?_
              refine pl_get X fw_Model_127 hK hP 0 rfl (v := .int (nI dn)) rfl d_Model_done_113 ?_
              refine lv_iload_n hx hb d_Model_done_116 rfl (lv_at hl 1 rfl) ?_
              refine pl_iast X hK hP hD hS 7 0 rfl rfl dn (by omega) (by decide) d_Model_done_117 (ws' := [(m0, .inr (6, [.int (nI co), .int (nI np), .ref o1, .ref o2, .ref o3, .int (nI n), .ref o4, .ref o5, .ref o6, .ref o7, .int fo1, .int fk1, .int (nI 1), .int (nI how), .int (nI pl), .int (nI la), .int (nI ((th (stt * 8 + j)).toNatClampNeg)), .int (nI (q + 1)), .ref o8, .ref o9, .int (nI dn), .ref o10, .ref o11])), (o4, .inl (cZ, 32, .inl ru)), (o5, .inl (cI, 32, .inl lo)), (o6, .inl (cI, 32, .inl hi)), (o7, .inl (cI, 32, .inl tm)), (o8, .inl (cI, 20, .inl sa)), (o10, .inl (cI, 60, .inl (upd ta dn (nI j)))), (o11, .inl (cI, 60, .inl (upd tn dn (sa q))))]) rfl (fun H locs hP hD hS => ?_)
              refine lv_aload_n hx hb d_Model_done_118 rfl (lv_at hl 2 rfl) ?_
              refine lv_dup hx hb d_Model_done_119 rfl ?_
              refine pl_get X fw_Model_127 hK hP 0 rfl (v := .int (nI dn)) rfl d_Model_done_120 ?_
              refine lv_iconst (v := nI 1) hx hb d_Model_done_123 (by decide) ?_
              refine pl_iadd X d_Model_done_124 (z := nI (dn + 1)) (nI_add _ _) ?_
              refine pl_put X fw_Model_127 fp_Model rfl hK hP hD hS 0 rfl (v := .int (nI (dn + 1))) rfl rfl (Nat.le_of_ble_eq_true rfl) d_Model_done_125 (ws' := [(m0, .inr (6, [.int (nI co), .int (nI np), .ref o1, .ref o2, .ref o3, .int (nI n), .ref o4, .ref o5, .ref o6, .ref o7, .int fo1, .int fk1, .int (nI 1), .int (nI how), .int (nI pl), .int (nI la), .int (nI ((th (stt * 8 + j)).toNatClampNeg)), .int (nI (q + 1)), .ref o8, .ref o9, .int (nI (dn + 1)), .ref o10, .ref o11])), (o4, .inl (cZ, 32, .inl ru)), (o5, .inl (cI, 32, .inl lo)), (o6, .inl (cI, 32, .inl hi)), (o7, .inl (cI, 32, .inl tm)), (o8, .inl (cI, 20, .inl sa)), (o10, .inl (cI, 60, .inl (upd ta dn (nI j)))), (o11, .inl (cI, 60, .inl (upd tn dn (sa q))))]) rfl (fun H locs hP hD hS => ?_)
              refine lv_aload_n hx hb d_Model_done_128 rfl (lv_at hl 2 rfl) ?_
              refine lv_dup hx hb d_Model_done_129 rfl ?_
              refine pl_get X fw_Model_124 hK hP 0 rfl (v := .int (nI (q + 1))) rfl d_Model_done_130 ?_
              refine lv_iconst (v := nI 1) hx hb d_Model_done_133 (by decide) ?_
              refine pl_isub X d_Model_done_134 (z := nI q) (nI_dec _) ?_
              refine pl_put X fw_Model_124 fp_Model rfl hK hP hD hS 0 rfl (v := .int (nI q)) rfl rfl (Nat.le_of_ble_eq_true rfl) d_Model_done_135 (ws' := [(m0, .inr (6, [.int (nI co), .int (nI np), .ref o1, .ref o2, .ref o3, .int (nI n), .ref o4, .ref o5, .ref o6, .ref o7, .int fo1, .int fk1, .int (nI 1), .int (nI how), .int (nI pl), .int (nI la), .int (nI ((th (stt * 8 + j)).toNatClampNeg)), .int (nI q), .ref o8, .ref o9, .int (nI (dn + 1)), .ref o10, .ref o11])), (o4, .inl (cZ, 32, .inl ru)), (o5, .inl (cI, 32, .inl lo)), (o6, .inl (cI, 32, .inl hi)), (o7, .inl (cI, 32, .inl tm)), (o8, .inl (cI, 20, .inl sa)), (o10, .inl (cI, 60, .inl (upd ta dn (nI j)))), (o11, .inl (cI, 60, .inl (upd tn dn (sa q))))]) rfl (fun H locs hP hD hS => ?_)
              exact pl_vret X hr hlk hK (1, pl0 + 1, q, (th (stt * 8 + j)).toNatClampNeg, dn + 1, upd ta dn (nI j), upd tn dn (sa q)) (actS_1w g27 (okA_4 g36 g46 g56) (by omega)) hP hD hS d_Model_done_138
          · skip
            refine lv_aload_n hx hb d_Model_done_74 rfl (lv_at hl 2 rfl) ?_
            refine lv_iconst (v := nI 3) hx hb d_Model_done_75 (by decide) ?_
            refine pl_put X fw_Model_58 fp_Model rfl hK hP hD hS 0 rfl (v := .int (nI 3)) rfl rfl (Nat.le_of_ble_eq_true rfl) d_Model_done_76 (ws' := [(m0, .inr (6, [.int (nI co), .int (nI np), .ref o1, .ref o2, .ref o3, .int (nI n), .ref o4, .ref o5, .ref o6, .ref o7, .int fo1, .int fk1, .int (nI 3), .int (nI how), .int (nI pl), .int (nI la), .int (nI stt), .int (nI (q + 1)), .ref o8, .ref o9, .int (nI dn), .ref o10, .ref o11])), (o4, .inl (cZ, 32, .inl ru)), (o5, .inl (cI, 32, .inl lo)), (o6, .inl (cI, 32, .inl hi)), (o7, .inl (cI, 32, .inl tm)), (o8, .inl (cI, 20, .inl sa)), (o10, .inl (cI, 60, .inl ta)), (o11, .inl (cI, 60, .inl tn))]) rfl (fun H locs hP hD hS => ?_)
            exact pl_vret X hr hlk hK (3, pl0, q + 1, stt, dn, ta, tn) (actS_3w (okA_4 g36 g46 g56) (by omega)) hP hD hS d_Model_done_79
        · skip
          refine lv_aload_n hx hb d_Model_done_59 rfl (lv_at hl 2 rfl) ?_
          refine lv_iconst (v := nI 4) hx hb d_Model_done_60 (by decide) ?_
          refine pl_put X fw_Model_58 fp_Model rfl hK hP hD hS 0 rfl (v := .int (nI 4)) rfl rfl (Nat.le_of_ble_eq_true rfl) d_Model_done_61 (ws' := [(m0, .inr (6, [.int (nI co), .int (nI np), .ref o1, .ref o2, .ref o3, .int (nI n), .ref o4, .ref o5, .ref o6, .ref o7, .int fo1, .int fk1, .int (nI 4), .int (nI how), .int (nI pl), .int (nI la), .int (nI stt), .int (nI (q + 1)), .ref o8, .ref o9, .int (nI dn), .ref o10, .ref o11])), (o4, .inl (cZ, 32, .inl ru)), (o5, .inl (cI, 32, .inl lo)), (o6, .inl (cI, 32, .inl hi)), (o7, .inl (cI, 32, .inl tm)), (o8, .inl (cI, 20, .inl sa)), (o10, .inl (cI, 60, .inl ta)), (o11, .inl (cI, 60, .inl tn))]) rfl (fun H locs hP hD hS => ?_)
          exact pl_vret X hr hlk hK (4, pl0, q + 1, stt, dn, ta, tn) (actS_4 g27 (okA_3 g56)) hP hD hS d_Model_done_64

set_option maxHeartbeats 4000000 in
set_option maxRecDepth 100000 in
theorem c_Model_one_0 (l : Launch) (D : va_G) (cI cZ cL : ClassId) (m0 o1 o2 o3 o4 o5 o6 o7 o8 o9 o10 o11 : Nat) (P K Hm ru lo hi tm sa ca ta tn : Nat → Int32) (fo1 fk1 : Int32) (co np n stat how pl la stt q dn : Nat) (th : Nat → Int32) (kx : Int32) (hn : n ≤ 4) (hnp : np ≤ 24) (hop : okP P np) (hok : okK P K np) (hru : rulR ru tm th) (hO : (how = 1 → pl < plc P K th n np ∧ (wO P K th n np).getD pl 0 = nI 0 ∧ (wK P K lo hi th n np).getD pl 0 = kx) ∧ (¬ how = 1 → pl < np ∧ P pl = nI 0 ∧ K pl = kx)) (hh : how ≤ 2) (hpl : pl < 2000) (hq : q < 20) : pl_V l y_Model_one b_Model_one 5 ({ frames := 4, cells := 0, slots := 0, locals := 91 } : Room) pl_E0 D classes (TY cI cZ cL) [.ref m0] [(m0, .inr (6, [.int (nI co), .int (nI np), .ref o1, .ref o2, .ref o3, .int (nI n), .ref o4, .ref o5, .ref o6, .ref o7, .int fo1, .int fk1, .int (nI 1), .int (nI how), .int (nI pl), .int (nI la), .int (nI stt), .int (nI q), .ref o8, .ref o9, .int (nI dn), .ref o10, .ref o11])), (o1, .inl (cI, 24, .inl P)), (o2, .inl (cI, 24, .inl K)), (o4, .inl (cZ, 32, .inl ru)), (o5, .inl (cI, 32, .inl lo)), (o6, .inl (cI, 32, .inl hi)), (o7, .inl (cI, 32, .inl tm)), (o8, .inl (cI, 20, .inl sa)), (o9, .inl (cI, 8, .inl ca)), (o10, .inl (cI, 60, .inl ta)), (o11, .inl (cI, 60, .inl tn))] (fun _ : Unit => True) (fun (_ : Unit) => [(m0, .inr (6, [.int (nI co), .int (nI np), .ref o1, .ref o2, .ref o3, .int (nI n), .ref o4, .ref o5, .ref o6, .ref o7, .int (nI 0), .int kx, .int (nI 1), .int (nI how), .int (nI (pl + 1)), .int (nI pl), .int (nI stt), .int (nI (q + 1)), .ref o8, .ref o9, .int (nI dn), .ref o10, .ref o11])), (o1, .inl (cI, 24, .inl P)), (o2, .inl (cI, 24, .inl K)), (o4, .inl (cZ, 32, .inl ru)), (o5, .inl (cI, 32, .inl lo)), (o6, .inl (cI, 32, .inl hi)), (o7, .inl (cI, 32, .inl tm)), (o8, .inl (cI, 20, .inl (upd sa q kx))), (o9, .inl (cI, 8, .inl ca)), (o10, .inl (cI, 60, .inl ta)), (o11, .inl (cI, 60, .inl tn))]) := by
  refine pl_startV (by decide) (Nat.le_of_ble_eq_true rfl) ?_
  intro p e s m args below meth c A ls X hr hlk hin hK hP hD hS hA hE hl
  have X : CallFix p m c b_Model_one 5 s args TG R_Model := X
  have hx := X.1
  have hb := X.2.1
  have hl : lv_has ls 5 [(0, .ref m0)] := hl
  have join_49 : ∀ (_ : Unit) (H : Heap) (locs : List Loc) (ls : Array Slot), va_P D classes [(m0, .inr (6, [.int (nI co), .int (nI np), .ref o1, .ref o2, .ref o3, .int (nI n), .ref o4, .ref o5, .ref o6, .ref o7, .int (nI 0), .int kx, .int (nI 1), .int (nI how), .int (nI pl), .int (nI pl), .int (nI stt), .int (nI q), .ref o8, .ref o9, .int (nI dn), .ref o10, .ref o11])), (o1, .inl (cI, 24, .inl P)), (o2, .inl (cI, 24, .inl K)), (o4, .inl (cZ, 32, .inl ru)), (o5, .inl (cI, 32, .inl lo)), (o6, .inl (cI, 32, .inl hi)), (o7, .inl (cI, 32, .inl tm)), (o8, .inl (cI, 20, .inl sa)), (o9, .inl (cI, 8, .inl ca)), (o10, .inl (cI, 60, .inl ta)), (o11, .inl (cI, 60, .inl tn))] H → va_D A [(m0, .inr (6, [.int (nI co), .int (nI np), .ref o1, .ref o2, .ref o3, .int (nI n), .ref o4, .ref o5, .ref o6, .ref o7, .int (nI 0), .int kx, .int (nI 1), .int (nI how), .int (nI pl), .int (nI pl), .int (nI stt), .int (nI q), .ref o8, .ref o9, .int (nI dn), .ref o10, .ref o11])), (o1, .inl (cI, 24, .inl P)), (o2, .inl (cI, 24, .inl K)), (o4, .inl (cZ, 32, .inl ru)), (o5, .inl (cI, 32, .inl lo)), (o6, .inl (cI, 32, .inl hi)), (o7, .inl (cI, 32, .inl tm)), (o8, .inl (cI, 20, .inl sa)), (o9, .inl (cI, 8, .inl ca)), (o10, .inl (cI, 60, .inl ta)), (o11, .inl (cI, 60, .inl tn))] → va_S A s.heap H locs → lv_has ls 5 [(0, .ref m0)] → W p l e ({ frames := 4, cells := 0, slots := 0, locals := 91 } : Room) s m args below meth c H locs 0 0 (MQ below (va_Qv (fun _ : Unit => True) (fun u => pl_out D classes (TY cI cZ cL) A ((fun (_ : Unit) => [(m0, .inr (6, [.int (nI co), .int (nI np), .ref o1, .ref o2, .ref o3, .int (nI n), .ref o4, .ref o5, .ref o6, .ref o7, .int (nI 0), .int kx, .int (nI 1), .int (nI how), .int (nI (pl + 1)), .int (nI pl), .int (nI stt), .int (nI (q + 1)), .ref o8, .ref o9, .int (nI dn), .ref o10, .ref o11])), (o1, .inl (cI, 24, .inl P)), (o2, .inl (cI, 24, .inl K)), (o4, .inl (cZ, 32, .inl ru)), (o5, .inl (cI, 32, .inl lo)), (o6, .inl (cI, 32, .inl hi)), (o7, .inl (cI, 32, .inl tm)), (o8, .inl (cI, 20, .inl (upd sa q kx))), (o9, .inl (cI, 8, .inl ca)), (o10, .inl (cI, 60, .inl ta)), (o11, .inl (cI, 60, .inl tn))]) u)) A) args s 0 0 A) (F0 m 49 ls []) := by
    intro _ H locs ls hP hD hS hl
    refine lv_aload_n hx hb d_Model_one_49 rfl (lv_at hl 0 rfl) ?_
    refine pl_get X fw_Model_91 hK hP 0 rfl (v := .int (nI 0)) rfl d_Model_one_50 ?_
    refine lv_istore_n hx hb d_Model_one_53 rfl hl (by decide) (lv' := [(1, .int (nI 0)), (0, .ref m0)]) rfl (fun ls hl => ?_)
    refine lv_aload_n hx hb d_Model_one_54 rfl (lv_at hl 1 rfl) ?_
    refine pl_get X fw_Model_94 hK hP 0 rfl (v := .int kx) rfl d_Model_one_55 ?_
    refine lv_istore_n hx hb d_Model_one_58 rfl hl (by decide) (lv' := [(2, .int kx), (1, .int (nI 0)), (0, .ref m0)]) rfl (fun ls hl => ?_)
    refine lv_aload_n hx hb d_Model_one_59 rfl (lv_at hl 2 rfl) ?_
    refine lv_dup hx hb d_Model_one_60 rfl ?_
    refine pl_get X fw_Model_115 hK hP 0 rfl (v := .int (nI pl)) rfl d_Model_one_61 ?_
    refine lv_iconst (v := nI 1) hx hb d_Model_one_64 (by decide) ?_
    refine pl_iadd X d_Model_one_65 (z := nI (pl + 1)) (nI_add _ _) ?_
    refine pl_put X fw_Model_115 fp_Model rfl hK hP hD hS 0 rfl (v := .int (nI (pl + 1))) rfl rfl (Nat.le_of_ble_eq_true rfl) d_Model_one_66 (ws' := [(m0, .inr (6, [.int (nI co), .int (nI np), .ref o1, .ref o2, .ref o3, .int (nI n), .ref o4, .ref o5, .ref o6, .ref o7, .int (nI 0), .int kx, .int (nI 1), .int (nI how), .int (nI (pl + 1)), .int (nI pl), .int (nI stt), .int (nI q), .ref o8, .ref o9, .int (nI dn), .ref o10, .ref o11])), (o1, .inl (cI, 24, .inl P)), (o2, .inl (cI, 24, .inl K)), (o4, .inl (cZ, 32, .inl ru)), (o5, .inl (cI, 32, .inl lo)), (o6, .inl (cI, 32, .inl hi)), (o7, .inl (cI, 32, .inl tm)), (o8, .inl (cI, 20, .inl sa)), (o9, .inl (cI, 8, .inl ca)), (o10, .inl (cI, 60, .inl ta)), (o11, .inl (cI, 60, .inl tn))]) rfl (fun H locs hP hD hS => ?_)
    refine lv_iload_n hx hb d_Model_one_69 rfl (lv_at hl 1 rfl) ?_
    refine pl_callSI X (rest := []) (As := [.int (nI 0)]) (c_Model_takes_0 l D cI cZ cL) ck_Model_71 pl_E0_ok trivial hK hP hD hS hA [] [0, 1, 2, 3, 4, 5, 6, 7, 8, 9, 10] [0, 1, 2, 3, 4, 5, 6, 7, 8, 9, 10] rfl (by decide) (wr := [(m0, .inr (6, [.int (nI co), .int (nI np), .ref o1, .ref o2, .ref o3, .int (nI n), .ref o4, .ref o5, .ref o6, .ref o7, .int (nI 0), .int kx, .int (nI 1), .int (nI how), .int (nI (pl + 1)), .int (nI pl), .int (nI stt), .int (nI q), .ref o8, .ref o9, .int (nI dn), .ref o10, .ref o11])), (o1, .inl (cI, 24, .inl P)), (o2, .inl (cI, 24, .inl K)), (o4, .inl (cZ, 32, .inl ru)), (o5, .inl (cI, 32, .inl lo)), (o6, .inl (cI, 32, .inl hi)), (o7, .inl (cI, 32, .inl tm)), (o8, .inl (cI, 20, .inl sa)), (o9, .inl (cI, 8, .inl ca)), (o10, .inl (cI, 60, .inl ta)), (o11, .inl (cI, 60, .inl tn))]) rfl (by decide) (by decide) (wf := fun _ => [(m0, .inr (6, [.int (nI co), .int (nI np), .ref o1, .ref o2, .ref o3, .int (nI n), .ref o4, .ref o5, .ref o6, .ref o7, .int (nI 0), .int kx, .int (nI 1), .int (nI how), .int (nI (pl + 1)), .int (nI pl), .int (nI stt), .int (nI q), .ref o8, .ref o9, .int (nI dn), .ref o10, .ref o11])), (o1, .inl (cI, 24, .inl P)), (o2, .inl (cI, 24, .inl K)), (o4, .inl (cZ, 32, .inl ru)), (o5, .inl (cI, 32, .inl lo)), (o6, .inl (cI, 32, .inl hi)), (o7, .inl (cI, 32, .inl tm)), (o8, .inl (cI, 20, .inl sa)), (o9, .inl (cI, 8, .inl ca)), (o10, .inl (cI, 60, .inl ta)), (o11, .inl (cI, 60, .inl tn))]) (fun _ => rfl) (by decide) rfl hl.1 rfl (Nat.le_of_ble_eq_true rfl) (by decide) (by decide) d_Model_one_70 (fun r u0 H locs hcq hP hD hS => ?_)
    subst hcq
    refine lv_iconst (v := nI 2) hx hb d_Model_one_73 (by decide) ?_
    refine pl_icmp_ne X (by decide) (by decide) d_Model_one_74 rfl (fun gL => ?_) (fun gL => ?_)
    · skip
      refine lv_iconst (v := nI 0) hx hb d_Model_one_84 (by decide) ?_
      refine lv_istore_n hx hb d_Model_one_85 rfl hl (by decide) (lv' := [(3, .int (nI 0)), (2, .int kx), (1, .int (nI 0)), (0, .ref m0)]) rfl (fun ls hl => ?_)
      refine lv_iload_n hx hb d_Model_one_86 rfl (lv_at hl 2 rfl) ?_
      refine lv_iconst (v := nI 2) hx hb d_Model_one_87 (by decide) ?_
      refine pl_icmp_eq X (by decide) (by decide) d_Model_one_88 rfl (fun gL => ?_) (fun gL => ?_)
      · skip
        exact absurd gL (by decide)
      · skip
        refine lv_iload_n hx hb d_Model_one_91 rfl (lv_at hl 2 rfl) ?_
        refine lv_iconst (v := nI 3) hx hb d_Model_one_92 (by decide) ?_
        refine pl_icmp_eq X (by decide) (by decide) d_Model_one_93 rfl (fun gL => ?_) (fun gL => ?_)
        · skip
          exact absurd gL (by decide)
        · skip
          refine lv_iload_n hx hb d_Model_one_96 rfl (lv_at hl 2 rfl) ?_
          refine lv_iconst (v := nI 4) hx hb d_Model_one_97 (by decide) ?_
          refine pl_icmp_eq X (by decide) (by decide) d_Model_one_98 rfl (fun gL => ?_) (fun gL => ?_)
          · skip
            exact absurd gL (by decide)
          · skip
            refine lv_iload_n hx hb d_Model_one_101 rfl (lv_at hl 2 rfl) ?_
            refine lv_bipush (v := nI 10) hx hb d_Model_one_102 (by decide) ?_
            refine pl_icmp_ne X (by decide) (by decide) d_Model_one_104 rfl (fun gL => ?_) (fun gL => ?_)
            · skip
              refine lv_iconst (v := nI 0) hx hb d_Model_one_114 (by decide) ?_
              refine lv_istore hx hb d_Model_one_115 hl (by decide) (lv' := [(4, .int (nI 0)), (3, .int (nI 0)), (2, .int kx), (1, .int (nI 0)), (0, .ref m0)]) rfl (fun ls hl => ?_)
              refine lv_iload_n hx hb d_Model_one_117 rfl (lv_at hl 3 rfl) ?_
              refine lv_tableIn hx hb d_Model_one_118 (by decide) (by decide) (off := 62) (by decide) (tgt := 180) rfl ?_
              refine lv_aload_n hx hb d_Model_one_180 rfl (lv_at hl 4 rfl) ?_
              refine lv_iload_n hx hb d_Model_one_181 rfl (lv_at hl 2 rfl) ?_
              refine pl_callVV X (rest := []) (As := [.int kx]) (b := m0) (c_Model_push l D cI cZ cL m0 o1 o2 o3 o4 o5 o6 o7 o8 o9 o10 o11 P K Hm ru lo hi tm sa ca ta tn (nI 0) kx co np n 1 how (pl + 1) pl stt q dn kx (by omega)) ck_Model_134 pl_E0_ok trivial hK hP hD hS hA (T := F_Model) (N := N_Model) (ci := 6) rfl 0 rfl [0, 7] [1, 2, 3, 4, 5, 6, 8, 9, 10] [9, 0, 1, 2, 3, 4, 5, 10, 6, 7, 8] rfl (by decide) (wr := [(o1, .inl (cI, 24, .inl P)), (o2, .inl (cI, 24, .inl K)), (o4, .inl (cZ, 32, .inl ru)), (o5, .inl (cI, 32, .inl lo)), (o6, .inl (cI, 32, .inl hi)), (o7, .inl (cI, 32, .inl tm)), (o9, .inl (cI, 8, .inl ca)), (o10, .inl (cI, 60, .inl ta)), (o11, .inl (cI, 60, .inl tn))]) rfl (by decide) (by decide) (wf := fun _ => [(m0, .inr (6, [.int (nI co), .int (nI np), .ref o1, .ref o2, .ref o3, .int (nI n), .ref o4, .ref o5, .ref o6, .ref o7, .int (nI 0), .int kx, .int (nI 1), .int (nI how), .int (nI (pl + 1)), .int (nI pl), .int (nI stt), .int (nI (q + 1)), .ref o8, .ref o9, .int (nI dn), .ref o10, .ref o11])), (o1, .inl (cI, 24, .inl P)), (o2, .inl (cI, 24, .inl K)), (o4, .inl (cZ, 32, .inl ru)), (o5, .inl (cI, 32, .inl lo)), (o6, .inl (cI, 32, .inl hi)), (o7, .inl (cI, 32, .inl tm)), (o8, .inl (cI, 20, .inl (upd sa q kx))), (o9, .inl (cI, 8, .inl ca)), (o10, .inl (cI, 60, .inl ta)), (o11, .inl (cI, 60, .inl tn))]) (fun _ => rfl) (by decide) rfl hl.1 rfl (Nat.le_of_ble_eq_true rfl) (by decide) (by decide) d_Model_one_182 (fun u0 H locs hcq hP hD hS => ?_)
              refine lv_goto hx hb d_Model_one_185 rfl ?_
              exact pl_vret X hr hlk hK () trivial hP hD hS d_Model_one_342
            · skip
              exact absurd gL (by decide)
    · skip
      exact absurd gL (by decide)
  refine lv_aload_n hx hb d_Model_one_0 rfl (lv_at hl 0 rfl) ?_
  refine lv_aload_n hx hb d_Model_one_1 rfl (lv_at hl 0 rfl) ?_
  refine pl_get X fw_Model_115 hK hP 0 rfl (v := .int (nI pl)) rfl d_Model_one_2 ?_
  refine pl_put X fw_Model_118 fp_Model rfl hK hP hD hS 0 rfl (v := .int (nI pl)) rfl rfl (Nat.le_of_ble_eq_true rfl) d_Model_one_5 (ws' := [(m0, .inr (6, [.int (nI co), .int (nI np), .ref o1, .ref o2, .ref o3, .int (nI n), .ref o4, .ref o5, .ref o6, .ref o7, .int fo1, .int fk1, .int (nI 1), .int (nI how), .int (nI pl), .int (nI pl), .int (nI stt), .int (nI q), .ref o8, .ref o9, .int (nI dn), .ref o10, .ref o11])), (o1, .inl (cI, 24, .inl P)), (o2, .inl (cI, 24, .inl K)), (o4, .inl (cZ, 32, .inl ru)), (o5, .inl (cI, 32, .inl lo)), (o6, .inl (cI, 32, .inl hi)), (o7, .inl (cI, 32, .inl tm)), (o8, .inl (cI, 20, .inl sa)), (o9, .inl (cI, 8, .inl ca)), (o10, .inl (cI, 60, .inl ta)), (o11, .inl (cI, 60, .inl tn))]) rfl (fun H locs hP hD hS => ?_)
  refine lv_aload_n hx hb d_Model_one_8 rfl (lv_at hl 0 rfl) ?_
  refine pl_get X fw_Model_112 hK hP 0 rfl (v := .int (nI how)) rfl d_Model_one_9 ?_
  refine lv_iconst (v := nI 1) hx hb d_Model_one_12 (by decide) ?_
  refine pl_icmp_ne X (by omega) (by decide) d_Model_one_13 rfl (fun g13 => ?_) (fun g13 => ?_)
  · skip
    refine lv_aload_n hx hb d_Model_one_27 rfl (lv_at hl 0 rfl) ?_
    refine lv_aload_n hx hb d_Model_one_28 rfl (lv_at hl 0 rfl) ?_
    refine pl_get X fw_Model_7 hK hP 0 rfl (v := .ref o1) rfl d_Model_one_29 ?_
    refine lv_aload_n hx hb d_Model_one_32 rfl (lv_at hl 0 rfl) ?_
    refine pl_get X fw_Model_115 hK hP 0 rfl (v := .int (nI pl)) rfl d_Model_one_33 ?_
    refine pl_iald X hK hP 1 0 rfl rfl pl (by have := (hO.2 g13).1; omega) (by decide) (z := nI 0) (hO.2 g13).2.1 d_Model_one_36 ?_
    refine lv_aload_n hx hb d_Model_one_37 rfl (lv_at hl 0 rfl) ?_
    refine pl_get X fw_Model_13 hK hP 0 rfl (v := .ref o2) rfl d_Model_one_38 ?_
    refine lv_aload_n hx hb d_Model_one_41 rfl (lv_at hl 0 rfl) ?_
    refine pl_get X fw_Model_115 hK hP 0 rfl (v := .int (nI pl)) rfl d_Model_one_42 ?_
    refine pl_iald X hK hP 2 0 rfl rfl pl (by have := (hO.2 g13).1; omega) (by decide) (z := kx) (hO.2 g13).2.2 d_Model_one_45 ?_
    refine pl_callVV X (rest := []) (As := [.int (nI 0), .int kx]) (b := m0) (c_Model_set l D cI cZ cL m0 o1 o2 o3 o4 o5 o6 o7 o8 o9 o10 o11 P K Hm ru lo hi tm sa ca ta tn fo1 fk1 co np n 1 how pl pl stt q dn (nI 0) kx) ck_Model_100 pl_E0_ok trivial hK hP hD hS hA (T := F_Model) (N := N_Model) (ci := 6) rfl 0 rfl [0] [1, 2, 3, 4, 5, 6, 7, 8, 9, 10] [10, 0, 1, 2, 3, 4, 5, 6, 7, 8, 9] rfl (by decide) (wr := [(o1, .inl (cI, 24, .inl P)), (o2, .inl (cI, 24, .inl K)), (o4, .inl (cZ, 32, .inl ru)), (o5, .inl (cI, 32, .inl lo)), (o6, .inl (cI, 32, .inl hi)), (o7, .inl (cI, 32, .inl tm)), (o8, .inl (cI, 20, .inl sa)), (o9, .inl (cI, 8, .inl ca)), (o10, .inl (cI, 60, .inl ta)), (o11, .inl (cI, 60, .inl tn))]) rfl (by decide) (by decide) (wf := fun _ => [(m0, .inr (6, [.int (nI co), .int (nI np), .ref o1, .ref o2, .ref o3, .int (nI n), .ref o4, .ref o5, .ref o6, .ref o7, .int (nI 0), .int kx, .int (nI 1), .int (nI how), .int (nI pl), .int (nI pl), .int (nI stt), .int (nI q), .ref o8, .ref o9, .int (nI dn), .ref o10, .ref o11])), (o1, .inl (cI, 24, .inl P)), (o2, .inl (cI, 24, .inl K)), (o4, .inl (cZ, 32, .inl ru)), (o5, .inl (cI, 32, .inl lo)), (o6, .inl (cI, 32, .inl hi)), (o7, .inl (cI, 32, .inl tm)), (o8, .inl (cI, 20, .inl sa)), (o9, .inl (cI, 8, .inl ca)), (o10, .inl (cI, 60, .inl ta)), (o11, .inl (cI, 60, .inl tn))]) (fun _ => rfl) (by decide) rfl hl.1 rfl (Nat.le_of_ble_eq_true rfl) (by decide) (by decide) d_Model_one_46 (fun u0 H locs hcq hP hD hS => ?_)
    exact join_49 (()) _ _ _ hP hD hS hl
  · skip
    refine lv_aload_n hx hb d_Model_one_16 rfl (lv_at hl 0 rfl) ?_
    refine lv_aload_n hx hb d_Model_one_17 rfl (lv_at hl 0 rfl) ?_
    refine pl_get X fw_Model_115 hK hP 0 rfl (v := .int (nI pl)) rfl d_Model_one_18 ?_
    refine pl_callVV X (rest := []) (As := [.int (nI pl)]) (b := m0) (c_Model_find l D cI cZ cL m0 o1 o2 o3 o4 o5 o6 o7 o8 o9 o10 o11 P K Hm ru lo hi tm sa ca ta tn fo1 fk1 co np n 1 how pl pl stt q dn th pl hn hnp hop hok hru (hO.1 g13).1) ck_Model_108 pl_E0_ok trivial hK hP hD hS hA (T := F_Model) (N := N_Model) (ci := 6) rfl 0 rfl [0, 1, 2, 3, 4, 5, 6] [7, 8, 9, 10] [4, 5, 6, 7, 8, 9, 10, 0, 1, 2, 3] rfl (by decide) (wr := [(o8, .inl (cI, 20, .inl sa)), (o9, .inl (cI, 8, .inl ca)), (o10, .inl (cI, 60, .inl ta)), (o11, .inl (cI, 60, .inl tn))]) rfl (by decide) (by decide) (wf := fun (uf : Int32 × Int32) => [(m0, .inr (6, [.int (nI co), .int (nI np), .ref o1, .ref o2, .ref o3, .int (nI n), .ref o4, .ref o5, .ref o6, .ref o7, .int uf.1, .int uf.2, .int (nI 1), .int (nI how), .int (nI pl), .int (nI pl), .int (nI stt), .int (nI q), .ref o8, .ref o9, .int (nI dn), .ref o10, .ref o11])), (o1, .inl (cI, 24, .inl P)), (o2, .inl (cI, 24, .inl K)), (o4, .inl (cZ, 32, .inl ru)), (o5, .inl (cI, 32, .inl lo)), (o6, .inl (cI, 32, .inl hi)), (o7, .inl (cI, 32, .inl tm)), (o8, .inl (cI, 20, .inl sa)), (o9, .inl (cI, 8, .inl ca)), (o10, .inl (cI, 60, .inl ta)), (o11, .inl (cI, 60, .inl tn))]) (fun _ => rfl) (by decide) rfl hl.1 rfl (Nat.le_of_ble_eq_true rfl) (by decide) (by decide) d_Model_one_21 (fun uf H locs hcq hP hD hS => ?_)
    obtain ⟨hc1, hc2⟩ := hcq
    have hu9 : uf = (nI 0, kx) := Prod.ext (hc1.trans (hO.1 g13).2.1) (hc2.trans (hO.1 g13).2.2)
    subst hu9
    refine lv_goto hx hb d_Model_one_24 rfl ?_
    exact join_49 (()) _ _ _ hP hD hS hl

set_option maxHeartbeats 4000000 in
set_option maxRecDepth 100000 in
theorem c_Model_one_1 (l : Launch) (D : va_G) (cI cZ cL : ClassId) (m0 o1 o2 o3 o4 o5 o6 o7 o8 o9 o10 o11 : Nat) (P K Hm ru lo hi tm sa ca ta tn : Nat → Int32) (fo1 fk1 : Int32) (co np n stat how pl la stt q dn : Nat) (th : Nat → Int32) (kx : Int32) (hn : n ≤ 4) (hnp : np ≤ 24) (hop : okP P np) (hok : okK P K np) (hru : rulR ru tm th) (hO : (how = 1 → pl < plc P K th n np ∧ (wO P K th n np).getD pl 0 = nI 1 ∧ (wK P K lo hi th n np).getD pl 0 = kx) ∧ (¬ how = 1 → pl < np ∧ P pl = nI 1 ∧ K pl = kx)) (hh : how ≤ 2) (hpl : pl < 2000)  : pl_V l y_Model_one b_Model_one 5 ({ frames := 4, cells := 0, slots := 0, locals := 91 } : Room) pl_E0 D classes (TY cI cZ cL) [.ref m0] [(m0, .inr (6, [.int (nI co), .int (nI np), .ref o1, .ref o2, .ref o3, .int (nI n), .ref o4, .ref o5, .ref o6, .ref o7, .int fo1, .int fk1, .int (nI 1), .int (nI how), .int (nI pl), .int (nI la), .int (nI stt), .int (nI (q + 1)), .ref o8, .ref o9, .int (nI dn), .ref o10, .ref o11])), (o1, .inl (cI, 24, .inl P)), (o2, .inl (cI, 24, .inl K)), (o4, .inl (cZ, 32, .inl ru)), (o5, .inl (cI, 32, .inl lo)), (o6, .inl (cI, 32, .inl hi)), (o7, .inl (cI, 32, .inl tm)), (o8, .inl (cI, 20, .inl sa)), (o9, .inl (cI, 8, .inl ca)), (o10, .inl (cI, 60, .inl ta)), (o11, .inl (cI, 60, .inl tn))] (fun _ : Unit => True) (fun (_ : Unit) => [(m0, .inr (6, [.int (nI co), .int (nI np), .ref o1, .ref o2, .ref o3, .int (nI n), .ref o4, .ref o5, .ref o6, .ref o7, .int (nI 1), .int kx, .int (nI 1), .int (nI how), .int (nI (pl + 1)), .int (nI pl), .int (nI stt), .int (nI q), .ref o8, .ref o9, .int (nI dn), .ref o10, .ref o11])), (o1, .inl (cI, 24, .inl P)), (o2, .inl (cI, 24, .inl K)), (o4, .inl (cZ, 32, .inl ru)), (o5, .inl (cI, 32, .inl lo)), (o6, .inl (cI, 32, .inl hi)), (o7, .inl (cI, 32, .inl tm)), (o8, .inl (cI, 20, .inl sa)), (o9, .inl (cI, 8, .inl ca)), (o10, .inl (cI, 60, .inl ta)), (o11, .inl (cI, 60, .inl tn))]) := by
  refine pl_startV (by decide) (Nat.le_of_ble_eq_true rfl) ?_
  intro p e s m args below meth c A ls X hr hlk hin hK hP hD hS hA hE hl
  have X : CallFix p m c b_Model_one 5 s args TG R_Model := X
  have hx := X.1
  have hb := X.2.1
  have hl : lv_has ls 5 [(0, .ref m0)] := hl
  have join_49 : ∀ (_ : Unit) (H : Heap) (locs : List Loc) (ls : Array Slot), va_P D classes [(m0, .inr (6, [.int (nI co), .int (nI np), .ref o1, .ref o2, .ref o3, .int (nI n), .ref o4, .ref o5, .ref o6, .ref o7, .int (nI 1), .int kx, .int (nI 1), .int (nI how), .int (nI pl), .int (nI pl), .int (nI stt), .int (nI (q + 1)), .ref o8, .ref o9, .int (nI dn), .ref o10, .ref o11])), (o1, .inl (cI, 24, .inl P)), (o2, .inl (cI, 24, .inl K)), (o4, .inl (cZ, 32, .inl ru)), (o5, .inl (cI, 32, .inl lo)), (o6, .inl (cI, 32, .inl hi)), (o7, .inl (cI, 32, .inl tm)), (o8, .inl (cI, 20, .inl sa)), (o9, .inl (cI, 8, .inl ca)), (o10, .inl (cI, 60, .inl ta)), (o11, .inl (cI, 60, .inl tn))] H → va_D A [(m0, .inr (6, [.int (nI co), .int (nI np), .ref o1, .ref o2, .ref o3, .int (nI n), .ref o4, .ref o5, .ref o6, .ref o7, .int (nI 1), .int kx, .int (nI 1), .int (nI how), .int (nI pl), .int (nI pl), .int (nI stt), .int (nI (q + 1)), .ref o8, .ref o9, .int (nI dn), .ref o10, .ref o11])), (o1, .inl (cI, 24, .inl P)), (o2, .inl (cI, 24, .inl K)), (o4, .inl (cZ, 32, .inl ru)), (o5, .inl (cI, 32, .inl lo)), (o6, .inl (cI, 32, .inl hi)), (o7, .inl (cI, 32, .inl tm)), (o8, .inl (cI, 20, .inl sa)), (o9, .inl (cI, 8, .inl ca)), (o10, .inl (cI, 60, .inl ta)), (o11, .inl (cI, 60, .inl tn))] → va_S A s.heap H locs → lv_has ls 5 [(0, .ref m0)] → W p l e ({ frames := 4, cells := 0, slots := 0, locals := 91 } : Room) s m args below meth c H locs 0 0 (MQ below (va_Qv (fun _ : Unit => True) (fun u => pl_out D classes (TY cI cZ cL) A ((fun (_ : Unit) => [(m0, .inr (6, [.int (nI co), .int (nI np), .ref o1, .ref o2, .ref o3, .int (nI n), .ref o4, .ref o5, .ref o6, .ref o7, .int (nI 1), .int kx, .int (nI 1), .int (nI how), .int (nI (pl + 1)), .int (nI pl), .int (nI stt), .int (nI q), .ref o8, .ref o9, .int (nI dn), .ref o10, .ref o11])), (o1, .inl (cI, 24, .inl P)), (o2, .inl (cI, 24, .inl K)), (o4, .inl (cZ, 32, .inl ru)), (o5, .inl (cI, 32, .inl lo)), (o6, .inl (cI, 32, .inl hi)), (o7, .inl (cI, 32, .inl tm)), (o8, .inl (cI, 20, .inl sa)), (o9, .inl (cI, 8, .inl ca)), (o10, .inl (cI, 60, .inl ta)), (o11, .inl (cI, 60, .inl tn))]) u)) A) args s 0 0 A) (F0 m 49 ls []) := by
    intro _ H locs ls hP hD hS hl
    refine lv_aload_n hx hb d_Model_one_49 rfl (lv_at hl 0 rfl) ?_
    refine pl_get X fw_Model_91 hK hP 0 rfl (v := .int (nI 1)) rfl d_Model_one_50 ?_
    refine lv_istore_n hx hb d_Model_one_53 rfl hl (by decide) (lv' := [(1, .int (nI 1)), (0, .ref m0)]) rfl (fun ls hl => ?_)
    refine lv_aload_n hx hb d_Model_one_54 rfl (lv_at hl 1 rfl) ?_
    refine pl_get X fw_Model_94 hK hP 0 rfl (v := .int kx) rfl d_Model_one_55 ?_
    refine lv_istore_n hx hb d_Model_one_58 rfl hl (by decide) (lv' := [(2, .int kx), (1, .int (nI 1)), (0, .ref m0)]) rfl (fun ls hl => ?_)
    refine lv_aload_n hx hb d_Model_one_59 rfl (lv_at hl 2 rfl) ?_
    refine lv_dup hx hb d_Model_one_60 rfl ?_
    refine pl_get X fw_Model_115 hK hP 0 rfl (v := .int (nI pl)) rfl d_Model_one_61 ?_
    refine lv_iconst (v := nI 1) hx hb d_Model_one_64 (by decide) ?_
    refine pl_iadd X d_Model_one_65 (z := nI (pl + 1)) (nI_add _ _) ?_
    refine pl_put X fw_Model_115 fp_Model rfl hK hP hD hS 0 rfl (v := .int (nI (pl + 1))) rfl rfl (Nat.le_of_ble_eq_true rfl) d_Model_one_66 (ws' := [(m0, .inr (6, [.int (nI co), .int (nI np), .ref o1, .ref o2, .ref o3, .int (nI n), .ref o4, .ref o5, .ref o6, .ref o7, .int (nI 1), .int kx, .int (nI 1), .int (nI how), .int (nI (pl + 1)), .int (nI pl), .int (nI stt), .int (nI (q + 1)), .ref o8, .ref o9, .int (nI dn), .ref o10, .ref o11])), (o1, .inl (cI, 24, .inl P)), (o2, .inl (cI, 24, .inl K)), (o4, .inl (cZ, 32, .inl ru)), (o5, .inl (cI, 32, .inl lo)), (o6, .inl (cI, 32, .inl hi)), (o7, .inl (cI, 32, .inl tm)), (o8, .inl (cI, 20, .inl sa)), (o9, .inl (cI, 8, .inl ca)), (o10, .inl (cI, 60, .inl ta)), (o11, .inl (cI, 60, .inl tn))]) rfl (fun H locs hP hD hS => ?_)
    refine lv_iload_n hx hb d_Model_one_69 rfl (lv_at hl 1 rfl) ?_
    refine pl_callSI X (rest := []) (As := [.int (nI 1)]) (c_Model_takes_1 l D cI cZ cL) ck_Model_71 pl_E0_ok trivial hK hP hD hS hA [] [0, 1, 2, 3, 4, 5, 6, 7, 8, 9, 10] [0, 1, 2, 3, 4, 5, 6, 7, 8, 9, 10] rfl (by decide) (wr := [(m0, .inr (6, [.int (nI co), .int (nI np), .ref o1, .ref o2, .ref o3, .int (nI n), .ref o4, .ref o5, .ref o6, .ref o7, .int (nI 1), .int kx, .int (nI 1), .int (nI how), .int (nI (pl + 1)), .int (nI pl), .int (nI stt), .int (nI (q + 1)), .ref o8, .ref o9, .int (nI dn), .ref o10, .ref o11])), (o1, .inl (cI, 24, .inl P)), (o2, .inl (cI, 24, .inl K)), (o4, .inl (cZ, 32, .inl ru)), (o5, .inl (cI, 32, .inl lo)), (o6, .inl (cI, 32, .inl hi)), (o7, .inl (cI, 32, .inl tm)), (o8, .inl (cI, 20, .inl sa)), (o9, .inl (cI, 8, .inl ca)), (o10, .inl (cI, 60, .inl ta)), (o11, .inl (cI, 60, .inl tn))]) rfl (by decide) (by decide) (wf := fun _ => [(m0, .inr (6, [.int (nI co), .int (nI np), .ref o1, .ref o2, .ref o3, .int (nI n), .ref o4, .ref o5, .ref o6, .ref o7, .int (nI 1), .int kx, .int (nI 1), .int (nI how), .int (nI (pl + 1)), .int (nI pl), .int (nI stt), .int (nI (q + 1)), .ref o8, .ref o9, .int (nI dn), .ref o10, .ref o11])), (o1, .inl (cI, 24, .inl P)), (o2, .inl (cI, 24, .inl K)), (o4, .inl (cZ, 32, .inl ru)), (o5, .inl (cI, 32, .inl lo)), (o6, .inl (cI, 32, .inl hi)), (o7, .inl (cI, 32, .inl tm)), (o8, .inl (cI, 20, .inl sa)), (o9, .inl (cI, 8, .inl ca)), (o10, .inl (cI, 60, .inl ta)), (o11, .inl (cI, 60, .inl tn))]) (fun _ => rfl) (by decide) rfl hl.1 rfl (Nat.le_of_ble_eq_true rfl) (by decide) (by decide) d_Model_one_70 (fun r u0 H locs hcq hP hD hS => ?_)
    subst hcq
    refine lv_iconst (v := nI 2) hx hb d_Model_one_73 (by decide) ?_
    refine pl_icmp_ne X (by decide) (by decide) d_Model_one_74 rfl (fun gL => ?_) (fun gL => ?_)
    · skip
      refine lv_iconst (v := nI 0) hx hb d_Model_one_84 (by decide) ?_
      refine lv_istore_n hx hb d_Model_one_85 rfl hl (by decide) (lv' := [(3, .int (nI 0)), (2, .int kx), (1, .int (nI 1)), (0, .ref m0)]) rfl (fun ls hl => ?_)
      refine lv_iload_n hx hb d_Model_one_86 rfl (lv_at hl 2 rfl) ?_
      refine lv_iconst (v := nI 2) hx hb d_Model_one_87 (by decide) ?_
      refine pl_icmp_eq X (by decide) (by decide) d_Model_one_88 rfl (fun gL => ?_) (fun gL => ?_)
      · skip
        exact absurd gL (by decide)
      · skip
        refine lv_iload_n hx hb d_Model_one_91 rfl (lv_at hl 2 rfl) ?_
        refine lv_iconst (v := nI 3) hx hb d_Model_one_92 (by decide) ?_
        refine pl_icmp_eq X (by decide) (by decide) d_Model_one_93 rfl (fun gL => ?_) (fun gL => ?_)
        · skip
          exact absurd gL (by decide)
        · skip
          refine lv_iload_n hx hb d_Model_one_96 rfl (lv_at hl 2 rfl) ?_
          refine lv_iconst (v := nI 4) hx hb d_Model_one_97 (by decide) ?_
          refine pl_icmp_eq X (by decide) (by decide) d_Model_one_98 rfl (fun gL => ?_) (fun gL => ?_)
          · skip
            exact absurd gL (by decide)
          · skip
            refine lv_iload_n hx hb d_Model_one_101 rfl (lv_at hl 2 rfl) ?_
            refine lv_bipush (v := nI 10) hx hb d_Model_one_102 (by decide) ?_
            refine pl_icmp_ne X (by decide) (by decide) d_Model_one_104 rfl (fun gL => ?_) (fun gL => ?_)
            · skip
              refine lv_iconst (v := nI 0) hx hb d_Model_one_114 (by decide) ?_
              refine lv_istore hx hb d_Model_one_115 hl (by decide) (lv' := [(4, .int (nI 0)), (3, .int (nI 0)), (2, .int kx), (1, .int (nI 1)), (0, .ref m0)]) rfl (fun ls hl => ?_)
              refine lv_iload_n hx hb d_Model_one_117 rfl (lv_at hl 3 rfl) ?_
              refine lv_tableIn hx hb d_Model_one_118 (by decide) (by decide) (off := 70) (by decide) (tgt := 188) rfl ?_
              refine lv_aload_n hx hb d_Model_one_188 rfl (lv_at hl 4 rfl) ?_
              refine lv_dup hx hb d_Model_one_189 rfl ?_
              refine pl_get X fw_Model_124 hK hP 0 rfl (v := .int (nI (q + 1))) rfl d_Model_one_190 ?_
              refine lv_iconst (v := nI 1) hx hb d_Model_one_193 (by decide) ?_
              refine pl_isub X d_Model_one_194 (z := nI q) (nI_dec _) ?_
              refine pl_put X fw_Model_124 fp_Model rfl hK hP hD hS 0 rfl (v := .int (nI q)) rfl rfl (Nat.le_of_ble_eq_true rfl) d_Model_one_195 (ws' := [(m0, .inr (6, [.int (nI co), .int (nI np), .ref o1, .ref o2, .ref o3, .int (nI n), .ref o4, .ref o5, .ref o6, .ref o7, .int (nI 1), .int kx, .int (nI 1), .int (nI how), .int (nI (pl + 1)), .int (nI pl), .int (nI stt), .int (nI q), .ref o8, .ref o9, .int (nI dn), .ref o10, .ref o11])), (o1, .inl (cI, 24, .inl P)), (o2, .inl (cI, 24, .inl K)), (o4, .inl (cZ, 32, .inl ru)), (o5, .inl (cI, 32, .inl lo)), (o6, .inl (cI, 32, .inl hi)), (o7, .inl (cI, 32, .inl tm)), (o8, .inl (cI, 20, .inl sa)), (o9, .inl (cI, 8, .inl ca)), (o10, .inl (cI, 60, .inl ta)), (o11, .inl (cI, 60, .inl tn))]) rfl (fun H locs hP hD hS => ?_)
              refine lv_goto hx hb d_Model_one_198 rfl ?_
              exact pl_vret X hr hlk hK () trivial hP hD hS d_Model_one_342
            · skip
              exact absurd gL (by decide)
    · skip
      exact absurd gL (by decide)
  refine lv_aload_n hx hb d_Model_one_0 rfl (lv_at hl 0 rfl) ?_
  refine lv_aload_n hx hb d_Model_one_1 rfl (lv_at hl 0 rfl) ?_
  refine pl_get X fw_Model_115 hK hP 0 rfl (v := .int (nI pl)) rfl d_Model_one_2 ?_
  refine pl_put X fw_Model_118 fp_Model rfl hK hP hD hS 0 rfl (v := .int (nI pl)) rfl rfl (Nat.le_of_ble_eq_true rfl) d_Model_one_5 (ws' := [(m0, .inr (6, [.int (nI co), .int (nI np), .ref o1, .ref o2, .ref o3, .int (nI n), .ref o4, .ref o5, .ref o6, .ref o7, .int fo1, .int fk1, .int (nI 1), .int (nI how), .int (nI pl), .int (nI pl), .int (nI stt), .int (nI (q + 1)), .ref o8, .ref o9, .int (nI dn), .ref o10, .ref o11])), (o1, .inl (cI, 24, .inl P)), (o2, .inl (cI, 24, .inl K)), (o4, .inl (cZ, 32, .inl ru)), (o5, .inl (cI, 32, .inl lo)), (o6, .inl (cI, 32, .inl hi)), (o7, .inl (cI, 32, .inl tm)), (o8, .inl (cI, 20, .inl sa)), (o9, .inl (cI, 8, .inl ca)), (o10, .inl (cI, 60, .inl ta)), (o11, .inl (cI, 60, .inl tn))]) rfl (fun H locs hP hD hS => ?_)
  refine lv_aload_n hx hb d_Model_one_8 rfl (lv_at hl 0 rfl) ?_
  refine pl_get X fw_Model_112 hK hP 0 rfl (v := .int (nI how)) rfl d_Model_one_9 ?_
  refine lv_iconst (v := nI 1) hx hb d_Model_one_12 (by decide) ?_
  refine pl_icmp_ne X (by omega) (by decide) d_Model_one_13 rfl (fun g13 => ?_) (fun g13 => ?_)
  · skip
    refine lv_aload_n hx hb d_Model_one_27 rfl (lv_at hl 0 rfl) ?_
    refine lv_aload_n hx hb d_Model_one_28 rfl (lv_at hl 0 rfl) ?_
    refine pl_get X fw_Model_7 hK hP 0 rfl (v := .ref o1) rfl d_Model_one_29 ?_
    refine lv_aload_n hx hb d_Model_one_32 rfl (lv_at hl 0 rfl) ?_
    refine pl_get X fw_Model_115 hK hP 0 rfl (v := .int (nI pl)) rfl d_Model_one_33 ?_
    refine pl_iald X hK hP 1 0 rfl rfl pl (by have := (hO.2 g13).1; omega) (by decide) (z := nI 1) (hO.2 g13).2.1 d_Model_one_36 ?_
    refine lv_aload_n hx hb d_Model_one_37 rfl (lv_at hl 0 rfl) ?_
    refine pl_get X fw_Model_13 hK hP 0 rfl (v := .ref o2) rfl d_Model_one_38 ?_
    refine lv_aload_n hx hb d_Model_one_41 rfl (lv_at hl 0 rfl) ?_
    refine pl_get X fw_Model_115 hK hP 0 rfl (v := .int (nI pl)) rfl d_Model_one_42 ?_
    refine pl_iald X hK hP 2 0 rfl rfl pl (by have := (hO.2 g13).1; omega) (by decide) (z := kx) (hO.2 g13).2.2 d_Model_one_45 ?_
    refine pl_callVV X (rest := []) (As := [.int (nI 1), .int kx]) (b := m0) (c_Model_set l D cI cZ cL m0 o1 o2 o3 o4 o5 o6 o7 o8 o9 o10 o11 P K Hm ru lo hi tm sa ca ta tn fo1 fk1 co np n 1 how pl pl stt (q + 1) dn (nI 1) kx) ck_Model_100 pl_E0_ok trivial hK hP hD hS hA (T := F_Model) (N := N_Model) (ci := 6) rfl 0 rfl [0] [1, 2, 3, 4, 5, 6, 7, 8, 9, 10] [10, 0, 1, 2, 3, 4, 5, 6, 7, 8, 9] rfl (by decide) (wr := [(o1, .inl (cI, 24, .inl P)), (o2, .inl (cI, 24, .inl K)), (o4, .inl (cZ, 32, .inl ru)), (o5, .inl (cI, 32, .inl lo)), (o6, .inl (cI, 32, .inl hi)), (o7, .inl (cI, 32, .inl tm)), (o8, .inl (cI, 20, .inl sa)), (o9, .inl (cI, 8, .inl ca)), (o10, .inl (cI, 60, .inl ta)), (o11, .inl (cI, 60, .inl tn))]) rfl (by decide) (by decide) (wf := fun _ => [(m0, .inr (6, [.int (nI co), .int (nI np), .ref o1, .ref o2, .ref o3, .int (nI n), .ref o4, .ref o5, .ref o6, .ref o7, .int (nI 1), .int kx, .int (nI 1), .int (nI how), .int (nI pl), .int (nI pl), .int (nI stt), .int (nI (q + 1)), .ref o8, .ref o9, .int (nI dn), .ref o10, .ref o11])), (o1, .inl (cI, 24, .inl P)), (o2, .inl (cI, 24, .inl K)), (o4, .inl (cZ, 32, .inl ru)), (o5, .inl (cI, 32, .inl lo)), (o6, .inl (cI, 32, .inl hi)), (o7, .inl (cI, 32, .inl tm)), (o8, .inl (cI, 20, .inl sa)), (o9, .inl (cI, 8, .inl ca)), (o10, .inl (cI, 60, .inl ta)), (o11, .inl (cI, 60, .inl tn))]) (fun _ => rfl) (by decide) rfl hl.1 rfl (Nat.le_of_ble_eq_true rfl) (by decide) (by decide) d_Model_one_46 (fun u0 H locs hcq hP hD hS => ?_)
    exact join_49 (()) _ _ _ hP hD hS hl
  · skip
    refine lv_aload_n hx hb d_Model_one_16 rfl (lv_at hl 0 rfl) ?_
    refine lv_aload_n hx hb d_Model_one_17 rfl (lv_at hl 0 rfl) ?_
    refine pl_get X fw_Model_115 hK hP 0 rfl (v := .int (nI pl)) rfl d_Model_one_18 ?_
    refine pl_callVV X (rest := []) (As := [.int (nI pl)]) (b := m0) (c_Model_find l D cI cZ cL m0 o1 o2 o3 o4 o5 o6 o7 o8 o9 o10 o11 P K Hm ru lo hi tm sa ca ta tn fo1 fk1 co np n 1 how pl pl stt (q + 1) dn th pl hn hnp hop hok hru (hO.1 g13).1) ck_Model_108 pl_E0_ok trivial hK hP hD hS hA (T := F_Model) (N := N_Model) (ci := 6) rfl 0 rfl [0, 1, 2, 3, 4, 5, 6] [7, 8, 9, 10] [4, 5, 6, 7, 8, 9, 10, 0, 1, 2, 3] rfl (by decide) (wr := [(o8, .inl (cI, 20, .inl sa)), (o9, .inl (cI, 8, .inl ca)), (o10, .inl (cI, 60, .inl ta)), (o11, .inl (cI, 60, .inl tn))]) rfl (by decide) (by decide) (wf := fun (uf : Int32 × Int32) => [(m0, .inr (6, [.int (nI co), .int (nI np), .ref o1, .ref o2, .ref o3, .int (nI n), .ref o4, .ref o5, .ref o6, .ref o7, .int uf.1, .int uf.2, .int (nI 1), .int (nI how), .int (nI pl), .int (nI pl), .int (nI stt), .int (nI (q + 1)), .ref o8, .ref o9, .int (nI dn), .ref o10, .ref o11])), (o1, .inl (cI, 24, .inl P)), (o2, .inl (cI, 24, .inl K)), (o4, .inl (cZ, 32, .inl ru)), (o5, .inl (cI, 32, .inl lo)), (o6, .inl (cI, 32, .inl hi)), (o7, .inl (cI, 32, .inl tm)), (o8, .inl (cI, 20, .inl sa)), (o9, .inl (cI, 8, .inl ca)), (o10, .inl (cI, 60, .inl ta)), (o11, .inl (cI, 60, .inl tn))]) (fun _ => rfl) (by decide) rfl hl.1 rfl (Nat.le_of_ble_eq_true rfl) (by decide) (by decide) d_Model_one_21 (fun uf H locs hcq hP hD hS => ?_)
    obtain ⟨hc1, hc2⟩ := hcq
    have hu9 : uf = (nI 1, kx) := Prod.ext (hc1.trans (hO.1 g13).2.1) (hc2.trans (hO.1 g13).2.2)
    subst hu9
    refine lv_goto hx hb d_Model_one_24 rfl ?_
    exact join_49 (()) _ _ _ hP hD hS hl

set_option maxHeartbeats 4000000 in
set_option maxRecDepth 100000 in
theorem c_Model_one_2 (l : Launch) (D : va_G) (cI cZ cL : ClassId) (m0 o1 o2 o3 o4 o5 o6 o7 o8 o9 o10 o11 : Nat) (P K Hm ru lo hi tm sa ca ta tn : Nat → Int32) (fo1 fk1 : Int32) (co np n stat how pl la stt q dn : Nat) (th : Nat → Int32) (kx : Int32) (hn : n ≤ 4) (hnp : np ≤ 24) (hop : okP P np) (hok : okK P K np) (hru : rulR ru tm th) (hO : (how = 1 → pl < plc P K th n np ∧ (wO P K th n np).getD pl 0 = nI 2 ∧ (wK P K lo hi th n np).getD pl 0 = kx) ∧ (¬ how = 1 → pl < np ∧ P pl = nI 2 ∧ K pl = kx)) (hh : how ≤ 2) (hpl : pl < 2000) (hq : q + 1 < 20) : pl_V l y_Model_one b_Model_one 5 ({ frames := 4, cells := 0, slots := 0, locals := 91 } : Room) pl_E0 D classes (TY cI cZ cL) [.ref m0] [(m0, .inr (6, [.int (nI co), .int (nI np), .ref o1, .ref o2, .ref o3, .int (nI n), .ref o4, .ref o5, .ref o6, .ref o7, .int fo1, .int fk1, .int (nI 1), .int (nI how), .int (nI pl), .int (nI la), .int (nI stt), .int (nI (q + 2)), .ref o8, .ref o9, .int (nI dn), .ref o10, .ref o11])), (o1, .inl (cI, 24, .inl P)), (o2, .inl (cI, 24, .inl K)), (o4, .inl (cZ, 32, .inl ru)), (o5, .inl (cI, 32, .inl lo)), (o6, .inl (cI, 32, .inl hi)), (o7, .inl (cI, 32, .inl tm)), (o8, .inl (cI, 20, .inl sa)), (o9, .inl (cI, 8, .inl ca)), (o10, .inl (cI, 60, .inl ta)), (o11, .inl (cI, 60, .inl tn))] (fun _ : Unit => True) (fun (_ : Unit) => [(m0, .inr (6, [.int (nI co), .int (nI np), .ref o1, .ref o2, .ref o3, .int (nI n), .ref o4, .ref o5, .ref o6, .ref o7, .int (nI 2), .int kx, .int (nI 1), .int (nI how), .int (nI (pl + 1)), .int (nI pl), .int (nI stt), .int (nI (q + 1)), .ref o8, .ref o9, .int (nI dn), .ref o10, .ref o11])), (o1, .inl (cI, 24, .inl P)), (o2, .inl (cI, 24, .inl K)), (o4, .inl (cZ, 32, .inl ru)), (o5, .inl (cI, 32, .inl lo)), (o6, .inl (cI, 32, .inl hi)), (o7, .inl (cI, 32, .inl tm)), (o8, .inl (cI, 20, .inl (upd sa q (sa q + sa (q + 1))))), (o9, .inl (cI, 8, .inl ca)), (o10, .inl (cI, 60, .inl ta)), (o11, .inl (cI, 60, .inl tn))]) := by
  refine pl_startV (by decide) (Nat.le_of_ble_eq_true rfl) ?_
  intro p e s m args below meth c A ls X hr hlk hin hK hP hD hS hA hE hl
  have X : CallFix p m c b_Model_one 5 s args TG R_Model := X
  have hx := X.1
  have hb := X.2.1
  have hl : lv_has ls 5 [(0, .ref m0)] := hl
  have join_49 : ∀ (_ : Unit) (H : Heap) (locs : List Loc) (ls : Array Slot), va_P D classes [(m0, .inr (6, [.int (nI co), .int (nI np), .ref o1, .ref o2, .ref o3, .int (nI n), .ref o4, .ref o5, .ref o6, .ref o7, .int (nI 2), .int kx, .int (nI 1), .int (nI how), .int (nI pl), .int (nI pl), .int (nI stt), .int (nI (q + 2)), .ref o8, .ref o9, .int (nI dn), .ref o10, .ref o11])), (o1, .inl (cI, 24, .inl P)), (o2, .inl (cI, 24, .inl K)), (o4, .inl (cZ, 32, .inl ru)), (o5, .inl (cI, 32, .inl lo)), (o6, .inl (cI, 32, .inl hi)), (o7, .inl (cI, 32, .inl tm)), (o8, .inl (cI, 20, .inl sa)), (o9, .inl (cI, 8, .inl ca)), (o10, .inl (cI, 60, .inl ta)), (o11, .inl (cI, 60, .inl tn))] H → va_D A [(m0, .inr (6, [.int (nI co), .int (nI np), .ref o1, .ref o2, .ref o3, .int (nI n), .ref o4, .ref o5, .ref o6, .ref o7, .int (nI 2), .int kx, .int (nI 1), .int (nI how), .int (nI pl), .int (nI pl), .int (nI stt), .int (nI (q + 2)), .ref o8, .ref o9, .int (nI dn), .ref o10, .ref o11])), (o1, .inl (cI, 24, .inl P)), (o2, .inl (cI, 24, .inl K)), (o4, .inl (cZ, 32, .inl ru)), (o5, .inl (cI, 32, .inl lo)), (o6, .inl (cI, 32, .inl hi)), (o7, .inl (cI, 32, .inl tm)), (o8, .inl (cI, 20, .inl sa)), (o9, .inl (cI, 8, .inl ca)), (o10, .inl (cI, 60, .inl ta)), (o11, .inl (cI, 60, .inl tn))] → va_S A s.heap H locs → lv_has ls 5 [(0, .ref m0)] → W p l e ({ frames := 4, cells := 0, slots := 0, locals := 91 } : Room) s m args below meth c H locs 0 0 (MQ below (va_Qv (fun _ : Unit => True) (fun u => pl_out D classes (TY cI cZ cL) A ((fun (_ : Unit) => [(m0, .inr (6, [.int (nI co), .int (nI np), .ref o1, .ref o2, .ref o3, .int (nI n), .ref o4, .ref o5, .ref o6, .ref o7, .int (nI 2), .int kx, .int (nI 1), .int (nI how), .int (nI (pl + 1)), .int (nI pl), .int (nI stt), .int (nI (q + 1)), .ref o8, .ref o9, .int (nI dn), .ref o10, .ref o11])), (o1, .inl (cI, 24, .inl P)), (o2, .inl (cI, 24, .inl K)), (o4, .inl (cZ, 32, .inl ru)), (o5, .inl (cI, 32, .inl lo)), (o6, .inl (cI, 32, .inl hi)), (o7, .inl (cI, 32, .inl tm)), (o8, .inl (cI, 20, .inl (upd sa q (sa q + sa (q + 1))))), (o9, .inl (cI, 8, .inl ca)), (o10, .inl (cI, 60, .inl ta)), (o11, .inl (cI, 60, .inl tn))]) u)) A) args s 0 0 A) (F0 m 49 ls []) := by
    intro _ H locs ls hP hD hS hl
    refine lv_aload_n hx hb d_Model_one_49 rfl (lv_at hl 0 rfl) ?_
    refine pl_get X fw_Model_91 hK hP 0 rfl (v := .int (nI 2)) rfl d_Model_one_50 ?_
    refine lv_istore_n hx hb d_Model_one_53 rfl hl (by decide) (lv' := [(1, .int (nI 2)), (0, .ref m0)]) rfl (fun ls hl => ?_)
    refine lv_aload_n hx hb d_Model_one_54 rfl (lv_at hl 1 rfl) ?_
    refine pl_get X fw_Model_94 hK hP 0 rfl (v := .int kx) rfl d_Model_one_55 ?_
    refine lv_istore_n hx hb d_Model_one_58 rfl hl (by decide) (lv' := [(2, .int kx), (1, .int (nI 2)), (0, .ref m0)]) rfl (fun ls hl => ?_)
    refine lv_aload_n hx hb d_Model_one_59 rfl (lv_at hl 2 rfl) ?_
    refine lv_dup hx hb d_Model_one_60 rfl ?_
    refine pl_get X fw_Model_115 hK hP 0 rfl (v := .int (nI pl)) rfl d_Model_one_61 ?_
    refine lv_iconst (v := nI 1) hx hb d_Model_one_64 (by decide) ?_
    refine pl_iadd X d_Model_one_65 (z := nI (pl + 1)) (nI_add _ _) ?_
    refine pl_put X fw_Model_115 fp_Model rfl hK hP hD hS 0 rfl (v := .int (nI (pl + 1))) rfl rfl (Nat.le_of_ble_eq_true rfl) d_Model_one_66 (ws' := [(m0, .inr (6, [.int (nI co), .int (nI np), .ref o1, .ref o2, .ref o3, .int (nI n), .ref o4, .ref o5, .ref o6, .ref o7, .int (nI 2), .int kx, .int (nI 1), .int (nI how), .int (nI (pl + 1)), .int (nI pl), .int (nI stt), .int (nI (q + 2)), .ref o8, .ref o9, .int (nI dn), .ref o10, .ref o11])), (o1, .inl (cI, 24, .inl P)), (o2, .inl (cI, 24, .inl K)), (o4, .inl (cZ, 32, .inl ru)), (o5, .inl (cI, 32, .inl lo)), (o6, .inl (cI, 32, .inl hi)), (o7, .inl (cI, 32, .inl tm)), (o8, .inl (cI, 20, .inl sa)), (o9, .inl (cI, 8, .inl ca)), (o10, .inl (cI, 60, .inl ta)), (o11, .inl (cI, 60, .inl tn))]) rfl (fun H locs hP hD hS => ?_)
    refine lv_iload_n hx hb d_Model_one_69 rfl (lv_at hl 1 rfl) ?_
    refine pl_callSI X (rest := []) (As := [.int (nI 2)]) (c_Model_takes_2 l D cI cZ cL) ck_Model_71 pl_E0_ok trivial hK hP hD hS hA [] [0, 1, 2, 3, 4, 5, 6, 7, 8, 9, 10] [0, 1, 2, 3, 4, 5, 6, 7, 8, 9, 10] rfl (by decide) (wr := [(m0, .inr (6, [.int (nI co), .int (nI np), .ref o1, .ref o2, .ref o3, .int (nI n), .ref o4, .ref o5, .ref o6, .ref o7, .int (nI 2), .int kx, .int (nI 1), .int (nI how), .int (nI (pl + 1)), .int (nI pl), .int (nI stt), .int (nI (q + 2)), .ref o8, .ref o9, .int (nI dn), .ref o10, .ref o11])), (o1, .inl (cI, 24, .inl P)), (o2, .inl (cI, 24, .inl K)), (o4, .inl (cZ, 32, .inl ru)), (o5, .inl (cI, 32, .inl lo)), (o6, .inl (cI, 32, .inl hi)), (o7, .inl (cI, 32, .inl tm)), (o8, .inl (cI, 20, .inl sa)), (o9, .inl (cI, 8, .inl ca)), (o10, .inl (cI, 60, .inl ta)), (o11, .inl (cI, 60, .inl tn))]) rfl (by decide) (by decide) (wf := fun _ => [(m0, .inr (6, [.int (nI co), .int (nI np), .ref o1, .ref o2, .ref o3, .int (nI n), .ref o4, .ref o5, .ref o6, .ref o7, .int (nI 2), .int kx, .int (nI 1), .int (nI how), .int (nI (pl + 1)), .int (nI pl), .int (nI stt), .int (nI (q + 2)), .ref o8, .ref o9, .int (nI dn), .ref o10, .ref o11])), (o1, .inl (cI, 24, .inl P)), (o2, .inl (cI, 24, .inl K)), (o4, .inl (cZ, 32, .inl ru)), (o5, .inl (cI, 32, .inl lo)), (o6, .inl (cI, 32, .inl hi)), (o7, .inl (cI, 32, .inl tm)), (o8, .inl (cI, 20, .inl sa)), (o9, .inl (cI, 8, .inl ca)), (o10, .inl (cI, 60, .inl ta)), (o11, .inl (cI, 60, .inl tn))]) (fun _ => rfl) (by decide) rfl hl.1 rfl (Nat.le_of_ble_eq_true rfl) (by decide) (by decide) d_Model_one_70 (fun r u0 H locs hcq hP hD hS => ?_)
    subst hcq
    refine lv_iconst (v := nI 2) hx hb d_Model_one_73 (by decide) ?_
    refine pl_icmp_ne X (by decide) (by decide) d_Model_one_74 rfl (fun gL => ?_) (fun gL => ?_)
    · skip
      exact absurd gL (by decide)
    · skip
      refine lv_aload_n hx hb d_Model_one_77 rfl (lv_at hl 2 rfl) ?_
      refine pl_callVI X (rest := []) (As := []) (b := m0) (c_Model_pop l D cI cZ cL m0 o1 o2 o3 o4 o5 o6 o7 o8 o9 o10 o11 P K Hm ru lo hi tm sa ca ta tn (nI 2) kx co np n 1 how (pl + 1) pl stt (q + 1) dn (by omega)) ck_Model_130 pl_E0_ok trivial hK hP hD hS hA (T := F_Model) (N := N_Model) (ci := 6) rfl 0 rfl [0, 7] [1, 2, 3, 4, 5, 6, 8, 9, 10] [9, 0, 1, 2, 3, 4, 5, 10, 6, 7, 8] rfl (by decide) (wr := [(o1, .inl (cI, 24, .inl P)), (o2, .inl (cI, 24, .inl K)), (o4, .inl (cZ, 32, .inl ru)), (o5, .inl (cI, 32, .inl lo)), (o6, .inl (cI, 32, .inl hi)), (o7, .inl (cI, 32, .inl tm)), (o9, .inl (cI, 8, .inl ca)), (o10, .inl (cI, 60, .inl ta)), (o11, .inl (cI, 60, .inl tn))]) rfl (by decide) (by decide) (wf := fun _ => [(m0, .inr (6, [.int (nI co), .int (nI np), .ref o1, .ref o2, .ref o3, .int (nI n), .ref o4, .ref o5, .ref o6, .ref o7, .int (nI 2), .int kx, .int (nI 1), .int (nI how), .int (nI (pl + 1)), .int (nI pl), .int (nI stt), .int (nI (q + 1)), .ref o8, .ref o9, .int (nI dn), .ref o10, .ref o11])), (o1, .inl (cI, 24, .inl P)), (o2, .inl (cI, 24, .inl K)), (o4, .inl (cZ, 32, .inl ru)), (o5, .inl (cI, 32, .inl lo)), (o6, .inl (cI, 32, .inl hi)), (o7, .inl (cI, 32, .inl tm)), (o8, .inl (cI, 20, .inl sa)), (o9, .inl (cI, 8, .inl ca)), (o10, .inl (cI, 60, .inl ta)), (o11, .inl (cI, 60, .inl tn))]) (fun _ => rfl) (by decide) rfl hl.1 rfl (Nat.le_of_ble_eq_true rfl) (by decide) (by decide) d_Model_one_78 (fun r u0 H locs hcq hP hD hS => ?_)
      subst hcq
      refine lv_goto hx hb d_Model_one_81 rfl ?_
      refine lv_istore_n hx hb d_Model_one_85 rfl hl (by decide) (lv' := [(3, .int (sa (q + 1))), (2, .int kx), (1, .int (nI 2)), (0, .ref m0)]) rfl (fun ls hl => ?_)
      refine lv_iload_n hx hb d_Model_one_86 rfl (lv_at hl 2 rfl) ?_
      refine lv_iconst (v := nI 2) hx hb d_Model_one_87 (by decide) ?_
      refine pl_icmp_eq X (by decide) (by decide) d_Model_one_88 rfl (fun gL => ?_) (fun gL => ?_)
      · skip
        refine lv_aload_n hx hb d_Model_one_107 rfl (lv_at hl 3 rfl) ?_
        refine pl_callVI X (rest := []) (As := []) (b := m0) (c_Model_pop l D cI cZ cL m0 o1 o2 o3 o4 o5 o6 o7 o8 o9 o10 o11 P K Hm ru lo hi tm sa ca ta tn (nI 2) kx co np n 1 how (pl + 1) pl stt q dn (by omega)) ck_Model_130 pl_E0_ok trivial hK hP hD hS hA (T := F_Model) (N := N_Model) (ci := 6) rfl 0 rfl [0, 7] [1, 2, 3, 4, 5, 6, 8, 9, 10] [9, 0, 1, 2, 3, 4, 5, 10, 6, 7, 8] rfl (by decide) (wr := [(o1, .inl (cI, 24, .inl P)), (o2, .inl (cI, 24, .inl K)), (o4, .inl (cZ, 32, .inl ru)), (o5, .inl (cI, 32, .inl lo)), (o6, .inl (cI, 32, .inl hi)), (o7, .inl (cI, 32, .inl tm)), (o9, .inl (cI, 8, .inl ca)), (o10, .inl (cI, 60, .inl ta)), (o11, .inl (cI, 60, .inl tn))]) rfl (by decide) (by decide) (wf := fun _ => [(m0, .inr (6, [.int (nI co), .int (nI np), .ref o1, .ref o2, .ref o3, .int (nI n), .ref o4, .ref o5, .ref o6, .ref o7, .int (nI 2), .int kx, .int (nI 1), .int (nI how), .int (nI (pl + 1)), .int (nI pl), .int (nI stt), .int (nI q), .ref o8, .ref o9, .int (nI dn), .ref o10, .ref o11])), (o1, .inl (cI, 24, .inl P)), (o2, .inl (cI, 24, .inl K)), (o4, .inl (cZ, 32, .inl ru)), (o5, .inl (cI, 32, .inl lo)), (o6, .inl (cI, 32, .inl hi)), (o7, .inl (cI, 32, .inl tm)), (o8, .inl (cI, 20, .inl sa)), (o9, .inl (cI, 8, .inl ca)), (o10, .inl (cI, 60, .inl ta)), (o11, .inl (cI, 60, .inl tn))]) (fun _ => rfl) (by decide) rfl hl.1 rfl (Nat.le_of_ble_eq_true rfl) (by decide) (by decide) d_Model_one_108 (fun r u0 H locs hcq hP hD hS => ?_)
        subst hcq
        refine lv_goto hx hb d_Model_one_111 rfl ?_
        refine lv_istore hx hb d_Model_one_115 hl (by decide) (lv' := [(4, .int (sa q)), (3, .int (sa (q + 1))), (2, .int kx), (1, .int (nI 2)), (0, .ref m0)]) rfl (fun ls hl => ?_)
        refine lv_iload_n hx hb d_Model_one_117 rfl (lv_at hl 3 rfl) ?_
        refine lv_tableIn hx hb d_Model_one_118 (by decide) (by decide) (off := 83) (by decide) (tgt := 201) rfl ?_
        refine lv_aload_n hx hb d_Model_one_201 rfl (lv_at hl 4 rfl) ?_
        refine lv_iload hx hb d_Model_one_202 (lv_at hl 0 rfl) ?_
        refine lv_iload_n hx hb d_Model_one_204 rfl (lv_at hl 1 rfl) ?_
        refine pl_iadd X d_Model_one_205 (z := (sa q) + (sa (q + 1))) rfl ?_
        refine pl_callVV X (rest := []) (As := [.int ((sa q) + (sa (q + 1)))]) (b := m0) (c_Model_push l D cI cZ cL m0 o1 o2 o3 o4 o5 o6 o7 o8 o9 o10 o11 P K Hm ru lo hi tm sa ca ta tn (nI 2) kx co np n 1 how (pl + 1) pl stt q dn ((sa q) + (sa (q + 1))) (by omega)) ck_Model_134 pl_E0_ok trivial hK hP hD hS hA (T := F_Model) (N := N_Model) (ci := 6) rfl 0 rfl [0, 7] [1, 2, 3, 4, 5, 6, 8, 9, 10] [9, 0, 1, 2, 3, 4, 5, 10, 6, 7, 8] rfl (by decide) (wr := [(o1, .inl (cI, 24, .inl P)), (o2, .inl (cI, 24, .inl K)), (o4, .inl (cZ, 32, .inl ru)), (o5, .inl (cI, 32, .inl lo)), (o6, .inl (cI, 32, .inl hi)), (o7, .inl (cI, 32, .inl tm)), (o9, .inl (cI, 8, .inl ca)), (o10, .inl (cI, 60, .inl ta)), (o11, .inl (cI, 60, .inl tn))]) rfl (by decide) (by decide) (wf := fun _ => [(m0, .inr (6, [.int (nI co), .int (nI np), .ref o1, .ref o2, .ref o3, .int (nI n), .ref o4, .ref o5, .ref o6, .ref o7, .int (nI 2), .int kx, .int (nI 1), .int (nI how), .int (nI (pl + 1)), .int (nI pl), .int (nI stt), .int (nI (q + 1)), .ref o8, .ref o9, .int (nI dn), .ref o10, .ref o11])), (o1, .inl (cI, 24, .inl P)), (o2, .inl (cI, 24, .inl K)), (o4, .inl (cZ, 32, .inl ru)), (o5, .inl (cI, 32, .inl lo)), (o6, .inl (cI, 32, .inl hi)), (o7, .inl (cI, 32, .inl tm)), (o8, .inl (cI, 20, .inl (upd sa q ((sa q) + (sa (q + 1)))))), (o9, .inl (cI, 8, .inl ca)), (o10, .inl (cI, 60, .inl ta)), (o11, .inl (cI, 60, .inl tn))]) (fun _ => rfl) (by decide) rfl hl.1 rfl (Nat.le_of_ble_eq_true rfl) (by decide) (by decide) d_Model_one_206 (fun u0 H locs hcq hP hD hS => ?_)
        refine lv_goto hx hb d_Model_one_209 rfl ?_
        exact pl_vret X hr hlk hK () trivial hP hD hS d_Model_one_342
      · skip
        exact absurd gL (by decide)
  refine lv_aload_n hx hb d_Model_one_0 rfl (lv_at hl 0 rfl) ?_
  refine lv_aload_n hx hb d_Model_one_1 rfl (lv_at hl 0 rfl) ?_
  refine pl_get X fw_Model_115 hK hP 0 rfl (v := .int (nI pl)) rfl d_Model_one_2 ?_
  refine pl_put X fw_Model_118 fp_Model rfl hK hP hD hS 0 rfl (v := .int (nI pl)) rfl rfl (Nat.le_of_ble_eq_true rfl) d_Model_one_5 (ws' := [(m0, .inr (6, [.int (nI co), .int (nI np), .ref o1, .ref o2, .ref o3, .int (nI n), .ref o4, .ref o5, .ref o6, .ref o7, .int fo1, .int fk1, .int (nI 1), .int (nI how), .int (nI pl), .int (nI pl), .int (nI stt), .int (nI (q + 2)), .ref o8, .ref o9, .int (nI dn), .ref o10, .ref o11])), (o1, .inl (cI, 24, .inl P)), (o2, .inl (cI, 24, .inl K)), (o4, .inl (cZ, 32, .inl ru)), (o5, .inl (cI, 32, .inl lo)), (o6, .inl (cI, 32, .inl hi)), (o7, .inl (cI, 32, .inl tm)), (o8, .inl (cI, 20, .inl sa)), (o9, .inl (cI, 8, .inl ca)), (o10, .inl (cI, 60, .inl ta)), (o11, .inl (cI, 60, .inl tn))]) rfl (fun H locs hP hD hS => ?_)
  refine lv_aload_n hx hb d_Model_one_8 rfl (lv_at hl 0 rfl) ?_
  refine pl_get X fw_Model_112 hK hP 0 rfl (v := .int (nI how)) rfl d_Model_one_9 ?_
  refine lv_iconst (v := nI 1) hx hb d_Model_one_12 (by decide) ?_
  refine pl_icmp_ne X (by omega) (by decide) d_Model_one_13 rfl (fun g13 => ?_) (fun g13 => ?_)
  · skip
    refine lv_aload_n hx hb d_Model_one_27 rfl (lv_at hl 0 rfl) ?_
    refine lv_aload_n hx hb d_Model_one_28 rfl (lv_at hl 0 rfl) ?_
    refine pl_get X fw_Model_7 hK hP 0 rfl (v := .ref o1) rfl d_Model_one_29 ?_
    refine lv_aload_n hx hb d_Model_one_32 rfl (lv_at hl 0 rfl) ?_
    refine pl_get X fw_Model_115 hK hP 0 rfl (v := .int (nI pl)) rfl d_Model_one_33 ?_
    refine pl_iald X hK hP 1 0 rfl rfl pl (by have := (hO.2 g13).1; omega) (by decide) (z := nI 2) (hO.2 g13).2.1 d_Model_one_36 ?_
    refine lv_aload_n hx hb d_Model_one_37 rfl (lv_at hl 0 rfl) ?_
    refine pl_get X fw_Model_13 hK hP 0 rfl (v := .ref o2) rfl d_Model_one_38 ?_
    refine lv_aload_n hx hb d_Model_one_41 rfl (lv_at hl 0 rfl) ?_
    refine pl_get X fw_Model_115 hK hP 0 rfl (v := .int (nI pl)) rfl d_Model_one_42 ?_
    refine pl_iald X hK hP 2 0 rfl rfl pl (by have := (hO.2 g13).1; omega) (by decide) (z := kx) (hO.2 g13).2.2 d_Model_one_45 ?_
    refine pl_callVV X (rest := []) (As := [.int (nI 2), .int kx]) (b := m0) (c_Model_set l D cI cZ cL m0 o1 o2 o3 o4 o5 o6 o7 o8 o9 o10 o11 P K Hm ru lo hi tm sa ca ta tn fo1 fk1 co np n 1 how pl pl stt (q + 2) dn (nI 2) kx) ck_Model_100 pl_E0_ok trivial hK hP hD hS hA (T := F_Model) (N := N_Model) (ci := 6) rfl 0 rfl [0] [1, 2, 3, 4, 5, 6, 7, 8, 9, 10] [10, 0, 1, 2, 3, 4, 5, 6, 7, 8, 9] rfl (by decide) (wr := [(o1, .inl (cI, 24, .inl P)), (o2, .inl (cI, 24, .inl K)), (o4, .inl (cZ, 32, .inl ru)), (o5, .inl (cI, 32, .inl lo)), (o6, .inl (cI, 32, .inl hi)), (o7, .inl (cI, 32, .inl tm)), (o8, .inl (cI, 20, .inl sa)), (o9, .inl (cI, 8, .inl ca)), (o10, .inl (cI, 60, .inl ta)), (o11, .inl (cI, 60, .inl tn))]) rfl (by decide) (by decide) (wf := fun _ => [(m0, .inr (6, [.int (nI co), .int (nI np), .ref o1, .ref o2, .ref o3, .int (nI n), .ref o4, .ref o5, .ref o6, .ref o7, .int (nI 2), .int kx, .int (nI 1), .int (nI how), .int (nI pl), .int (nI pl), .int (nI stt), .int (nI (q + 2)), .ref o8, .ref o9, .int (nI dn), .ref o10, .ref o11])), (o1, .inl (cI, 24, .inl P)), (o2, .inl (cI, 24, .inl K)), (o4, .inl (cZ, 32, .inl ru)), (o5, .inl (cI, 32, .inl lo)), (o6, .inl (cI, 32, .inl hi)), (o7, .inl (cI, 32, .inl tm)), (o8, .inl (cI, 20, .inl sa)), (o9, .inl (cI, 8, .inl ca)), (o10, .inl (cI, 60, .inl ta)), (o11, .inl (cI, 60, .inl tn))]) (fun _ => rfl) (by decide) rfl hl.1 rfl (Nat.le_of_ble_eq_true rfl) (by decide) (by decide) d_Model_one_46 (fun u0 H locs hcq hP hD hS => ?_)
    exact join_49 (()) _ _ _ hP hD hS hl
  · skip
    refine lv_aload_n hx hb d_Model_one_16 rfl (lv_at hl 0 rfl) ?_
    refine lv_aload_n hx hb d_Model_one_17 rfl (lv_at hl 0 rfl) ?_
    refine pl_get X fw_Model_115 hK hP 0 rfl (v := .int (nI pl)) rfl d_Model_one_18 ?_
    refine pl_callVV X (rest := []) (As := [.int (nI pl)]) (b := m0) (c_Model_find l D cI cZ cL m0 o1 o2 o3 o4 o5 o6 o7 o8 o9 o10 o11 P K Hm ru lo hi tm sa ca ta tn fo1 fk1 co np n 1 how pl pl stt (q + 2) dn th pl hn hnp hop hok hru (hO.1 g13).1) ck_Model_108 pl_E0_ok trivial hK hP hD hS hA (T := F_Model) (N := N_Model) (ci := 6) rfl 0 rfl [0, 1, 2, 3, 4, 5, 6] [7, 8, 9, 10] [4, 5, 6, 7, 8, 9, 10, 0, 1, 2, 3] rfl (by decide) (wr := [(o8, .inl (cI, 20, .inl sa)), (o9, .inl (cI, 8, .inl ca)), (o10, .inl (cI, 60, .inl ta)), (o11, .inl (cI, 60, .inl tn))]) rfl (by decide) (by decide) (wf := fun (uf : Int32 × Int32) => [(m0, .inr (6, [.int (nI co), .int (nI np), .ref o1, .ref o2, .ref o3, .int (nI n), .ref o4, .ref o5, .ref o6, .ref o7, .int uf.1, .int uf.2, .int (nI 1), .int (nI how), .int (nI pl), .int (nI pl), .int (nI stt), .int (nI (q + 2)), .ref o8, .ref o9, .int (nI dn), .ref o10, .ref o11])), (o1, .inl (cI, 24, .inl P)), (o2, .inl (cI, 24, .inl K)), (o4, .inl (cZ, 32, .inl ru)), (o5, .inl (cI, 32, .inl lo)), (o6, .inl (cI, 32, .inl hi)), (o7, .inl (cI, 32, .inl tm)), (o8, .inl (cI, 20, .inl sa)), (o9, .inl (cI, 8, .inl ca)), (o10, .inl (cI, 60, .inl ta)), (o11, .inl (cI, 60, .inl tn))]) (fun _ => rfl) (by decide) rfl hl.1 rfl (Nat.le_of_ble_eq_true rfl) (by decide) (by decide) d_Model_one_21 (fun uf H locs hcq hP hD hS => ?_)
    obtain ⟨hc1, hc2⟩ := hcq
    have hu9 : uf = (nI 2, kx) := Prod.ext (hc1.trans (hO.1 g13).2.1) (hc2.trans (hO.1 g13).2.2)
    subst hu9
    refine lv_goto hx hb d_Model_one_24 rfl ?_
    exact join_49 (()) _ _ _ hP hD hS hl

set_option maxHeartbeats 4000000 in
set_option maxRecDepth 100000 in
theorem c_Model_one_3 (l : Launch) (D : va_G) (cI cZ cL : ClassId) (m0 o1 o2 o3 o4 o5 o6 o7 o8 o9 o10 o11 : Nat) (P K Hm ru lo hi tm sa ca ta tn : Nat → Int32) (fo1 fk1 : Int32) (co np n stat how pl la stt q dn : Nat) (th : Nat → Int32) (kx : Int32) (hn : n ≤ 4) (hnp : np ≤ 24) (hop : okP P np) (hok : okK P K np) (hru : rulR ru tm th) (hO : (how = 1 → pl < plc P K th n np ∧ (wO P K th n np).getD pl 0 = nI 3 ∧ (wK P K lo hi th n np).getD pl 0 = kx) ∧ (¬ how = 1 → pl < np ∧ P pl = nI 3 ∧ K pl = kx)) (hh : how ≤ 2) (hpl : pl < 2000) (hq : q + 1 < 20) : pl_V l y_Model_one b_Model_one 5 ({ frames := 4, cells := 0, slots := 0, locals := 91 } : Room) pl_E0 D classes (TY cI cZ cL) [.ref m0] [(m0, .inr (6, [.int (nI co), .int (nI np), .ref o1, .ref o2, .ref o3, .int (nI n), .ref o4, .ref o5, .ref o6, .ref o7, .int fo1, .int fk1, .int (nI 1), .int (nI how), .int (nI pl), .int (nI la), .int (nI stt), .int (nI (q + 2)), .ref o8, .ref o9, .int (nI dn), .ref o10, .ref o11])), (o1, .inl (cI, 24, .inl P)), (o2, .inl (cI, 24, .inl K)), (o4, .inl (cZ, 32, .inl ru)), (o5, .inl (cI, 32, .inl lo)), (o6, .inl (cI, 32, .inl hi)), (o7, .inl (cI, 32, .inl tm)), (o8, .inl (cI, 20, .inl sa)), (o9, .inl (cI, 8, .inl ca)), (o10, .inl (cI, 60, .inl ta)), (o11, .inl (cI, 60, .inl tn))] (fun _ : Unit => True) (fun (_ : Unit) => [(m0, .inr (6, [.int (nI co), .int (nI np), .ref o1, .ref o2, .ref o3, .int (nI n), .ref o4, .ref o5, .ref o6, .ref o7, .int (nI 3), .int kx, .int (nI 1), .int (nI how), .int (nI (pl + 1)), .int (nI pl), .int (nI stt), .int (nI (q + 1)), .ref o8, .ref o9, .int (nI dn), .ref o10, .ref o11])), (o1, .inl (cI, 24, .inl P)), (o2, .inl (cI, 24, .inl K)), (o4, .inl (cZ, 32, .inl ru)), (o5, .inl (cI, 32, .inl lo)), (o6, .inl (cI, 32, .inl hi)), (o7, .inl (cI, 32, .inl tm)), (o8, .inl (cI, 20, .inl (upd sa q (sa q - sa (q + 1))))), (o9, .inl (cI, 8, .inl ca)), (o10, .inl (cI, 60, .inl ta)), (o11, .inl (cI, 60, .inl tn))]) := by
  refine pl_startV (by decide) (Nat.le_of_ble_eq_true rfl) ?_
  intro p e s m args below meth c A ls X hr hlk hin hK hP hD hS hA hE hl
  have X : CallFix p m c b_Model_one 5 s args TG R_Model := X
  have hx := X.1
  have hb := X.2.1
  have hl : lv_has ls 5 [(0, .ref m0)] := hl
  have join_49 : ∀ (_ : Unit) (H : Heap) (locs : List Loc) (ls : Array Slot), va_P D classes [(m0, .inr (6, [.int (nI co), .int (nI np), .ref o1, .ref o2, .ref o3, .int (nI n), .ref o4, .ref o5, .ref o6, .ref o7, .int (nI 3), .int kx, .int (nI 1), .int (nI how), .int (nI pl), .int (nI pl), .int (nI stt), .int (nI (q + 2)), .ref o8, .ref o9, .int (nI dn), .ref o10, .ref o11])), (o1, .inl (cI, 24, .inl P)), (o2, .inl (cI, 24, .inl K)), (o4, .inl (cZ, 32, .inl ru)), (o5, .inl (cI, 32, .inl lo)), (o6, .inl (cI, 32, .inl hi)), (o7, .inl (cI, 32, .inl tm)), (o8, .inl (cI, 20, .inl sa)), (o9, .inl (cI, 8, .inl ca)), (o10, .inl (cI, 60, .inl ta)), (o11, .inl (cI, 60, .inl tn))] H → va_D A [(m0, .inr (6, [.int (nI co), .int (nI np), .ref o1, .ref o2, .ref o3, .int (nI n), .ref o4, .ref o5, .ref o6, .ref o7, .int (nI 3), .int kx, .int (nI 1), .int (nI how), .int (nI pl), .int (nI pl), .int (nI stt), .int (nI (q + 2)), .ref o8, .ref o9, .int (nI dn), .ref o10, .ref o11])), (o1, .inl (cI, 24, .inl P)), (o2, .inl (cI, 24, .inl K)), (o4, .inl (cZ, 32, .inl ru)), (o5, .inl (cI, 32, .inl lo)), (o6, .inl (cI, 32, .inl hi)), (o7, .inl (cI, 32, .inl tm)), (o8, .inl (cI, 20, .inl sa)), (o9, .inl (cI, 8, .inl ca)), (o10, .inl (cI, 60, .inl ta)), (o11, .inl (cI, 60, .inl tn))] → va_S A s.heap H locs → lv_has ls 5 [(0, .ref m0)] → W p l e ({ frames := 4, cells := 0, slots := 0, locals := 91 } : Room) s m args below meth c H locs 0 0 (MQ below (va_Qv (fun _ : Unit => True) (fun u => pl_out D classes (TY cI cZ cL) A ((fun (_ : Unit) => [(m0, .inr (6, [.int (nI co), .int (nI np), .ref o1, .ref o2, .ref o3, .int (nI n), .ref o4, .ref o5, .ref o6, .ref o7, .int (nI 3), .int kx, .int (nI 1), .int (nI how), .int (nI (pl + 1)), .int (nI pl), .int (nI stt), .int (nI (q + 1)), .ref o8, .ref o9, .int (nI dn), .ref o10, .ref o11])), (o1, .inl (cI, 24, .inl P)), (o2, .inl (cI, 24, .inl K)), (o4, .inl (cZ, 32, .inl ru)), (o5, .inl (cI, 32, .inl lo)), (o6, .inl (cI, 32, .inl hi)), (o7, .inl (cI, 32, .inl tm)), (o8, .inl (cI, 20, .inl (upd sa q (sa q - sa (q + 1))))), (o9, .inl (cI, 8, .inl ca)), (o10, .inl (cI, 60, .inl ta)), (o11, .inl (cI, 60, .inl tn))]) u)) A) args s 0 0 A) (F0 m 49 ls []) := by
    intro _ H locs ls hP hD hS hl
    refine lv_aload_n hx hb d_Model_one_49 rfl (lv_at hl 0 rfl) ?_
    refine pl_get X fw_Model_91 hK hP 0 rfl (v := .int (nI 3)) rfl d_Model_one_50 ?_
    refine lv_istore_n hx hb d_Model_one_53 rfl hl (by decide) (lv' := [(1, .int (nI 3)), (0, .ref m0)]) rfl (fun ls hl => ?_)
    refine lv_aload_n hx hb d_Model_one_54 rfl (lv_at hl 1 rfl) ?_
    refine pl_get X fw_Model_94 hK hP 0 rfl (v := .int kx) rfl d_Model_one_55 ?_
    refine lv_istore_n hx hb d_Model_one_58 rfl hl (by decide) (lv' := [(2, .int kx), (1, .int (nI 3)), (0, .ref m0)]) rfl (fun ls hl => ?_)
    refine lv_aload_n hx hb d_Model_one_59 rfl (lv_at hl 2 rfl) ?_
    refine lv_dup hx hb d_Model_one_60 rfl ?_
    refine pl_get X fw_Model_115 hK hP 0 rfl (v := .int (nI pl)) rfl d_Model_one_61 ?_
    refine lv_iconst (v := nI 1) hx hb d_Model_one_64 (by decide) ?_
    refine pl_iadd X d_Model_one_65 (z := nI (pl + 1)) (nI_add _ _) ?_
    refine pl_put X fw_Model_115 fp_Model rfl hK hP hD hS 0 rfl (v := .int (nI (pl + 1))) rfl rfl (Nat.le_of_ble_eq_true rfl) d_Model_one_66 (ws' := [(m0, .inr (6, [.int (nI co), .int (nI np), .ref o1, .ref o2, .ref o3, .int (nI n), .ref o4, .ref o5, .ref o6, .ref o7, .int (nI 3), .int kx, .int (nI 1), .int (nI how), .int (nI (pl + 1)), .int (nI pl), .int (nI stt), .int (nI (q + 2)), .ref o8, .ref o9, .int (nI dn), .ref o10, .ref o11])), (o1, .inl (cI, 24, .inl P)), (o2, .inl (cI, 24, .inl K)), (o4, .inl (cZ, 32, .inl ru)), (o5, .inl (cI, 32, .inl lo)), (o6, .inl (cI, 32, .inl hi)), (o7, .inl (cI, 32, .inl tm)), (o8, .inl (cI, 20, .inl sa)), (o9, .inl (cI, 8, .inl ca)), (o10, .inl (cI, 60, .inl ta)), (o11, .inl (cI, 60, .inl tn))]) rfl (fun H locs hP hD hS => ?_)
    refine lv_iload_n hx hb d_Model_one_69 rfl (lv_at hl 1 rfl) ?_
    refine pl_callSI X (rest := []) (As := [.int (nI 3)]) (c_Model_takes_3 l D cI cZ cL) ck_Model_71 pl_E0_ok trivial hK hP hD hS hA [] [0, 1, 2, 3, 4, 5, 6, 7, 8, 9, 10] [0, 1, 2, 3, 4, 5, 6, 7, 8, 9, 10] rfl (by decide) (wr := [(m0, .inr (6, [.int (nI co), .int (nI np), .ref o1, .ref o2, .ref o3, .int (nI n), .ref o4, .ref o5, .ref o6, .ref o7, .int (nI 3), .int kx, .int (nI 1), .int (nI how), .int (nI (pl + 1)), .int (nI pl), .int (nI stt), .int (nI (q + 2)), .ref o8, .ref o9, .int (nI dn), .ref o10, .ref o11])), (o1, .inl (cI, 24, .inl P)), (o2, .inl (cI, 24, .inl K)), (o4, .inl (cZ, 32, .inl ru)), (o5, .inl (cI, 32, .inl lo)), (o6, .inl (cI, 32, .inl hi)), (o7, .inl (cI, 32, .inl tm)), (o8, .inl (cI, 20, .inl sa)), (o9, .inl (cI, 8, .inl ca)), (o10, .inl (cI, 60, .inl ta)), (o11, .inl (cI, 60, .inl tn))]) rfl (by decide) (by decide) (wf := fun _ => [(m0, .inr (6, [.int (nI co), .int (nI np), .ref o1, .ref o2, .ref o3, .int (nI n), .ref o4, .ref o5, .ref o6, .ref o7, .int (nI 3), .int kx, .int (nI 1), .int (nI how), .int (nI (pl + 1)), .int (nI pl), .int (nI stt), .int (nI (q + 2)), .ref o8, .ref o9, .int (nI dn), .ref o10, .ref o11])), (o1, .inl (cI, 24, .inl P)), (o2, .inl (cI, 24, .inl K)), (o4, .inl (cZ, 32, .inl ru)), (o5, .inl (cI, 32, .inl lo)), (o6, .inl (cI, 32, .inl hi)), (o7, .inl (cI, 32, .inl tm)), (o8, .inl (cI, 20, .inl sa)), (o9, .inl (cI, 8, .inl ca)), (o10, .inl (cI, 60, .inl ta)), (o11, .inl (cI, 60, .inl tn))]) (fun _ => rfl) (by decide) rfl hl.1 rfl (Nat.le_of_ble_eq_true rfl) (by decide) (by decide) d_Model_one_70 (fun r u0 H locs hcq hP hD hS => ?_)
    subst hcq
    refine lv_iconst (v := nI 2) hx hb d_Model_one_73 (by decide) ?_
    refine pl_icmp_ne X (by decide) (by decide) d_Model_one_74 rfl (fun gL => ?_) (fun gL => ?_)
    · skip
      exact absurd gL (by decide)
    · skip
      refine lv_aload_n hx hb d_Model_one_77 rfl (lv_at hl 2 rfl) ?_
      refine pl_callVI X (rest := []) (As := []) (b := m0) (c_Model_pop l D cI cZ cL m0 o1 o2 o3 o4 o5 o6 o7 o8 o9 o10 o11 P K Hm ru lo hi tm sa ca ta tn (nI 3) kx co np n 1 how (pl + 1) pl stt (q + 1) dn (by omega)) ck_Model_130 pl_E0_ok trivial hK hP hD hS hA (T := F_Model) (N := N_Model) (ci := 6) rfl 0 rfl [0, 7] [1, 2, 3, 4, 5, 6, 8, 9, 10] [9, 0, 1, 2, 3, 4, 5, 10, 6, 7, 8] rfl (by decide) (wr := [(o1, .inl (cI, 24, .inl P)), (o2, .inl (cI, 24, .inl K)), (o4, .inl (cZ, 32, .inl ru)), (o5, .inl (cI, 32, .inl lo)), (o6, .inl (cI, 32, .inl hi)), (o7, .inl (cI, 32, .inl tm)), (o9, .inl (cI, 8, .inl ca)), (o10, .inl (cI, 60, .inl ta)), (o11, .inl (cI, 60, .inl tn))]) rfl (by decide) (by decide) (wf := fun _ => [(m0, .inr (6, [.int (nI co), .int (nI np), .ref o1, .ref o2, .ref o3, .int (nI n), .ref o4, .ref o5, .ref o6, .ref o7, .int (nI 3), .int kx, .int (nI 1), .int (nI how), .int (nI (pl + 1)), .int (nI pl), .int (nI stt), .int (nI (q + 1)), .ref o8, .ref o9, .int (nI dn), .ref o10, .ref o11])), (o1, .inl (cI, 24, .inl P)), (o2, .inl (cI, 24, .inl K)), (o4, .inl (cZ, 32, .inl ru)), (o5, .inl (cI, 32, .inl lo)), (o6, .inl (cI, 32, .inl hi)), (o7, .inl (cI, 32, .inl tm)), (o8, .inl (cI, 20, .inl sa)), (o9, .inl (cI, 8, .inl ca)), (o10, .inl (cI, 60, .inl ta)), (o11, .inl (cI, 60, .inl tn))]) (fun _ => rfl) (by decide) rfl hl.1 rfl (Nat.le_of_ble_eq_true rfl) (by decide) (by decide) d_Model_one_78 (fun r u0 H locs hcq hP hD hS => ?_)
      subst hcq
      refine lv_goto hx hb d_Model_one_81 rfl ?_
      refine lv_istore_n hx hb d_Model_one_85 rfl hl (by decide) (lv' := [(3, .int (sa (q + 1))), (2, .int kx), (1, .int (nI 3)), (0, .ref m0)]) rfl (fun ls hl => ?_)
      refine lv_iload_n hx hb d_Model_one_86 rfl (lv_at hl 2 rfl) ?_
      refine lv_iconst (v := nI 2) hx hb d_Model_one_87 (by decide) ?_
      refine pl_icmp_eq X (by decide) (by decide) d_Model_one_88 rfl (fun gL => ?_) (fun gL => ?_)
      · skip
        exact absurd gL (by decide)
      · skip
        refine lv_iload_n hx hb d_Model_one_91 rfl (lv_at hl 2 rfl) ?_
        refine lv_iconst (v := nI 3) hx hb d_Model_one_92 (by decide) ?_
        refine pl_icmp_eq X (by decide) (by decide) d_Model_one_93 rfl (fun gL => ?_) (fun gL => ?_)
        · skip
          refine lv_aload_n hx hb d_Model_one_107 rfl (lv_at hl 3 rfl) ?_
          refine pl_callVI X (rest := []) (As := []) (b := m0) (c_Model_pop l D cI cZ cL m0 o1 o2 o3 o4 o5 o6 o7 o8 o9 o10 o11 P K Hm ru lo hi tm sa ca ta tn (nI 3) kx co np n 1 how (pl + 1) pl stt q dn (by omega)) ck_Model_130 pl_E0_ok trivial hK hP hD hS hA (T := F_Model) (N := N_Model) (ci := 6) rfl 0 rfl [0, 7] [1, 2, 3, 4, 5, 6, 8, 9, 10] [9, 0, 1, 2, 3, 4, 5, 10, 6, 7, 8] rfl (by decide) (wr := [(o1, .inl (cI, 24, .inl P)), (o2, .inl (cI, 24, .inl K)), (o4, .inl (cZ, 32, .inl ru)), (o5, .inl (cI, 32, .inl lo)), (o6, .inl (cI, 32, .inl hi)), (o7, .inl (cI, 32, .inl tm)), (o9, .inl (cI, 8, .inl ca)), (o10, .inl (cI, 60, .inl ta)), (o11, .inl (cI, 60, .inl tn))]) rfl (by decide) (by decide) (wf := fun _ => [(m0, .inr (6, [.int (nI co), .int (nI np), .ref o1, .ref o2, .ref o3, .int (nI n), .ref o4, .ref o5, .ref o6, .ref o7, .int (nI 3), .int kx, .int (nI 1), .int (nI how), .int (nI (pl + 1)), .int (nI pl), .int (nI stt), .int (nI q), .ref o8, .ref o9, .int (nI dn), .ref o10, .ref o11])), (o1, .inl (cI, 24, .inl P)), (o2, .inl (cI, 24, .inl K)), (o4, .inl (cZ, 32, .inl ru)), (o5, .inl (cI, 32, .inl lo)), (o6, .inl (cI, 32, .inl hi)), (o7, .inl (cI, 32, .inl tm)), (o8, .inl (cI, 20, .inl sa)), (o9, .inl (cI, 8, .inl ca)), (o10, .inl (cI, 60, .inl ta)), (o11, .inl (cI, 60, .inl tn))]) (fun _ => rfl) (by decide) rfl hl.1 rfl (Nat.le_of_ble_eq_true rfl) (by decide) (by decide) d_Model_one_108 (fun r u0 H locs hcq hP hD hS => ?_)
          subst hcq
          refine lv_goto hx hb d_Model_one_111 rfl ?_
          refine lv_istore hx hb d_Model_one_115 hl (by decide) (lv' := [(4, .int (sa q)), (3, .int (sa (q + 1))), (2, .int kx), (1, .int (nI 3)), (0, .ref m0)]) rfl (fun ls hl => ?_)
          refine lv_iload_n hx hb d_Model_one_117 rfl (lv_at hl 3 rfl) ?_
          refine lv_tableIn hx hb d_Model_one_118 (by decide) (by decide) (off := 94) (by decide) (tgt := 212) rfl ?_
          refine lv_aload_n hx hb d_Model_one_212 rfl (lv_at hl 4 rfl) ?_
          refine lv_iload hx hb d_Model_one_213 (lv_at hl 0 rfl) ?_
          refine lv_iload_n hx hb d_Model_one_215 rfl (lv_at hl 1 rfl) ?_
          refine pl_isub X d_Model_one_216 (z := (sa q) - (sa (q + 1))) rfl ?_
          refine pl_callVV X (rest := []) (As := [.int ((sa q) - (sa (q + 1)))]) (b := m0) (c_Model_push l D cI cZ cL m0 o1 o2 o3 o4 o5 o6 o7 o8 o9 o10 o11 P K Hm ru lo hi tm sa ca ta tn (nI 3) kx co np n 1 how (pl + 1) pl stt q dn ((sa q) - (sa (q + 1))) (by omega)) ck_Model_134 pl_E0_ok trivial hK hP hD hS hA (T := F_Model) (N := N_Model) (ci := 6) rfl 0 rfl [0, 7] [1, 2, 3, 4, 5, 6, 8, 9, 10] [9, 0, 1, 2, 3, 4, 5, 10, 6, 7, 8] rfl (by decide) (wr := [(o1, .inl (cI, 24, .inl P)), (o2, .inl (cI, 24, .inl K)), (o4, .inl (cZ, 32, .inl ru)), (o5, .inl (cI, 32, .inl lo)), (o6, .inl (cI, 32, .inl hi)), (o7, .inl (cI, 32, .inl tm)), (o9, .inl (cI, 8, .inl ca)), (o10, .inl (cI, 60, .inl ta)), (o11, .inl (cI, 60, .inl tn))]) rfl (by decide) (by decide) (wf := fun _ => [(m0, .inr (6, [.int (nI co), .int (nI np), .ref o1, .ref o2, .ref o3, .int (nI n), .ref o4, .ref o5, .ref o6, .ref o7, .int (nI 3), .int kx, .int (nI 1), .int (nI how), .int (nI (pl + 1)), .int (nI pl), .int (nI stt), .int (nI (q + 1)), .ref o8, .ref o9, .int (nI dn), .ref o10, .ref o11])), (o1, .inl (cI, 24, .inl P)), (o2, .inl (cI, 24, .inl K)), (o4, .inl (cZ, 32, .inl ru)), (o5, .inl (cI, 32, .inl lo)), (o6, .inl (cI, 32, .inl hi)), (o7, .inl (cI, 32, .inl tm)), (o8, .inl (cI, 20, .inl (upd sa q ((sa q) - (sa (q + 1)))))), (o9, .inl (cI, 8, .inl ca)), (o10, .inl (cI, 60, .inl ta)), (o11, .inl (cI, 60, .inl tn))]) (fun _ => rfl) (by decide) rfl hl.1 rfl (Nat.le_of_ble_eq_true rfl) (by decide) (by decide) d_Model_one_217 (fun u0 H locs hcq hP hD hS => ?_)
          refine lv_goto hx hb d_Model_one_220 rfl ?_
          exact pl_vret X hr hlk hK () trivial hP hD hS d_Model_one_342
        · skip
          exact absurd gL (by decide)
  refine lv_aload_n hx hb d_Model_one_0 rfl (lv_at hl 0 rfl) ?_
  refine lv_aload_n hx hb d_Model_one_1 rfl (lv_at hl 0 rfl) ?_
  refine pl_get X fw_Model_115 hK hP 0 rfl (v := .int (nI pl)) rfl d_Model_one_2 ?_
  refine pl_put X fw_Model_118 fp_Model rfl hK hP hD hS 0 rfl (v := .int (nI pl)) rfl rfl (Nat.le_of_ble_eq_true rfl) d_Model_one_5 (ws' := [(m0, .inr (6, [.int (nI co), .int (nI np), .ref o1, .ref o2, .ref o3, .int (nI n), .ref o4, .ref o5, .ref o6, .ref o7, .int fo1, .int fk1, .int (nI 1), .int (nI how), .int (nI pl), .int (nI pl), .int (nI stt), .int (nI (q + 2)), .ref o8, .ref o9, .int (nI dn), .ref o10, .ref o11])), (o1, .inl (cI, 24, .inl P)), (o2, .inl (cI, 24, .inl K)), (o4, .inl (cZ, 32, .inl ru)), (o5, .inl (cI, 32, .inl lo)), (o6, .inl (cI, 32, .inl hi)), (o7, .inl (cI, 32, .inl tm)), (o8, .inl (cI, 20, .inl sa)), (o9, .inl (cI, 8, .inl ca)), (o10, .inl (cI, 60, .inl ta)), (o11, .inl (cI, 60, .inl tn))]) rfl (fun H locs hP hD hS => ?_)
  refine lv_aload_n hx hb d_Model_one_8 rfl (lv_at hl 0 rfl) ?_
  refine pl_get X fw_Model_112 hK hP 0 rfl (v := .int (nI how)) rfl d_Model_one_9 ?_
  refine lv_iconst (v := nI 1) hx hb d_Model_one_12 (by decide) ?_
  refine pl_icmp_ne X (by omega) (by decide) d_Model_one_13 rfl (fun g13 => ?_) (fun g13 => ?_)
  · skip
    refine lv_aload_n hx hb d_Model_one_27 rfl (lv_at hl 0 rfl) ?_
    refine lv_aload_n hx hb d_Model_one_28 rfl (lv_at hl 0 rfl) ?_
    refine pl_get X fw_Model_7 hK hP 0 rfl (v := .ref o1) rfl d_Model_one_29 ?_
    refine lv_aload_n hx hb d_Model_one_32 rfl (lv_at hl 0 rfl) ?_
    refine pl_get X fw_Model_115 hK hP 0 rfl (v := .int (nI pl)) rfl d_Model_one_33 ?_
    refine pl_iald X hK hP 1 0 rfl rfl pl (by have := (hO.2 g13).1; omega) (by decide) (z := nI 3) (hO.2 g13).2.1 d_Model_one_36 ?_
    refine lv_aload_n hx hb d_Model_one_37 rfl (lv_at hl 0 rfl) ?_
    refine pl_get X fw_Model_13 hK hP 0 rfl (v := .ref o2) rfl d_Model_one_38 ?_
    refine lv_aload_n hx hb d_Model_one_41 rfl (lv_at hl 0 rfl) ?_
    refine pl_get X fw_Model_115 hK hP 0 rfl (v := .int (nI pl)) rfl d_Model_one_42 ?_
    refine pl_iald X hK hP 2 0 rfl rfl pl (by have := (hO.2 g13).1; omega) (by decide) (z := kx) (hO.2 g13).2.2 d_Model_one_45 ?_
    refine pl_callVV X (rest := []) (As := [.int (nI 3), .int kx]) (b := m0) (c_Model_set l D cI cZ cL m0 o1 o2 o3 o4 o5 o6 o7 o8 o9 o10 o11 P K Hm ru lo hi tm sa ca ta tn fo1 fk1 co np n 1 how pl pl stt (q + 2) dn (nI 3) kx) ck_Model_100 pl_E0_ok trivial hK hP hD hS hA (T := F_Model) (N := N_Model) (ci := 6) rfl 0 rfl [0] [1, 2, 3, 4, 5, 6, 7, 8, 9, 10] [10, 0, 1, 2, 3, 4, 5, 6, 7, 8, 9] rfl (by decide) (wr := [(o1, .inl (cI, 24, .inl P)), (o2, .inl (cI, 24, .inl K)), (o4, .inl (cZ, 32, .inl ru)), (o5, .inl (cI, 32, .inl lo)), (o6, .inl (cI, 32, .inl hi)), (o7, .inl (cI, 32, .inl tm)), (o8, .inl (cI, 20, .inl sa)), (o9, .inl (cI, 8, .inl ca)), (o10, .inl (cI, 60, .inl ta)), (o11, .inl (cI, 60, .inl tn))]) rfl (by decide) (by decide) (wf := fun _ => [(m0, .inr (6, [.int (nI co), .int (nI np), .ref o1, .ref o2, .ref o3, .int (nI n), .ref o4, .ref o5, .ref o6, .ref o7, .int (nI 3), .int kx, .int (nI 1), .int (nI how), .int (nI pl), .int (nI pl), .int (nI stt), .int (nI (q + 2)), .ref o8, .ref o9, .int (nI dn), .ref o10, .ref o11])), (o1, .inl (cI, 24, .inl P)), (o2, .inl (cI, 24, .inl K)), (o4, .inl (cZ, 32, .inl ru)), (o5, .inl (cI, 32, .inl lo)), (o6, .inl (cI, 32, .inl hi)), (o7, .inl (cI, 32, .inl tm)), (o8, .inl (cI, 20, .inl sa)), (o9, .inl (cI, 8, .inl ca)), (o10, .inl (cI, 60, .inl ta)), (o11, .inl (cI, 60, .inl tn))]) (fun _ => rfl) (by decide) rfl hl.1 rfl (Nat.le_of_ble_eq_true rfl) (by decide) (by decide) d_Model_one_46 (fun u0 H locs hcq hP hD hS => ?_)
    exact join_49 (()) _ _ _ hP hD hS hl
  · skip
    refine lv_aload_n hx hb d_Model_one_16 rfl (lv_at hl 0 rfl) ?_
    refine lv_aload_n hx hb d_Model_one_17 rfl (lv_at hl 0 rfl) ?_
    refine pl_get X fw_Model_115 hK hP 0 rfl (v := .int (nI pl)) rfl d_Model_one_18 ?_
    refine pl_callVV X (rest := []) (As := [.int (nI pl)]) (b := m0) (c_Model_find l D cI cZ cL m0 o1 o2 o3 o4 o5 o6 o7 o8 o9 o10 o11 P K Hm ru lo hi tm sa ca ta tn fo1 fk1 co np n 1 how pl pl stt (q + 2) dn th pl hn hnp hop hok hru (hO.1 g13).1) ck_Model_108 pl_E0_ok trivial hK hP hD hS hA (T := F_Model) (N := N_Model) (ci := 6) rfl 0 rfl [0, 1, 2, 3, 4, 5, 6] [7, 8, 9, 10] [4, 5, 6, 7, 8, 9, 10, 0, 1, 2, 3] rfl (by decide) (wr := [(o8, .inl (cI, 20, .inl sa)), (o9, .inl (cI, 8, .inl ca)), (o10, .inl (cI, 60, .inl ta)), (o11, .inl (cI, 60, .inl tn))]) rfl (by decide) (by decide) (wf := fun (uf : Int32 × Int32) => [(m0, .inr (6, [.int (nI co), .int (nI np), .ref o1, .ref o2, .ref o3, .int (nI n), .ref o4, .ref o5, .ref o6, .ref o7, .int uf.1, .int uf.2, .int (nI 1), .int (nI how), .int (nI pl), .int (nI pl), .int (nI stt), .int (nI (q + 2)), .ref o8, .ref o9, .int (nI dn), .ref o10, .ref o11])), (o1, .inl (cI, 24, .inl P)), (o2, .inl (cI, 24, .inl K)), (o4, .inl (cZ, 32, .inl ru)), (o5, .inl (cI, 32, .inl lo)), (o6, .inl (cI, 32, .inl hi)), (o7, .inl (cI, 32, .inl tm)), (o8, .inl (cI, 20, .inl sa)), (o9, .inl (cI, 8, .inl ca)), (o10, .inl (cI, 60, .inl ta)), (o11, .inl (cI, 60, .inl tn))]) (fun _ => rfl) (by decide) rfl hl.1 rfl (Nat.le_of_ble_eq_true rfl) (by decide) (by decide) d_Model_one_21 (fun uf H locs hcq hP hD hS => ?_)
    obtain ⟨hc1, hc2⟩ := hcq
    have hu9 : uf = (nI 3, kx) := Prod.ext (hc1.trans (hO.1 g13).2.1) (hc2.trans (hO.1 g13).2.2)
    subst hu9
    refine lv_goto hx hb d_Model_one_24 rfl ?_
    exact join_49 (()) _ _ _ hP hD hS hl

set_option maxHeartbeats 4000000 in
set_option maxRecDepth 100000 in
theorem c_Model_one_4 (l : Launch) (D : va_G) (cI cZ cL : ClassId) (m0 o1 o2 o3 o4 o5 o6 o7 o8 o9 o10 o11 : Nat) (P K Hm ru lo hi tm sa ca ta tn : Nat → Int32) (fo1 fk1 : Int32) (co np n stat how pl la stt q dn : Nat) (th : Nat → Int32) (kx : Int32) (hn : n ≤ 4) (hnp : np ≤ 24) (hop : okP P np) (hok : okK P K np) (hru : rulR ru tm th) (hO : (how = 1 → pl < plc P K th n np ∧ (wO P K th n np).getD pl 0 = nI 4 ∧ (wK P K lo hi th n np).getD pl 0 = kx) ∧ (¬ how = 1 → pl < np ∧ P pl = nI 4 ∧ K pl = kx)) (hh : how ≤ 2) (hpl : pl < 2000) (hq : q + 1 < 20) : pl_V l y_Model_one b_Model_one 5 ({ frames := 4, cells := 0, slots := 0, locals := 91 } : Room) pl_E0 D classes (TY cI cZ cL) [.ref m0] [(m0, .inr (6, [.int (nI co), .int (nI np), .ref o1, .ref o2, .ref o3, .int (nI n), .ref o4, .ref o5, .ref o6, .ref o7, .int fo1, .int fk1, .int (nI 1), .int (nI how), .int (nI pl), .int (nI la), .int (nI stt), .int (nI (q + 2)), .ref o8, .ref o9, .int (nI dn), .ref o10, .ref o11])), (o1, .inl (cI, 24, .inl P)), (o2, .inl (cI, 24, .inl K)), (o4, .inl (cZ, 32, .inl ru)), (o5, .inl (cI, 32, .inl lo)), (o6, .inl (cI, 32, .inl hi)), (o7, .inl (cI, 32, .inl tm)), (o8, .inl (cI, 20, .inl sa)), (o9, .inl (cI, 8, .inl ca)), (o10, .inl (cI, 60, .inl ta)), (o11, .inl (cI, 60, .inl tn))] (fun u : Int32 => u = if sa q < sa (q + 1) then 1 else 0) (fun (u : Int32) => [(m0, .inr (6, [.int (nI co), .int (nI np), .ref o1, .ref o2, .ref o3, .int (nI n), .ref o4, .ref o5, .ref o6, .ref o7, .int (nI 4), .int kx, .int (nI 1), .int (nI how), .int (nI (pl + 1)), .int (nI pl), .int (nI stt), .int (nI (q + 1)), .ref o8, .ref o9, .int (nI dn), .ref o10, .ref o11])), (o1, .inl (cI, 24, .inl P)), (o2, .inl (cI, 24, .inl K)), (o4, .inl (cZ, 32, .inl ru)), (o5, .inl (cI, 32, .inl lo)), (o6, .inl (cI, 32, .inl hi)), (o7, .inl (cI, 32, .inl tm)), (o8, .inl (cI, 20, .inl (upd sa q u))), (o9, .inl (cI, 8, .inl ca)), (o10, .inl (cI, 60, .inl ta)), (o11, .inl (cI, 60, .inl tn))]) := by
  refine pl_startV (by decide) (Nat.le_of_ble_eq_true rfl) ?_
  intro p e s m args below meth c A ls X hr hlk hin hK hP hD hS hA hE hl
  have X : CallFix p m c b_Model_one 5 s args TG R_Model := X
  have hx := X.1
  have hb := X.2.1
  have hl : lv_has ls 5 [(0, .ref m0)] := hl
  have join_49 : ∀ (_ : Unit) (H : Heap) (locs : List Loc) (ls : Array Slot), va_P D classes [(m0, .inr (6, [.int (nI co), .int (nI np), .ref o1, .ref o2, .ref o3, .int (nI n), .ref o4, .ref o5, .ref o6, .ref o7, .int (nI 4), .int kx, .int (nI 1), .int (nI how), .int (nI pl), .int (nI pl), .int (nI stt), .int (nI (q + 2)), .ref o8, .ref o9, .int (nI dn), .ref o10, .ref o11])), (o1, .inl (cI, 24, .inl P)), (o2, .inl (cI, 24, .inl K)), (o4, .inl (cZ, 32, .inl ru)), (o5, .inl (cI, 32, .inl lo)), (o6, .inl (cI, 32, .inl hi)), (o7, .inl (cI, 32, .inl tm)), (o8, .inl (cI, 20, .inl sa)), (o9, .inl (cI, 8, .inl ca)), (o10, .inl (cI, 60, .inl ta)), (o11, .inl (cI, 60, .inl tn))] H → va_D A [(m0, .inr (6, [.int (nI co), .int (nI np), .ref o1, .ref o2, .ref o3, .int (nI n), .ref o4, .ref o5, .ref o6, .ref o7, .int (nI 4), .int kx, .int (nI 1), .int (nI how), .int (nI pl), .int (nI pl), .int (nI stt), .int (nI (q + 2)), .ref o8, .ref o9, .int (nI dn), .ref o10, .ref o11])), (o1, .inl (cI, 24, .inl P)), (o2, .inl (cI, 24, .inl K)), (o4, .inl (cZ, 32, .inl ru)), (o5, .inl (cI, 32, .inl lo)), (o6, .inl (cI, 32, .inl hi)), (o7, .inl (cI, 32, .inl tm)), (o8, .inl (cI, 20, .inl sa)), (o9, .inl (cI, 8, .inl ca)), (o10, .inl (cI, 60, .inl ta)), (o11, .inl (cI, 60, .inl tn))] → va_S A s.heap H locs → lv_has ls 5 [(0, .ref m0)] → W p l e ({ frames := 4, cells := 0, slots := 0, locals := 91 } : Room) s m args below meth c H locs 0 0 (MQ below (va_Qv (fun u : Int32 => u = if sa q < sa (q + 1) then 1 else 0) (fun u => pl_out D classes (TY cI cZ cL) A ((fun (u : Int32) => [(m0, .inr (6, [.int (nI co), .int (nI np), .ref o1, .ref o2, .ref o3, .int (nI n), .ref o4, .ref o5, .ref o6, .ref o7, .int (nI 4), .int kx, .int (nI 1), .int (nI how), .int (nI (pl + 1)), .int (nI pl), .int (nI stt), .int (nI (q + 1)), .ref o8, .ref o9, .int (nI dn), .ref o10, .ref o11])), (o1, .inl (cI, 24, .inl P)), (o2, .inl (cI, 24, .inl K)), (o4, .inl (cZ, 32, .inl ru)), (o5, .inl (cI, 32, .inl lo)), (o6, .inl (cI, 32, .inl hi)), (o7, .inl (cI, 32, .inl tm)), (o8, .inl (cI, 20, .inl (upd sa q u))), (o9, .inl (cI, 8, .inl ca)), (o10, .inl (cI, 60, .inl ta)), (o11, .inl (cI, 60, .inl tn))]) u)) A) args s 0 0 A) (F0 m 49 ls []) := by
    intro _ H locs ls hP hD hS hl
    refine lv_aload_n hx hb d_Model_one_49 rfl (lv_at hl 0 rfl) ?_
    refine pl_get X fw_Model_91 hK hP 0 rfl (v := .int (nI 4)) rfl d_Model_one_50 ?_
    refine lv_istore_n hx hb d_Model_one_53 rfl hl (by decide) (lv' := [(1, .int (nI 4)), (0, .ref m0)]) rfl (fun ls hl => ?_)
    refine lv_aload_n hx hb d_Model_one_54 rfl (lv_at hl 1 rfl) ?_
    refine pl_get X fw_Model_94 hK hP 0 rfl (v := .int kx) rfl d_Model_one_55 ?_
    refine lv_istore_n hx hb d_Model_one_58 rfl hl (by decide) (lv' := [(2, .int kx), (1, .int (nI 4)), (0, .ref m0)]) rfl (fun ls hl => ?_)
    refine lv_aload_n hx hb d_Model_one_59 rfl (lv_at hl 2 rfl) ?_
    refine lv_dup hx hb d_Model_one_60 rfl ?_
    refine pl_get X fw_Model_115 hK hP 0 rfl (v := .int (nI pl)) rfl d_Model_one_61 ?_
    refine lv_iconst (v := nI 1) hx hb d_Model_one_64 (by decide) ?_
    refine pl_iadd X d_Model_one_65 (z := nI (pl + 1)) (nI_add _ _) ?_
    refine pl_put X fw_Model_115 fp_Model rfl hK hP hD hS 0 rfl (v := .int (nI (pl + 1))) rfl rfl (Nat.le_of_ble_eq_true rfl) d_Model_one_66 (ws' := [(m0, .inr (6, [.int (nI co), .int (nI np), .ref o1, .ref o2, .ref o3, .int (nI n), .ref o4, .ref o5, .ref o6, .ref o7, .int (nI 4), .int kx, .int (nI 1), .int (nI how), .int (nI (pl + 1)), .int (nI pl), .int (nI stt), .int (nI (q + 2)), .ref o8, .ref o9, .int (nI dn), .ref o10, .ref o11])), (o1, .inl (cI, 24, .inl P)), (o2, .inl (cI, 24, .inl K)), (o4, .inl (cZ, 32, .inl ru)), (o5, .inl (cI, 32, .inl lo)), (o6, .inl (cI, 32, .inl hi)), (o7, .inl (cI, 32, .inl tm)), (o8, .inl (cI, 20, .inl sa)), (o9, .inl (cI, 8, .inl ca)), (o10, .inl (cI, 60, .inl ta)), (o11, .inl (cI, 60, .inl tn))]) rfl (fun H locs hP hD hS => ?_)
    refine lv_iload_n hx hb d_Model_one_69 rfl (lv_at hl 1 rfl) ?_
    refine pl_callSI X (rest := []) (As := [.int (nI 4)]) (c_Model_takes_4 l D cI cZ cL) ck_Model_71 pl_E0_ok trivial hK hP hD hS hA [] [0, 1, 2, 3, 4, 5, 6, 7, 8, 9, 10] [0, 1, 2, 3, 4, 5, 6, 7, 8, 9, 10] rfl (by decide) (wr := [(m0, .inr (6, [.int (nI co), .int (nI np), .ref o1, .ref o2, .ref o3, .int (nI n), .ref o4, .ref o5, .ref o6, .ref o7, .int (nI 4), .int kx, .int (nI 1), .int (nI how), .int (nI (pl + 1)), .int (nI pl), .int (nI stt), .int (nI (q + 2)), .ref o8, .ref o9, .int (nI dn), .ref o10, .ref o11])), (o1, .inl (cI, 24, .inl P)), (o2, .inl (cI, 24, .inl K)), (o4, .inl (cZ, 32, .inl ru)), (o5, .inl (cI, 32, .inl lo)), (o6, .inl (cI, 32, .inl hi)), (o7, .inl (cI, 32, .inl tm)), (o8, .inl (cI, 20, .inl sa)), (o9, .inl (cI, 8, .inl ca)), (o10, .inl (cI, 60, .inl ta)), (o11, .inl (cI, 60, .inl tn))]) rfl (by decide) (by decide) (wf := fun _ => [(m0, .inr (6, [.int (nI co), .int (nI np), .ref o1, .ref o2, .ref o3, .int (nI n), .ref o4, .ref o5, .ref o6, .ref o7, .int (nI 4), .int kx, .int (nI 1), .int (nI how), .int (nI (pl + 1)), .int (nI pl), .int (nI stt), .int (nI (q + 2)), .ref o8, .ref o9, .int (nI dn), .ref o10, .ref o11])), (o1, .inl (cI, 24, .inl P)), (o2, .inl (cI, 24, .inl K)), (o4, .inl (cZ, 32, .inl ru)), (o5, .inl (cI, 32, .inl lo)), (o6, .inl (cI, 32, .inl hi)), (o7, .inl (cI, 32, .inl tm)), (o8, .inl (cI, 20, .inl sa)), (o9, .inl (cI, 8, .inl ca)), (o10, .inl (cI, 60, .inl ta)), (o11, .inl (cI, 60, .inl tn))]) (fun _ => rfl) (by decide) rfl hl.1 rfl (Nat.le_of_ble_eq_true rfl) (by decide) (by decide) d_Model_one_70 (fun r u0 H locs hcq hP hD hS => ?_)
    subst hcq
    refine lv_iconst (v := nI 2) hx hb d_Model_one_73 (by decide) ?_
    refine pl_icmp_ne X (by decide) (by decide) d_Model_one_74 rfl (fun gL => ?_) (fun gL => ?_)
    · skip
      exact absurd gL (by decide)
    · skip
      refine lv_aload_n hx hb d_Model_one_77 rfl (lv_at hl 2 rfl) ?_
      refine pl_callVI X (rest := []) (As := []) (b := m0) (c_Model_pop l D cI cZ cL m0 o1 o2 o3 o4 o5 o6 o7 o8 o9 o10 o11 P K Hm ru lo hi tm sa ca ta tn (nI 4) kx co np n 1 how (pl + 1) pl stt (q + 1) dn (by omega)) ck_Model_130 pl_E0_ok trivial hK hP hD hS hA (T := F_Model) (N := N_Model) (ci := 6) rfl 0 rfl [0, 7] [1, 2, 3, 4, 5, 6, 8, 9, 10] [9, 0, 1, 2, 3, 4, 5, 10, 6, 7, 8] rfl (by decide) (wr := [(o1, .inl (cI, 24, .inl P)), (o2, .inl (cI, 24, .inl K)), (o4, .inl (cZ, 32, .inl ru)), (o5, .inl (cI, 32, .inl lo)), (o6, .inl (cI, 32, .inl hi)), (o7, .inl (cI, 32, .inl tm)), (o9, .inl (cI, 8, .inl ca)), (o10, .inl (cI, 60, .inl ta)), (o11, .inl (cI, 60, .inl tn))]) rfl (by decide) (by decide) (wf := fun _ => [(m0, .inr (6, [.int (nI co), .int (nI np), .ref o1, .ref o2, .ref o3, .int (nI n), .ref o4, .ref o5, .ref o6, .ref o7, .int (nI 4), .int kx, .int (nI 1), .int (nI how), .int (nI (pl + 1)), .int (nI pl), .int (nI stt), .int (nI (q + 1)), .ref o8, .ref o9, .int (nI dn), .ref o10, .ref o11])), (o1, .inl (cI, 24, .inl P)), (o2, .inl (cI, 24, .inl K)), (o4, .inl (cZ, 32, .inl ru)), (o5, .inl (cI, 32, .inl lo)), (o6, .inl (cI, 32, .inl hi)), (o7, .inl (cI, 32, .inl tm)), (o8, .inl (cI, 20, .inl sa)), (o9, .inl (cI, 8, .inl ca)), (o10, .inl (cI, 60, .inl ta)), (o11, .inl (cI, 60, .inl tn))]) (fun _ => rfl) (by decide) rfl hl.1 rfl (Nat.le_of_ble_eq_true rfl) (by decide) (by decide) d_Model_one_78 (fun r u0 H locs hcq hP hD hS => ?_)
      subst hcq
      refine lv_goto hx hb d_Model_one_81 rfl ?_
      refine lv_istore_n hx hb d_Model_one_85 rfl hl (by decide) (lv' := [(3, .int (sa (q + 1))), (2, .int kx), (1, .int (nI 4)), (0, .ref m0)]) rfl (fun ls hl => ?_)
      refine lv_iload_n hx hb d_Model_one_86 rfl (lv_at hl 2 rfl) ?_
      refine lv_iconst (v := nI 2) hx hb d_Model_one_87 (by decide) ?_
      refine pl_icmp_eq X (by decide) (by decide) d_Model_one_88 rfl (fun gL => ?_) (fun gL => ?_)
      · skip
        exact absurd gL (by decide)
      · skip
        refine lv_iload_n hx hb d_Model_one_91 rfl (lv_at hl 2 rfl) ?_
        refine lv_iconst (v := nI 3) hx hb d_Model_one_92 (by decide) ?_
        refine pl_icmp_eq X (by decide) (by decide) d_Model_one_93 rfl (fun gL => ?_) (fun gL => ?_)
        · skip
          exact absurd gL (by decide)
        · skip
          refine lv_iload_n hx hb d_Model_one_96 rfl (lv_at hl 2 rfl) ?_
          refine lv_iconst (v := nI 4) hx hb d_Model_one_97 (by decide) ?_
          refine pl_icmp_eq X (by decide) (by decide) d_Model_one_98 rfl (fun gL => ?_) (fun gL => ?_)
          · skip
            refine lv_aload_n hx hb d_Model_one_107 rfl (lv_at hl 3 rfl) ?_
            refine pl_callVI X (rest := []) (As := []) (b := m0) (c_Model_pop l D cI cZ cL m0 o1 o2 o3 o4 o5 o6 o7 o8 o9 o10 o11 P K Hm ru lo hi tm sa ca ta tn (nI 4) kx co np n 1 how (pl + 1) pl stt q dn (by omega)) ck_Model_130 pl_E0_ok trivial hK hP hD hS hA (T := F_Model) (N := N_Model) (ci := 6) rfl 0 rfl [0, 7] [1, 2, 3, 4, 5, 6, 8, 9, 10] [9, 0, 1, 2, 3, 4, 5, 10, 6, 7, 8] rfl (by decide) (wr := [(o1, .inl (cI, 24, .inl P)), (o2, .inl (cI, 24, .inl K)), (o4, .inl (cZ, 32, .inl ru)), (o5, .inl (cI, 32, .inl lo)), (o6, .inl (cI, 32, .inl hi)), (o7, .inl (cI, 32, .inl tm)), (o9, .inl (cI, 8, .inl ca)), (o10, .inl (cI, 60, .inl ta)), (o11, .inl (cI, 60, .inl tn))]) rfl (by decide) (by decide) (wf := fun _ => [(m0, .inr (6, [.int (nI co), .int (nI np), .ref o1, .ref o2, .ref o3, .int (nI n), .ref o4, .ref o5, .ref o6, .ref o7, .int (nI 4), .int kx, .int (nI 1), .int (nI how), .int (nI (pl + 1)), .int (nI pl), .int (nI stt), .int (nI q), .ref o8, .ref o9, .int (nI dn), .ref o10, .ref o11])), (o1, .inl (cI, 24, .inl P)), (o2, .inl (cI, 24, .inl K)), (o4, .inl (cZ, 32, .inl ru)), (o5, .inl (cI, 32, .inl lo)), (o6, .inl (cI, 32, .inl hi)), (o7, .inl (cI, 32, .inl tm)), (o8, .inl (cI, 20, .inl sa)), (o9, .inl (cI, 8, .inl ca)), (o10, .inl (cI, 60, .inl ta)), (o11, .inl (cI, 60, .inl tn))]) (fun _ => rfl) (by decide) rfl hl.1 rfl (Nat.le_of_ble_eq_true rfl) (by decide) (by decide) d_Model_one_108 (fun r u0 H locs hcq hP hD hS => ?_)
            subst hcq
            refine lv_goto hx hb d_Model_one_111 rfl ?_
            refine lv_istore hx hb d_Model_one_115 hl (by decide) (lv' := [(4, .int (sa q)), (3, .int (sa (q + 1))), (2, .int kx), (1, .int (nI 4)), (0, .ref m0)]) rfl (fun ls hl => ?_)
            refine lv_iload_n hx hb d_Model_one_117 rfl (lv_at hl 3 rfl) ?_
            refine lv_tableIn hx hb d_Model_one_118 (by decide) (by decide) (off := 105) (by decide) (tgt := 223) rfl ?_
            refine lv_aload_n hx hb d_Model_one_223 rfl (lv_at hl 4 rfl) ?_
            refine lv_iload hx hb d_Model_one_224 (lv_at hl 0 rfl) ?_
            refine lv_iload_n hx hb d_Model_one_226 rfl (lv_at hl 1 rfl) ?_
            refine lv_icmp_ge hx hb d_Model_one_227 rfl (fun g227 => ?_) (fun g227 => ?_)
            · skip
              refine lv_iconst (v := nI 0) hx hb d_Model_one_234 (by decide) ?_
              refine pl_callVV X (rest := []) (As := [.int (nI 0)]) (b := m0) (c_Model_push l D cI cZ cL m0 o1 o2 o3 o4 o5 o6 o7 o8 o9 o10 o11 P K Hm ru lo hi tm sa ca ta tn (nI 4) kx co np n 1 how (pl + 1) pl stt q dn (nI 0) (by omega)) ck_Model_134 pl_E0_ok trivial hK hP hD hS hA (T := F_Model) (N := N_Model) (ci := 6) rfl 0 rfl [0, 7] [1, 2, 3, 4, 5, 6, 8, 9, 10] [9, 0, 1, 2, 3, 4, 5, 10, 6, 7, 8] rfl (by decide) (wr := [(o1, .inl (cI, 24, .inl P)), (o2, .inl (cI, 24, .inl K)), (o4, .inl (cZ, 32, .inl ru)), (o5, .inl (cI, 32, .inl lo)), (o6, .inl (cI, 32, .inl hi)), (o7, .inl (cI, 32, .inl tm)), (o9, .inl (cI, 8, .inl ca)), (o10, .inl (cI, 60, .inl ta)), (o11, .inl (cI, 60, .inl tn))]) rfl (by decide) (by decide) (wf := fun _ => [(m0, .inr (6, [.int (nI co), .int (nI np), .ref o1, .ref o2, .ref o3, .int (nI n), .ref o4, .ref o5, .ref o6, .ref o7, .int (nI 4), .int kx, .int (nI 1), .int (nI how), .int (nI (pl + 1)), .int (nI pl), .int (nI stt), .int (nI (q + 1)), .ref o8, .ref o9, .int (nI dn), .ref o10, .ref o11])), (o1, .inl (cI, 24, .inl P)), (o2, .inl (cI, 24, .inl K)), (o4, .inl (cZ, 32, .inl ru)), (o5, .inl (cI, 32, .inl lo)), (o6, .inl (cI, 32, .inl hi)), (o7, .inl (cI, 32, .inl tm)), (o8, .inl (cI, 20, .inl (upd sa q (nI 0)))), (o9, .inl (cI, 8, .inl ca)), (o10, .inl (cI, 60, .inl ta)), (o11, .inl (cI, 60, .inl tn))]) (fun _ => rfl) (by decide) rfl hl.1 rfl (Nat.le_of_ble_eq_true rfl) (by decide) (by decide) d_Model_one_235 (fun u0 H locs hcq hP hD hS => ?_)
              refine lv_goto hx hb d_Model_one_238 rfl ?_
              exact pl_vret X hr hlk hK (nI 0) (by rw [if_neg (i_nlt.mpr g227)]; rfl) hP hD hS d_Model_one_342
            · skip
              refine lv_iconst (v := nI 1) hx hb d_Model_one_230 (by decide) ?_
              refine lv_goto hx hb d_Model_one_231 rfl ?_
              refine pl_callVV X (rest := []) (As := [.int (nI 1)]) (b := m0) (c_Model_push l D cI cZ cL m0 o1 o2 o3 o4 o5 o6 o7 o8 o9 o10 o11 P K Hm ru lo hi tm sa ca ta tn (nI 4) kx co np n 1 how (pl + 1) pl stt q dn (nI 1) (by omega)) ck_Model_134 pl_E0_ok trivial hK hP hD hS hA (T := F_Model) (N := N_Model) (ci := 6) rfl 0 rfl [0, 7] [1, 2, 3, 4, 5, 6, 8, 9, 10] [9, 0, 1, 2, 3, 4, 5, 10, 6, 7, 8] rfl (by decide) (wr := [(o1, .inl (cI, 24, .inl P)), (o2, .inl (cI, 24, .inl K)), (o4, .inl (cZ, 32, .inl ru)), (o5, .inl (cI, 32, .inl lo)), (o6, .inl (cI, 32, .inl hi)), (o7, .inl (cI, 32, .inl tm)), (o9, .inl (cI, 8, .inl ca)), (o10, .inl (cI, 60, .inl ta)), (o11, .inl (cI, 60, .inl tn))]) rfl (by decide) (by decide) (wf := fun _ => [(m0, .inr (6, [.int (nI co), .int (nI np), .ref o1, .ref o2, .ref o3, .int (nI n), .ref o4, .ref o5, .ref o6, .ref o7, .int (nI 4), .int kx, .int (nI 1), .int (nI how), .int (nI (pl + 1)), .int (nI pl), .int (nI stt), .int (nI (q + 1)), .ref o8, .ref o9, .int (nI dn), .ref o10, .ref o11])), (o1, .inl (cI, 24, .inl P)), (o2, .inl (cI, 24, .inl K)), (o4, .inl (cZ, 32, .inl ru)), (o5, .inl (cI, 32, .inl lo)), (o6, .inl (cI, 32, .inl hi)), (o7, .inl (cI, 32, .inl tm)), (o8, .inl (cI, 20, .inl (upd sa q (nI 1)))), (o9, .inl (cI, 8, .inl ca)), (o10, .inl (cI, 60, .inl ta)), (o11, .inl (cI, 60, .inl tn))]) (fun _ => rfl) (by decide) rfl hl.1 rfl (Nat.le_of_ble_eq_true rfl) (by decide) (by decide) d_Model_one_235 (fun u0 H locs hcq hP hD hS => ?_)
              refine lv_goto hx hb d_Model_one_238 rfl ?_
              exact pl_vret X hr hlk hK (nI 1) (by rw [if_pos (i_nle.mp g227)]; rfl) hP hD hS d_Model_one_342
          · skip
            exact absurd gL (by decide)
  refine lv_aload_n hx hb d_Model_one_0 rfl (lv_at hl 0 rfl) ?_
  refine lv_aload_n hx hb d_Model_one_1 rfl (lv_at hl 0 rfl) ?_
  refine pl_get X fw_Model_115 hK hP 0 rfl (v := .int (nI pl)) rfl d_Model_one_2 ?_
  refine pl_put X fw_Model_118 fp_Model rfl hK hP hD hS 0 rfl (v := .int (nI pl)) rfl rfl (Nat.le_of_ble_eq_true rfl) d_Model_one_5 (ws' := [(m0, .inr (6, [.int (nI co), .int (nI np), .ref o1, .ref o2, .ref o3, .int (nI n), .ref o4, .ref o5, .ref o6, .ref o7, .int fo1, .int fk1, .int (nI 1), .int (nI how), .int (nI pl), .int (nI pl), .int (nI stt), .int (nI (q + 2)), .ref o8, .ref o9, .int (nI dn), .ref o10, .ref o11])), (o1, .inl (cI, 24, .inl P)), (o2, .inl (cI, 24, .inl K)), (o4, .inl (cZ, 32, .inl ru)), (o5, .inl (cI, 32, .inl lo)), (o6, .inl (cI, 32, .inl hi)), (o7, .inl (cI, 32, .inl tm)), (o8, .inl (cI, 20, .inl sa)), (o9, .inl (cI, 8, .inl ca)), (o10, .inl (cI, 60, .inl ta)), (o11, .inl (cI, 60, .inl tn))]) rfl (fun H locs hP hD hS => ?_)
  refine lv_aload_n hx hb d_Model_one_8 rfl (lv_at hl 0 rfl) ?_
  refine pl_get X fw_Model_112 hK hP 0 rfl (v := .int (nI how)) rfl d_Model_one_9 ?_
  refine lv_iconst (v := nI 1) hx hb d_Model_one_12 (by decide) ?_
  refine pl_icmp_ne X (by omega) (by decide) d_Model_one_13 rfl (fun g13 => ?_) (fun g13 => ?_)
  · skip
    refine lv_aload_n hx hb d_Model_one_27 rfl (lv_at hl 0 rfl) ?_
    refine lv_aload_n hx hb d_Model_one_28 rfl (lv_at hl 0 rfl) ?_
    refine pl_get X fw_Model_7 hK hP 0 rfl (v := .ref o1) rfl d_Model_one_29 ?_
    refine lv_aload_n hx hb d_Model_one_32 rfl (lv_at hl 0 rfl) ?_
    refine pl_get X fw_Model_115 hK hP 0 rfl (v := .int (nI pl)) rfl d_Model_one_33 ?_
    refine pl_iald X hK hP 1 0 rfl rfl pl (by have := (hO.2 g13).1; omega) (by decide) (z := nI 4) (hO.2 g13).2.1 d_Model_one_36 ?_
    refine lv_aload_n hx hb d_Model_one_37 rfl (lv_at hl 0 rfl) ?_
    refine pl_get X fw_Model_13 hK hP 0 rfl (v := .ref o2) rfl d_Model_one_38 ?_
    refine lv_aload_n hx hb d_Model_one_41 rfl (lv_at hl 0 rfl) ?_
    refine pl_get X fw_Model_115 hK hP 0 rfl (v := .int (nI pl)) rfl d_Model_one_42 ?_
    refine pl_iald X hK hP 2 0 rfl rfl pl (by have := (hO.2 g13).1; omega) (by decide) (z := kx) (hO.2 g13).2.2 d_Model_one_45 ?_
    refine pl_callVV X (rest := []) (As := [.int (nI 4), .int kx]) (b := m0) (c_Model_set l D cI cZ cL m0 o1 o2 o3 o4 o5 o6 o7 o8 o9 o10 o11 P K Hm ru lo hi tm sa ca ta tn fo1 fk1 co np n 1 how pl pl stt (q + 2) dn (nI 4) kx) ck_Model_100 pl_E0_ok trivial hK hP hD hS hA (T := F_Model) (N := N_Model) (ci := 6) rfl 0 rfl [0] [1, 2, 3, 4, 5, 6, 7, 8, 9, 10] [10, 0, 1, 2, 3, 4, 5, 6, 7, 8, 9] rfl (by decide) (wr := [(o1, .inl (cI, 24, .inl P)), (o2, .inl (cI, 24, .inl K)), (o4, .inl (cZ, 32, .inl ru)), (o5, .inl (cI, 32, .inl lo)), (o6, .inl (cI, 32, .inl hi)), (o7, .inl (cI, 32, .inl tm)), (o8, .inl (cI, 20, .inl sa)), (o9, .inl (cI, 8, .inl ca)), (o10, .inl (cI, 60, .inl ta)), (o11, .inl (cI, 60, .inl tn))]) rfl (by decide) (by decide) (wf := fun _ => [(m0, .inr (6, [.int (nI co), .int (nI np), .ref o1, .ref o2, .ref o3, .int (nI n), .ref o4, .ref o5, .ref o6, .ref o7, .int (nI 4), .int kx, .int (nI 1), .int (nI how), .int (nI pl), .int (nI pl), .int (nI stt), .int (nI (q + 2)), .ref o8, .ref o9, .int (nI dn), .ref o10, .ref o11])), (o1, .inl (cI, 24, .inl P)), (o2, .inl (cI, 24, .inl K)), (o4, .inl (cZ, 32, .inl ru)), (o5, .inl (cI, 32, .inl lo)), (o6, .inl (cI, 32, .inl hi)), (o7, .inl (cI, 32, .inl tm)), (o8, .inl (cI, 20, .inl sa)), (o9, .inl (cI, 8, .inl ca)), (o10, .inl (cI, 60, .inl ta)), (o11, .inl (cI, 60, .inl tn))]) (fun _ => rfl) (by decide) rfl hl.1 rfl (Nat.le_of_ble_eq_true rfl) (by decide) (by decide) d_Model_one_46 (fun u0 H locs hcq hP hD hS => ?_)
    exact join_49 (()) _ _ _ hP hD hS hl
  · skip
    refine lv_aload_n hx hb d_Model_one_16 rfl (lv_at hl 0 rfl) ?_
    refine lv_aload_n hx hb d_Model_one_17 rfl (lv_at hl 0 rfl) ?_
    refine pl_get X fw_Model_115 hK hP 0 rfl (v := .int (nI pl)) rfl d_Model_one_18 ?_
    refine pl_callVV X (rest := []) (As := [.int (nI pl)]) (b := m0) (c_Model_find l D cI cZ cL m0 o1 o2 o3 o4 o5 o6 o7 o8 o9 o10 o11 P K Hm ru lo hi tm sa ca ta tn fo1 fk1 co np n 1 how pl pl stt (q + 2) dn th pl hn hnp hop hok hru (hO.1 g13).1) ck_Model_108 pl_E0_ok trivial hK hP hD hS hA (T := F_Model) (N := N_Model) (ci := 6) rfl 0 rfl [0, 1, 2, 3, 4, 5, 6] [7, 8, 9, 10] [4, 5, 6, 7, 8, 9, 10, 0, 1, 2, 3] rfl (by decide) (wr := [(o8, .inl (cI, 20, .inl sa)), (o9, .inl (cI, 8, .inl ca)), (o10, .inl (cI, 60, .inl ta)), (o11, .inl (cI, 60, .inl tn))]) rfl (by decide) (by decide) (wf := fun (uf : Int32 × Int32) => [(m0, .inr (6, [.int (nI co), .int (nI np), .ref o1, .ref o2, .ref o3, .int (nI n), .ref o4, .ref o5, .ref o6, .ref o7, .int uf.1, .int uf.2, .int (nI 1), .int (nI how), .int (nI pl), .int (nI pl), .int (nI stt), .int (nI (q + 2)), .ref o8, .ref o9, .int (nI dn), .ref o10, .ref o11])), (o1, .inl (cI, 24, .inl P)), (o2, .inl (cI, 24, .inl K)), (o4, .inl (cZ, 32, .inl ru)), (o5, .inl (cI, 32, .inl lo)), (o6, .inl (cI, 32, .inl hi)), (o7, .inl (cI, 32, .inl tm)), (o8, .inl (cI, 20, .inl sa)), (o9, .inl (cI, 8, .inl ca)), (o10, .inl (cI, 60, .inl ta)), (o11, .inl (cI, 60, .inl tn))]) (fun _ => rfl) (by decide) rfl hl.1 rfl (Nat.le_of_ble_eq_true rfl) (by decide) (by decide) d_Model_one_21 (fun uf H locs hcq hP hD hS => ?_)
    obtain ⟨hc1, hc2⟩ := hcq
    have hu9 : uf = (nI 4, kx) := Prod.ext (hc1.trans (hO.1 g13).2.1) (hc2.trans (hO.1 g13).2.2)
    subst hu9
    refine lv_goto hx hb d_Model_one_24 rfl ?_
    exact join_49 (()) _ _ _ hP hD hS hl

set_option maxHeartbeats 4000000 in
set_option maxRecDepth 100000 in
theorem c_Model_one_5 (l : Launch) (D : va_G) (cI cZ cL : ClassId) (m0 o1 o2 o3 o4 o5 o6 o7 o8 o9 o10 o11 : Nat) (P K Hm ru lo hi tm sa ca ta tn : Nat → Int32) (fo1 fk1 : Int32) (co np n stat how pl la stt q dn : Nat) (th : Nat → Int32) (j : Nat) (hn : n ≤ 4) (hnp : np ≤ 24) (hop : okP P np) (hok : okK P K np) (hru : rulR ru tm th) (hO : (how = 1 → pl < plc P K th n np ∧ (wO P K th n np).getD pl 0 = nI 5 ∧ (wK P K lo hi th n np).getD pl 0 = nI j) ∧ (¬ how = 1 → pl < np ∧ P pl = nI 5 ∧ K pl = nI j)) (hh : how ≤ 2) (hpl : pl < 2000) (hq : q < 20) (hj : j < 8) : pl_V l y_Model_one b_Model_one 5 ({ frames := 4, cells := 0, slots := 0, locals := 91 } : Room) pl_E0 D classes (TY cI cZ cL) [.ref m0] [(m0, .inr (6, [.int (nI co), .int (nI np), .ref o1, .ref o2, .ref o3, .int (nI n), .ref o4, .ref o5, .ref o6, .ref o7, .int fo1, .int fk1, .int (nI 1), .int (nI how), .int (nI pl), .int (nI la), .int (nI stt), .int (nI q), .ref o8, .ref o9, .int (nI dn), .ref o10, .ref o11])), (o1, .inl (cI, 24, .inl P)), (o2, .inl (cI, 24, .inl K)), (o4, .inl (cZ, 32, .inl ru)), (o5, .inl (cI, 32, .inl lo)), (o6, .inl (cI, 32, .inl hi)), (o7, .inl (cI, 32, .inl tm)), (o8, .inl (cI, 20, .inl sa)), (o9, .inl (cI, 8, .inl ca)), (o10, .inl (cI, 60, .inl ta)), (o11, .inl (cI, 60, .inl tn))] (fun _ : Unit => True) (fun (_ : Unit) => [(m0, .inr (6, [.int (nI co), .int (nI np), .ref o1, .ref o2, .ref o3, .int (nI n), .ref o4, .ref o5, .ref o6, .ref o7, .int (nI 5), .int (nI j), .int (nI 1), .int (nI how), .int (nI (pl + 1)), .int (nI pl), .int (nI stt), .int (nI (q + 1)), .ref o8, .ref o9, .int (nI dn), .ref o10, .ref o11])), (o1, .inl (cI, 24, .inl P)), (o2, .inl (cI, 24, .inl K)), (o4, .inl (cZ, 32, .inl ru)), (o5, .inl (cI, 32, .inl lo)), (o6, .inl (cI, 32, .inl hi)), (o7, .inl (cI, 32, .inl tm)), (o8, .inl (cI, 20, .inl (upd sa q (ca j)))), (o9, .inl (cI, 8, .inl ca)), (o10, .inl (cI, 60, .inl ta)), (o11, .inl (cI, 60, .inl tn))]) := by
  refine pl_startV (by decide) (Nat.le_of_ble_eq_true rfl) ?_
  intro p e s m args below meth c A ls X hr hlk hin hK hP hD hS hA hE hl
  have X : CallFix p m c b_Model_one 5 s args TG R_Model := X
  have hx := X.1
  have hb := X.2.1
  have hl : lv_has ls 5 [(0, .ref m0)] := hl
  have join_49 : ∀ (_ : Unit) (H : Heap) (locs : List Loc) (ls : Array Slot), va_P D classes [(m0, .inr (6, [.int (nI co), .int (nI np), .ref o1, .ref o2, .ref o3, .int (nI n), .ref o4, .ref o5, .ref o6, .ref o7, .int (nI 5), .int (nI j), .int (nI 1), .int (nI how), .int (nI pl), .int (nI pl), .int (nI stt), .int (nI q), .ref o8, .ref o9, .int (nI dn), .ref o10, .ref o11])), (o1, .inl (cI, 24, .inl P)), (o2, .inl (cI, 24, .inl K)), (o4, .inl (cZ, 32, .inl ru)), (o5, .inl (cI, 32, .inl lo)), (o6, .inl (cI, 32, .inl hi)), (o7, .inl (cI, 32, .inl tm)), (o8, .inl (cI, 20, .inl sa)), (o9, .inl (cI, 8, .inl ca)), (o10, .inl (cI, 60, .inl ta)), (o11, .inl (cI, 60, .inl tn))] H → va_D A [(m0, .inr (6, [.int (nI co), .int (nI np), .ref o1, .ref o2, .ref o3, .int (nI n), .ref o4, .ref o5, .ref o6, .ref o7, .int (nI 5), .int (nI j), .int (nI 1), .int (nI how), .int (nI pl), .int (nI pl), .int (nI stt), .int (nI q), .ref o8, .ref o9, .int (nI dn), .ref o10, .ref o11])), (o1, .inl (cI, 24, .inl P)), (o2, .inl (cI, 24, .inl K)), (o4, .inl (cZ, 32, .inl ru)), (o5, .inl (cI, 32, .inl lo)), (o6, .inl (cI, 32, .inl hi)), (o7, .inl (cI, 32, .inl tm)), (o8, .inl (cI, 20, .inl sa)), (o9, .inl (cI, 8, .inl ca)), (o10, .inl (cI, 60, .inl ta)), (o11, .inl (cI, 60, .inl tn))] → va_S A s.heap H locs → lv_has ls 5 [(0, .ref m0)] → W p l e ({ frames := 4, cells := 0, slots := 0, locals := 91 } : Room) s m args below meth c H locs 0 0 (MQ below (va_Qv (fun _ : Unit => True) (fun u => pl_out D classes (TY cI cZ cL) A ((fun (_ : Unit) => [(m0, .inr (6, [.int (nI co), .int (nI np), .ref o1, .ref o2, .ref o3, .int (nI n), .ref o4, .ref o5, .ref o6, .ref o7, .int (nI 5), .int (nI j), .int (nI 1), .int (nI how), .int (nI (pl + 1)), .int (nI pl), .int (nI stt), .int (nI (q + 1)), .ref o8, .ref o9, .int (nI dn), .ref o10, .ref o11])), (o1, .inl (cI, 24, .inl P)), (o2, .inl (cI, 24, .inl K)), (o4, .inl (cZ, 32, .inl ru)), (o5, .inl (cI, 32, .inl lo)), (o6, .inl (cI, 32, .inl hi)), (o7, .inl (cI, 32, .inl tm)), (o8, .inl (cI, 20, .inl (upd sa q (ca j)))), (o9, .inl (cI, 8, .inl ca)), (o10, .inl (cI, 60, .inl ta)), (o11, .inl (cI, 60, .inl tn))]) u)) A) args s 0 0 A) (F0 m 49 ls []) := by
    intro _ H locs ls hP hD hS hl
    refine lv_aload_n hx hb d_Model_one_49 rfl (lv_at hl 0 rfl) ?_
    refine pl_get X fw_Model_91 hK hP 0 rfl (v := .int (nI 5)) rfl d_Model_one_50 ?_
    refine lv_istore_n hx hb d_Model_one_53 rfl hl (by decide) (lv' := [(1, .int (nI 5)), (0, .ref m0)]) rfl (fun ls hl => ?_)
    refine lv_aload_n hx hb d_Model_one_54 rfl (lv_at hl 1 rfl) ?_
    refine pl_get X fw_Model_94 hK hP 0 rfl (v := .int (nI j)) rfl d_Model_one_55 ?_
    refine lv_istore_n hx hb d_Model_one_58 rfl hl (by decide) (lv' := [(2, .int (nI j)), (1, .int (nI 5)), (0, .ref m0)]) rfl (fun ls hl => ?_)
    refine lv_aload_n hx hb d_Model_one_59 rfl (lv_at hl 2 rfl) ?_
    refine lv_dup hx hb d_Model_one_60 rfl ?_
    refine pl_get X fw_Model_115 hK hP 0 rfl (v := .int (nI pl)) rfl d_Model_one_61 ?_
    refine lv_iconst (v := nI 1) hx hb d_Model_one_64 (by decide) ?_
    refine pl_iadd X d_Model_one_65 (z := nI (pl + 1)) (nI_add _ _) ?_
    refine pl_put X fw_Model_115 fp_Model rfl hK hP hD hS 0 rfl (v := .int (nI (pl + 1))) rfl rfl (Nat.le_of_ble_eq_true rfl) d_Model_one_66 (ws' := [(m0, .inr (6, [.int (nI co), .int (nI np), .ref o1, .ref o2, .ref o3, .int (nI n), .ref o4, .ref o5, .ref o6, .ref o7, .int (nI 5), .int (nI j), .int (nI 1), .int (nI how), .int (nI (pl + 1)), .int (nI pl), .int (nI stt), .int (nI q), .ref o8, .ref o9, .int (nI dn), .ref o10, .ref o11])), (o1, .inl (cI, 24, .inl P)), (o2, .inl (cI, 24, .inl K)), (o4, .inl (cZ, 32, .inl ru)), (o5, .inl (cI, 32, .inl lo)), (o6, .inl (cI, 32, .inl hi)), (o7, .inl (cI, 32, .inl tm)), (o8, .inl (cI, 20, .inl sa)), (o9, .inl (cI, 8, .inl ca)), (o10, .inl (cI, 60, .inl ta)), (o11, .inl (cI, 60, .inl tn))]) rfl (fun H locs hP hD hS => ?_)
    refine lv_iload_n hx hb d_Model_one_69 rfl (lv_at hl 1 rfl) ?_
    refine pl_callSI X (rest := []) (As := [.int (nI 5)]) (c_Model_takes_5 l D cI cZ cL) ck_Model_71 pl_E0_ok trivial hK hP hD hS hA [] [0, 1, 2, 3, 4, 5, 6, 7, 8, 9, 10] [0, 1, 2, 3, 4, 5, 6, 7, 8, 9, 10] rfl (by decide) (wr := [(m0, .inr (6, [.int (nI co), .int (nI np), .ref o1, .ref o2, .ref o3, .int (nI n), .ref o4, .ref o5, .ref o6, .ref o7, .int (nI 5), .int (nI j), .int (nI 1), .int (nI how), .int (nI (pl + 1)), .int (nI pl), .int (nI stt), .int (nI q), .ref o8, .ref o9, .int (nI dn), .ref o10, .ref o11])), (o1, .inl (cI, 24, .inl P)), (o2, .inl (cI, 24, .inl K)), (o4, .inl (cZ, 32, .inl ru)), (o5, .inl (cI, 32, .inl lo)), (o6, .inl (cI, 32, .inl hi)), (o7, .inl (cI, 32, .inl tm)), (o8, .inl (cI, 20, .inl sa)), (o9, .inl (cI, 8, .inl ca)), (o10, .inl (cI, 60, .inl ta)), (o11, .inl (cI, 60, .inl tn))]) rfl (by decide) (by decide) (wf := fun _ => [(m0, .inr (6, [.int (nI co), .int (nI np), .ref o1, .ref o2, .ref o3, .int (nI n), .ref o4, .ref o5, .ref o6, .ref o7, .int (nI 5), .int (nI j), .int (nI 1), .int (nI how), .int (nI (pl + 1)), .int (nI pl), .int (nI stt), .int (nI q), .ref o8, .ref o9, .int (nI dn), .ref o10, .ref o11])), (o1, .inl (cI, 24, .inl P)), (o2, .inl (cI, 24, .inl K)), (o4, .inl (cZ, 32, .inl ru)), (o5, .inl (cI, 32, .inl lo)), (o6, .inl (cI, 32, .inl hi)), (o7, .inl (cI, 32, .inl tm)), (o8, .inl (cI, 20, .inl sa)), (o9, .inl (cI, 8, .inl ca)), (o10, .inl (cI, 60, .inl ta)), (o11, .inl (cI, 60, .inl tn))]) (fun _ => rfl) (by decide) rfl hl.1 rfl (Nat.le_of_ble_eq_true rfl) (by decide) (by decide) d_Model_one_70 (fun r u0 H locs hcq hP hD hS => ?_)
    subst hcq
    refine lv_iconst (v := nI 2) hx hb d_Model_one_73 (by decide) ?_
    refine pl_icmp_ne X (by decide) (by decide) d_Model_one_74 rfl (fun gL => ?_) (fun gL => ?_)
    · skip
      refine lv_iconst (v := nI 0) hx hb d_Model_one_84 (by decide) ?_
      refine lv_istore_n hx hb d_Model_one_85 rfl hl (by decide) (lv' := [(3, .int (nI 0)), (2, .int (nI j)), (1, .int (nI 5)), (0, .ref m0)]) rfl (fun ls hl => ?_)
      refine lv_iload_n hx hb d_Model_one_86 rfl (lv_at hl 2 rfl) ?_
      refine lv_iconst (v := nI 2) hx hb d_Model_one_87 (by decide) ?_
      refine pl_icmp_eq X (by decide) (by decide) d_Model_one_88 rfl (fun gL => ?_) (fun gL => ?_)
      · skip
        exact absurd gL (by decide)
      · skip
        refine lv_iload_n hx hb d_Model_one_91 rfl (lv_at hl 2 rfl) ?_
        refine lv_iconst (v := nI 3) hx hb d_Model_one_92 (by decide) ?_
        refine pl_icmp_eq X (by decide) (by decide) d_Model_one_93 rfl (fun gL => ?_) (fun gL => ?_)
        · skip
          exact absurd gL (by decide)
        · skip
          refine lv_iload_n hx hb d_Model_one_96 rfl (lv_at hl 2 rfl) ?_
          refine lv_iconst (v := nI 4) hx hb d_Model_one_97 (by decide) ?_
          refine pl_icmp_eq X (by decide) (by decide) d_Model_one_98 rfl (fun gL => ?_) (fun gL => ?_)
          · skip
            exact absurd gL (by decide)
          · skip
            refine lv_iload_n hx hb d_Model_one_101 rfl (lv_at hl 2 rfl) ?_
            refine lv_bipush (v := nI 10) hx hb d_Model_one_102 (by decide) ?_
            refine pl_icmp_ne X (by decide) (by decide) d_Model_one_104 rfl (fun gL => ?_) (fun gL => ?_)
            · skip
              refine lv_iconst (v := nI 0) hx hb d_Model_one_114 (by decide) ?_
              refine lv_istore hx hb d_Model_one_115 hl (by decide) (lv' := [(4, .int (nI 0)), (3, .int (nI 0)), (2, .int (nI j)), (1, .int (nI 5)), (0, .ref m0)]) rfl (fun ls hl => ?_)
              refine lv_iload_n hx hb d_Model_one_117 rfl (lv_at hl 3 rfl) ?_
              refine lv_tableIn hx hb d_Model_one_118 (by decide) (by decide) (off := 123) (by decide) (tgt := 241) rfl ?_
              refine lv_aload_n hx hb d_Model_one_241 rfl (lv_at hl 4 rfl) ?_
              refine lv_aload_n hx hb d_Model_one_242 rfl (lv_at hl 4 rfl) ?_
              refine pl_get X fw_Model_39 hK hP 0 rfl (v := .ref o9) rfl d_Model_one_243 ?_
              refine lv_iload_n hx hb d_Model_one_246 rfl (lv_at hl 2 rfl) ?_
              refine pl_iald X hK hP 8 0 rfl rfl j (by omega) (by decide) (z := ca j) rfl d_Model_one_247 ?_
              refine pl_callVV X (rest := []) (As := [.int (ca j)]) (b := m0) (c_Model_push l D cI cZ cL m0 o1 o2 o3 o4 o5 o6 o7 o8 o9 o10 o11 P K Hm ru lo hi tm sa ca ta tn (nI 5) (nI j) co np n 1 how (pl + 1) pl stt q dn (ca j) (by omega)) ck_Model_134 pl_E0_ok trivial hK hP hD hS hA (T := F_Model) (N := N_Model) (ci := 6) rfl 0 rfl [0, 7] [1, 2, 3, 4, 5, 6, 8, 9, 10] [9, 0, 1, 2, 3, 4, 5, 10, 6, 7, 8] rfl (by decide) (wr := [(o1, .inl (cI, 24, .inl P)), (o2, .inl (cI, 24, .inl K)), (o4, .inl (cZ, 32, .inl ru)), (o5, .inl (cI, 32, .inl lo)), (o6, .inl (cI, 32, .inl hi)), (o7, .inl (cI, 32, .inl tm)), (o9, .inl (cI, 8, .inl ca)), (o10, .inl (cI, 60, .inl ta)), (o11, .inl (cI, 60, .inl tn))]) rfl (by decide) (by decide) (wf := fun _ => [(m0, .inr (6, [.int (nI co), .int (nI np), .ref o1, .ref o2, .ref o3, .int (nI n), .ref o4, .ref o5, .ref o6, .ref o7, .int (nI 5), .int (nI j), .int (nI 1), .int (nI how), .int (nI (pl + 1)), .int (nI pl), .int (nI stt), .int (nI (q + 1)), .ref o8, .ref o9, .int (nI dn), .ref o10, .ref o11])), (o1, .inl (cI, 24, .inl P)), (o2, .inl (cI, 24, .inl K)), (o4, .inl (cZ, 32, .inl ru)), (o5, .inl (cI, 32, .inl lo)), (o6, .inl (cI, 32, .inl hi)), (o7, .inl (cI, 32, .inl tm)), (o8, .inl (cI, 20, .inl (upd sa q (ca j)))), (o9, .inl (cI, 8, .inl ca)), (o10, .inl (cI, 60, .inl ta)), (o11, .inl (cI, 60, .inl tn))]) (fun _ => rfl) (by decide) rfl hl.1 rfl (Nat.le_of_ble_eq_true rfl) (by decide) (by decide) d_Model_one_248 (fun u0 H locs hcq hP hD hS => ?_)
              refine lv_goto hx hb d_Model_one_251 rfl ?_
              exact pl_vret X hr hlk hK () trivial hP hD hS d_Model_one_342
            · skip
              exact absurd gL (by decide)
    · skip
      exact absurd gL (by decide)
  refine lv_aload_n hx hb d_Model_one_0 rfl (lv_at hl 0 rfl) ?_
  refine lv_aload_n hx hb d_Model_one_1 rfl (lv_at hl 0 rfl) ?_
  refine pl_get X fw_Model_115 hK hP 0 rfl (v := .int (nI pl)) rfl d_Model_one_2 ?_
  refine pl_put X fw_Model_118 fp_Model rfl hK hP hD hS 0 rfl (v := .int (nI pl)) rfl rfl (Nat.le_of_ble_eq_true rfl) d_Model_one_5 (ws' := [(m0, .inr (6, [.int (nI co), .int (nI np), .ref o1, .ref o2, .ref o3, .int (nI n), .ref o4, .ref o5, .ref o6, .ref o7, .int fo1, .int fk1, .int (nI 1), .int (nI how), .int (nI pl), .int (nI pl), .int (nI stt), .int (nI q), .ref o8, .ref o9, .int (nI dn), .ref o10, .ref o11])), (o1, .inl (cI, 24, .inl P)), (o2, .inl (cI, 24, .inl K)), (o4, .inl (cZ, 32, .inl ru)), (o5, .inl (cI, 32, .inl lo)), (o6, .inl (cI, 32, .inl hi)), (o7, .inl (cI, 32, .inl tm)), (o8, .inl (cI, 20, .inl sa)), (o9, .inl (cI, 8, .inl ca)), (o10, .inl (cI, 60, .inl ta)), (o11, .inl (cI, 60, .inl tn))]) rfl (fun H locs hP hD hS => ?_)
  refine lv_aload_n hx hb d_Model_one_8 rfl (lv_at hl 0 rfl) ?_
  refine pl_get X fw_Model_112 hK hP 0 rfl (v := .int (nI how)) rfl d_Model_one_9 ?_
  refine lv_iconst (v := nI 1) hx hb d_Model_one_12 (by decide) ?_
  refine pl_icmp_ne X (by omega) (by decide) d_Model_one_13 rfl (fun g13 => ?_) (fun g13 => ?_)
  · skip
    refine lv_aload_n hx hb d_Model_one_27 rfl (lv_at hl 0 rfl) ?_
    refine lv_aload_n hx hb d_Model_one_28 rfl (lv_at hl 0 rfl) ?_
    refine pl_get X fw_Model_7 hK hP 0 rfl (v := .ref o1) rfl d_Model_one_29 ?_
    refine lv_aload_n hx hb d_Model_one_32 rfl (lv_at hl 0 rfl) ?_
    refine pl_get X fw_Model_115 hK hP 0 rfl (v := .int (nI pl)) rfl d_Model_one_33 ?_
    refine pl_iald X hK hP 1 0 rfl rfl pl (by have := (hO.2 g13).1; omega) (by decide) (z := nI 5) (hO.2 g13).2.1 d_Model_one_36 ?_
    refine lv_aload_n hx hb d_Model_one_37 rfl (lv_at hl 0 rfl) ?_
    refine pl_get X fw_Model_13 hK hP 0 rfl (v := .ref o2) rfl d_Model_one_38 ?_
    refine lv_aload_n hx hb d_Model_one_41 rfl (lv_at hl 0 rfl) ?_
    refine pl_get X fw_Model_115 hK hP 0 rfl (v := .int (nI pl)) rfl d_Model_one_42 ?_
    refine pl_iald X hK hP 2 0 rfl rfl pl (by have := (hO.2 g13).1; omega) (by decide) (z := nI j) (hO.2 g13).2.2 d_Model_one_45 ?_
    refine pl_callVV X (rest := []) (As := [.int (nI 5), .int (nI j)]) (b := m0) (c_Model_set l D cI cZ cL m0 o1 o2 o3 o4 o5 o6 o7 o8 o9 o10 o11 P K Hm ru lo hi tm sa ca ta tn fo1 fk1 co np n 1 how pl pl stt q dn (nI 5) (nI j)) ck_Model_100 pl_E0_ok trivial hK hP hD hS hA (T := F_Model) (N := N_Model) (ci := 6) rfl 0 rfl [0] [1, 2, 3, 4, 5, 6, 7, 8, 9, 10] [10, 0, 1, 2, 3, 4, 5, 6, 7, 8, 9] rfl (by decide) (wr := [(o1, .inl (cI, 24, .inl P)), (o2, .inl (cI, 24, .inl K)), (o4, .inl (cZ, 32, .inl ru)), (o5, .inl (cI, 32, .inl lo)), (o6, .inl (cI, 32, .inl hi)), (o7, .inl (cI, 32, .inl tm)), (o8, .inl (cI, 20, .inl sa)), (o9, .inl (cI, 8, .inl ca)), (o10, .inl (cI, 60, .inl ta)), (o11, .inl (cI, 60, .inl tn))]) rfl (by decide) (by decide) (wf := fun _ => [(m0, .inr (6, [.int (nI co), .int (nI np), .ref o1, .ref o2, .ref o3, .int (nI n), .ref o4, .ref o5, .ref o6, .ref o7, .int (nI 5), .int (nI j), .int (nI 1), .int (nI how), .int (nI pl), .int (nI pl), .int (nI stt), .int (nI q), .ref o8, .ref o9, .int (nI dn), .ref o10, .ref o11])), (o1, .inl (cI, 24, .inl P)), (o2, .inl (cI, 24, .inl K)), (o4, .inl (cZ, 32, .inl ru)), (o5, .inl (cI, 32, .inl lo)), (o6, .inl (cI, 32, .inl hi)), (o7, .inl (cI, 32, .inl tm)), (o8, .inl (cI, 20, .inl sa)), (o9, .inl (cI, 8, .inl ca)), (o10, .inl (cI, 60, .inl ta)), (o11, .inl (cI, 60, .inl tn))]) (fun _ => rfl) (by decide) rfl hl.1 rfl (Nat.le_of_ble_eq_true rfl) (by decide) (by decide) d_Model_one_46 (fun u0 H locs hcq hP hD hS => ?_)
    exact join_49 (()) _ _ _ hP hD hS hl
  · skip
    refine lv_aload_n hx hb d_Model_one_16 rfl (lv_at hl 0 rfl) ?_
    refine lv_aload_n hx hb d_Model_one_17 rfl (lv_at hl 0 rfl) ?_
    refine pl_get X fw_Model_115 hK hP 0 rfl (v := .int (nI pl)) rfl d_Model_one_18 ?_
    refine pl_callVV X (rest := []) (As := [.int (nI pl)]) (b := m0) (c_Model_find l D cI cZ cL m0 o1 o2 o3 o4 o5 o6 o7 o8 o9 o10 o11 P K Hm ru lo hi tm sa ca ta tn fo1 fk1 co np n 1 how pl pl stt q dn th pl hn hnp hop hok hru (hO.1 g13).1) ck_Model_108 pl_E0_ok trivial hK hP hD hS hA (T := F_Model) (N := N_Model) (ci := 6) rfl 0 rfl [0, 1, 2, 3, 4, 5, 6] [7, 8, 9, 10] [4, 5, 6, 7, 8, 9, 10, 0, 1, 2, 3] rfl (by decide) (wr := [(o8, .inl (cI, 20, .inl sa)), (o9, .inl (cI, 8, .inl ca)), (o10, .inl (cI, 60, .inl ta)), (o11, .inl (cI, 60, .inl tn))]) rfl (by decide) (by decide) (wf := fun (uf : Int32 × Int32) => [(m0, .inr (6, [.int (nI co), .int (nI np), .ref o1, .ref o2, .ref o3, .int (nI n), .ref o4, .ref o5, .ref o6, .ref o7, .int uf.1, .int uf.2, .int (nI 1), .int (nI how), .int (nI pl), .int (nI pl), .int (nI stt), .int (nI q), .ref o8, .ref o9, .int (nI dn), .ref o10, .ref o11])), (o1, .inl (cI, 24, .inl P)), (o2, .inl (cI, 24, .inl K)), (o4, .inl (cZ, 32, .inl ru)), (o5, .inl (cI, 32, .inl lo)), (o6, .inl (cI, 32, .inl hi)), (o7, .inl (cI, 32, .inl tm)), (o8, .inl (cI, 20, .inl sa)), (o9, .inl (cI, 8, .inl ca)), (o10, .inl (cI, 60, .inl ta)), (o11, .inl (cI, 60, .inl tn))]) (fun _ => rfl) (by decide) rfl hl.1 rfl (Nat.le_of_ble_eq_true rfl) (by decide) (by decide) d_Model_one_21 (fun uf H locs hcq hP hD hS => ?_)
    obtain ⟨hc1, hc2⟩ := hcq
    have hu9 : uf = (nI 5, nI j) := Prod.ext (hc1.trans (hO.1 g13).2.1) (hc2.trans (hO.1 g13).2.2)
    subst hu9
    refine lv_goto hx hb d_Model_one_24 rfl ?_
    exact join_49 (()) _ _ _ hP hD hS hl

set_option maxHeartbeats 4000000 in
set_option maxRecDepth 100000 in
theorem c_Model_one_6 (l : Launch) (D : va_G) (cI cZ cL : ClassId) (m0 o1 o2 o3 o4 o5 o6 o7 o8 o9 o10 o11 : Nat) (P K Hm ru lo hi tm sa ca ta tn : Nat → Int32) (fo1 fk1 : Int32) (co np n stat how pl la stt q dn : Nat) (th : Nat → Int32) (j : Nat) (hn : n ≤ 4) (hnp : np ≤ 24) (hop : okP P np) (hok : okK P K np) (hru : rulR ru tm th) (hO : (how = 1 → pl < plc P K th n np ∧ (wO P K th n np).getD pl 0 = nI 6 ∧ (wK P K lo hi th n np).getD pl 0 = nI j) ∧ (¬ how = 1 → pl < np ∧ P pl = nI 6 ∧ K pl = nI j)) (hh : how ≤ 2) (hpl : pl < 2000) (hq : q < 20) (hj : j < 8) : pl_V l y_Model_one b_Model_one 5 ({ frames := 4, cells := 0, slots := 0, locals := 91 } : Room) pl_E0 D classes (TY cI cZ cL) [.ref m0] [(m0, .inr (6, [.int (nI co), .int (nI np), .ref o1, .ref o2, .ref o3, .int (nI n), .ref o4, .ref o5, .ref o6, .ref o7, .int fo1, .int fk1, .int (nI 1), .int (nI how), .int (nI pl), .int (nI la), .int (nI stt), .int (nI (q + 1)), .ref o8, .ref o9, .int (nI dn), .ref o10, .ref o11])), (o1, .inl (cI, 24, .inl P)), (o2, .inl (cI, 24, .inl K)), (o4, .inl (cZ, 32, .inl ru)), (o5, .inl (cI, 32, .inl lo)), (o6, .inl (cI, 32, .inl hi)), (o7, .inl (cI, 32, .inl tm)), (o8, .inl (cI, 20, .inl sa)), (o9, .inl (cI, 8, .inl ca)), (o10, .inl (cI, 60, .inl ta)), (o11, .inl (cI, 60, .inl tn))] (fun _ : Unit => True) (fun (_ : Unit) => [(m0, .inr (6, [.int (nI co), .int (nI np), .ref o1, .ref o2, .ref o3, .int (nI n), .ref o4, .ref o5, .ref o6, .ref o7, .int (nI 6), .int (nI j), .int (nI 1), .int (nI how), .int (nI (pl + 1)), .int (nI pl), .int (nI stt), .int (nI q), .ref o8, .ref o9, .int (nI dn), .ref o10, .ref o11])), (o1, .inl (cI, 24, .inl P)), (o2, .inl (cI, 24, .inl K)), (o4, .inl (cZ, 32, .inl ru)), (o5, .inl (cI, 32, .inl lo)), (o6, .inl (cI, 32, .inl hi)), (o7, .inl (cI, 32, .inl tm)), (o8, .inl (cI, 20, .inl sa)), (o9, .inl (cI, 8, .inl (upd ca j (sa q)))), (o10, .inl (cI, 60, .inl ta)), (o11, .inl (cI, 60, .inl tn))]) := by
  refine pl_startV (by decide) (Nat.le_of_ble_eq_true rfl) ?_
  intro p e s m args below meth c A ls X hr hlk hin hK hP hD hS hA hE hl
  have X : CallFix p m c b_Model_one 5 s args TG R_Model := X
  have hx := X.1
  have hb := X.2.1
  have hl : lv_has ls 5 [(0, .ref m0)] := hl
  have join_49 : ∀ (_ : Unit) (H : Heap) (locs : List Loc) (ls : Array Slot), va_P D classes [(m0, .inr (6, [.int (nI co), .int (nI np), .ref o1, .ref o2, .ref o3, .int (nI n), .ref o4, .ref o5, .ref o6, .ref o7, .int (nI 6), .int (nI j), .int (nI 1), .int (nI how), .int (nI pl), .int (nI pl), .int (nI stt), .int (nI (q + 1)), .ref o8, .ref o9, .int (nI dn), .ref o10, .ref o11])), (o1, .inl (cI, 24, .inl P)), (o2, .inl (cI, 24, .inl K)), (o4, .inl (cZ, 32, .inl ru)), (o5, .inl (cI, 32, .inl lo)), (o6, .inl (cI, 32, .inl hi)), (o7, .inl (cI, 32, .inl tm)), (o8, .inl (cI, 20, .inl sa)), (o9, .inl (cI, 8, .inl ca)), (o10, .inl (cI, 60, .inl ta)), (o11, .inl (cI, 60, .inl tn))] H → va_D A [(m0, .inr (6, [.int (nI co), .int (nI np), .ref o1, .ref o2, .ref o3, .int (nI n), .ref o4, .ref o5, .ref o6, .ref o7, .int (nI 6), .int (nI j), .int (nI 1), .int (nI how), .int (nI pl), .int (nI pl), .int (nI stt), .int (nI (q + 1)), .ref o8, .ref o9, .int (nI dn), .ref o10, .ref o11])), (o1, .inl (cI, 24, .inl P)), (o2, .inl (cI, 24, .inl K)), (o4, .inl (cZ, 32, .inl ru)), (o5, .inl (cI, 32, .inl lo)), (o6, .inl (cI, 32, .inl hi)), (o7, .inl (cI, 32, .inl tm)), (o8, .inl (cI, 20, .inl sa)), (o9, .inl (cI, 8, .inl ca)), (o10, .inl (cI, 60, .inl ta)), (o11, .inl (cI, 60, .inl tn))] → va_S A s.heap H locs → lv_has ls 5 [(0, .ref m0)] → W p l e ({ frames := 4, cells := 0, slots := 0, locals := 91 } : Room) s m args below meth c H locs 0 0 (MQ below (va_Qv (fun _ : Unit => True) (fun u => pl_out D classes (TY cI cZ cL) A ((fun (_ : Unit) => [(m0, .inr (6, [.int (nI co), .int (nI np), .ref o1, .ref o2, .ref o3, .int (nI n), .ref o4, .ref o5, .ref o6, .ref o7, .int (nI 6), .int (nI j), .int (nI 1), .int (nI how), .int (nI (pl + 1)), .int (nI pl), .int (nI stt), .int (nI q), .ref o8, .ref o9, .int (nI dn), .ref o10, .ref o11])), (o1, .inl (cI, 24, .inl P)), (o2, .inl (cI, 24, .inl K)), (o4, .inl (cZ, 32, .inl ru)), (o5, .inl (cI, 32, .inl lo)), (o6, .inl (cI, 32, .inl hi)), (o7, .inl (cI, 32, .inl tm)), (o8, .inl (cI, 20, .inl sa)), (o9, .inl (cI, 8, .inl (upd ca j (sa q)))), (o10, .inl (cI, 60, .inl ta)), (o11, .inl (cI, 60, .inl tn))]) u)) A) args s 0 0 A) (F0 m 49 ls []) := by
    intro _ H locs ls hP hD hS hl
    refine lv_aload_n hx hb d_Model_one_49 rfl (lv_at hl 0 rfl) ?_
    refine pl_get X fw_Model_91 hK hP 0 rfl (v := .int (nI 6)) rfl d_Model_one_50 ?_
    refine lv_istore_n hx hb d_Model_one_53 rfl hl (by decide) (lv' := [(1, .int (nI 6)), (0, .ref m0)]) rfl (fun ls hl => ?_)
    refine lv_aload_n hx hb d_Model_one_54 rfl (lv_at hl 1 rfl) ?_
    refine pl_get X fw_Model_94 hK hP 0 rfl (v := .int (nI j)) rfl d_Model_one_55 ?_
    refine lv_istore_n hx hb d_Model_one_58 rfl hl (by decide) (lv' := [(2, .int (nI j)), (1, .int (nI 6)), (0, .ref m0)]) rfl (fun ls hl => ?_)
    refine lv_aload_n hx hb d_Model_one_59 rfl (lv_at hl 2 rfl) ?_
    refine lv_dup hx hb d_Model_one_60 rfl ?_
    refine pl_get X fw_Model_115 hK hP 0 rfl (v := .int (nI pl)) rfl d_Model_one_61 ?_
    refine lv_iconst (v := nI 1) hx hb d_Model_one_64 (by decide) ?_
    refine pl_iadd X d_Model_one_65 (z := nI (pl + 1)) (nI_add _ _) ?_
    refine pl_put X fw_Model_115 fp_Model rfl hK hP hD hS 0 rfl (v := .int (nI (pl + 1))) rfl rfl (Nat.le_of_ble_eq_true rfl) d_Model_one_66 (ws' := [(m0, .inr (6, [.int (nI co), .int (nI np), .ref o1, .ref o2, .ref o3, .int (nI n), .ref o4, .ref o5, .ref o6, .ref o7, .int (nI 6), .int (nI j), .int (nI 1), .int (nI how), .int (nI (pl + 1)), .int (nI pl), .int (nI stt), .int (nI (q + 1)), .ref o8, .ref o9, .int (nI dn), .ref o10, .ref o11])), (o1, .inl (cI, 24, .inl P)), (o2, .inl (cI, 24, .inl K)), (o4, .inl (cZ, 32, .inl ru)), (o5, .inl (cI, 32, .inl lo)), (o6, .inl (cI, 32, .inl hi)), (o7, .inl (cI, 32, .inl tm)), (o8, .inl (cI, 20, .inl sa)), (o9, .inl (cI, 8, .inl ca)), (o10, .inl (cI, 60, .inl ta)), (o11, .inl (cI, 60, .inl tn))]) rfl (fun H locs hP hD hS => ?_)
    refine lv_iload_n hx hb d_Model_one_69 rfl (lv_at hl 1 rfl) ?_
    refine pl_callSI X (rest := []) (As := [.int (nI 6)]) (c_Model_takes_6 l D cI cZ cL) ck_Model_71 pl_E0_ok trivial hK hP hD hS hA [] [0, 1, 2, 3, 4, 5, 6, 7, 8, 9, 10] [0, 1, 2, 3, 4, 5, 6, 7, 8, 9, 10] rfl (by decide) (wr := [(m0, .inr (6, [.int (nI co), .int (nI np), .ref o1, .ref o2, .ref o3, .int (nI n), .ref o4, .ref o5, .ref o6, .ref o7, .int (nI 6), .int (nI j), .int (nI 1), .int (nI how), .int (nI (pl + 1)), .int (nI pl), .int (nI stt), .int (nI (q + 1)), .ref o8, .ref o9, .int (nI dn), .ref o10, .ref o11])), (o1, .inl (cI, 24, .inl P)), (o2, .inl (cI, 24, .inl K)), (o4, .inl (cZ, 32, .inl ru)), (o5, .inl (cI, 32, .inl lo)), (o6, .inl (cI, 32, .inl hi)), (o7, .inl (cI, 32, .inl tm)), (o8, .inl (cI, 20, .inl sa)), (o9, .inl (cI, 8, .inl ca)), (o10, .inl (cI, 60, .inl ta)), (o11, .inl (cI, 60, .inl tn))]) rfl (by decide) (by decide) (wf := fun _ => [(m0, .inr (6, [.int (nI co), .int (nI np), .ref o1, .ref o2, .ref o3, .int (nI n), .ref o4, .ref o5, .ref o6, .ref o7, .int (nI 6), .int (nI j), .int (nI 1), .int (nI how), .int (nI (pl + 1)), .int (nI pl), .int (nI stt), .int (nI (q + 1)), .ref o8, .ref o9, .int (nI dn), .ref o10, .ref o11])), (o1, .inl (cI, 24, .inl P)), (o2, .inl (cI, 24, .inl K)), (o4, .inl (cZ, 32, .inl ru)), (o5, .inl (cI, 32, .inl lo)), (o6, .inl (cI, 32, .inl hi)), (o7, .inl (cI, 32, .inl tm)), (o8, .inl (cI, 20, .inl sa)), (o9, .inl (cI, 8, .inl ca)), (o10, .inl (cI, 60, .inl ta)), (o11, .inl (cI, 60, .inl tn))]) (fun _ => rfl) (by decide) rfl hl.1 rfl (Nat.le_of_ble_eq_true rfl) (by decide) (by decide) d_Model_one_70 (fun r u0 H locs hcq hP hD hS => ?_)
    subst hcq
    refine lv_iconst (v := nI 2) hx hb d_Model_one_73 (by decide) ?_
    refine pl_icmp_ne X (by decide) (by decide) d_Model_one_74 rfl (fun gL => ?_) (fun gL => ?_)
    · skip
      refine lv_iconst (v := nI 0) hx hb d_Model_one_84 (by decide) ?_
      refine lv_istore_n hx hb d_Model_one_85 rfl hl (by decide) (lv' := [(3, .int (nI 0)), (2, .int (nI j)), (1, .int (nI 6)), (0, .ref m0)]) rfl (fun ls hl => ?_)
      refine lv_iload_n hx hb d_Model_one_86 rfl (lv_at hl 2 rfl) ?_
      refine lv_iconst (v := nI 2) hx hb d_Model_one_87 (by decide) ?_
      refine pl_icmp_eq X (by decide) (by decide) d_Model_one_88 rfl (fun gL => ?_) (fun gL => ?_)
      · skip
        exact absurd gL (by decide)
      · skip
        refine lv_iload_n hx hb d_Model_one_91 rfl (lv_at hl 2 rfl) ?_
        refine lv_iconst (v := nI 3) hx hb d_Model_one_92 (by decide) ?_
        refine pl_icmp_eq X (by decide) (by decide) d_Model_one_93 rfl (fun gL => ?_) (fun gL => ?_)
        · skip
          exact absurd gL (by decide)
        · skip
          refine lv_iload_n hx hb d_Model_one_96 rfl (lv_at hl 2 rfl) ?_
          refine lv_iconst (v := nI 4) hx hb d_Model_one_97 (by decide) ?_
          refine pl_icmp_eq X (by decide) (by decide) d_Model_one_98 rfl (fun gL => ?_) (fun gL => ?_)
          · skip
            exact absurd gL (by decide)
          · skip
            refine lv_iload_n hx hb d_Model_one_101 rfl (lv_at hl 2 rfl) ?_
            refine lv_bipush (v := nI 10) hx hb d_Model_one_102 (by decide) ?_
            refine pl_icmp_ne X (by decide) (by decide) d_Model_one_104 rfl (fun gL => ?_) (fun gL => ?_)
            · skip
              refine lv_iconst (v := nI 0) hx hb d_Model_one_114 (by decide) ?_
              refine lv_istore hx hb d_Model_one_115 hl (by decide) (lv' := [(4, .int (nI 0)), (3, .int (nI 0)), (2, .int (nI j)), (1, .int (nI 6)), (0, .ref m0)]) rfl (fun ls hl => ?_)
              refine lv_iload_n hx hb d_Model_one_117 rfl (lv_at hl 3 rfl) ?_
              refine lv_tableIn hx hb d_Model_one_118 (by decide) (by decide) (off := 136) (by decide) (tgt := 254) rfl ?_
              refine lv_aload_n hx hb d_Model_one_254 rfl (lv_at hl 4 rfl) ?_
              refine pl_get X fw_Model_39 hK hP 0 rfl (v := .ref o9) rfl d_Model_one_255 ?_
              refine lv_iload_n hx hb d_Model_one_258 rfl (lv_at hl 2 rfl) ?_
              refine lv_aload_n hx hb d_Model_one_259 rfl (lv_at hl 4 rfl) ?_
              refine pl_callVI X (rest := [.int (nI j), .ref o9]) (As := []) (b := m0) (c_Model_pop l D cI cZ cL m0 o1 o2 o3 o4 o5 o6 o7 o8 o9 o10 o11 P K Hm ru lo hi tm sa ca ta tn (nI 6) (nI j) co np n 1 how (pl + 1) pl stt q dn (by omega)) ck_Model_130 pl_E0_ok trivial hK hP hD hS hA (T := F_Model) (N := N_Model) (ci := 6) rfl 0 rfl [0, 7] [1, 2, 3, 4, 5, 6, 8, 9, 10] [9, 0, 1, 2, 3, 4, 5, 10, 6, 7, 8] rfl (by decide) (wr := [(o1, .inl (cI, 24, .inl P)), (o2, .inl (cI, 24, .inl K)), (o4, .inl (cZ, 32, .inl ru)), (o5, .inl (cI, 32, .inl lo)), (o6, .inl (cI, 32, .inl hi)), (o7, .inl (cI, 32, .inl tm)), (o9, .inl (cI, 8, .inl ca)), (o10, .inl (cI, 60, .inl ta)), (o11, .inl (cI, 60, .inl tn))]) rfl (by decide) (by decide) (wf := fun _ => [(m0, .inr (6, [.int (nI co), .int (nI np), .ref o1, .ref o2, .ref o3, .int (nI n), .ref o4, .ref o5, .ref o6, .ref o7, .int (nI 6), .int (nI j), .int (nI 1), .int (nI how), .int (nI (pl + 1)), .int (nI pl), .int (nI stt), .int (nI q), .ref o8, .ref o9, .int (nI dn), .ref o10, .ref o11])), (o1, .inl (cI, 24, .inl P)), (o2, .inl (cI, 24, .inl K)), (o4, .inl (cZ, 32, .inl ru)), (o5, .inl (cI, 32, .inl lo)), (o6, .inl (cI, 32, .inl hi)), (o7, .inl (cI, 32, .inl tm)), (o8, .inl (cI, 20, .inl sa)), (o9, .inl (cI, 8, .inl ca)), (o10, .inl (cI, 60, .inl ta)), (o11, .inl (cI, 60, .inl tn))]) (fun _ => rfl) (by decide) rfl hl.1 rfl (Nat.le_of_ble_eq_true rfl) (by decide) (by decide) d_Model_one_260 (fun r u0 H locs hcq hP hD hS => ?_)
              subst hcq
              refine pl_iast X hK hP hD hS 8 0 rfl rfl j (by omega) (by decide) d_Model_one_263 (ws' := [(m0, .inr (6, [.int (nI co), .int (nI np), .ref o1, .ref o2, .ref o3, .int (nI n), .ref o4, .ref o5, .ref o6, .ref o7, .int (nI 6), .int (nI j), .int (nI 1), .int (nI how), .int (nI (pl + 1)), .int (nI pl), .int (nI stt), .int (nI q), .ref o8, .ref o9, .int (nI dn), .ref o10, .ref o11])), (o1, .inl (cI, 24, .inl P)), (o2, .inl (cI, 24, .inl K)), (o4, .inl (cZ, 32, .inl ru)), (o5, .inl (cI, 32, .inl lo)), (o6, .inl (cI, 32, .inl hi)), (o7, .inl (cI, 32, .inl tm)), (o8, .inl (cI, 20, .inl sa)), (o9, .inl (cI, 8, .inl (upd ca j (sa q)))), (o10, .inl (cI, 60, .inl ta)), (o11, .inl (cI, 60, .inl tn))]) rfl (fun H locs hP hD hS => ?_)
              refine lv_goto hx hb d_Model_one_264 rfl ?_
              exact pl_vret X hr hlk hK () trivial hP hD hS d_Model_one_342
            · skip
              exact absurd gL (by decide)
    · skip
      exact absurd gL (by decide)
  refine lv_aload_n hx hb d_Model_one_0 rfl (lv_at hl 0 rfl) ?_
  refine lv_aload_n hx hb d_Model_one_1 rfl (lv_at hl 0 rfl) ?_
  refine pl_get X fw_Model_115 hK hP 0 rfl (v := .int (nI pl)) rfl d_Model_one_2 ?_
  refine pl_put X fw_Model_118 fp_Model rfl hK hP hD hS 0 rfl (v := .int (nI pl)) rfl rfl (Nat.le_of_ble_eq_true rfl) d_Model_one_5 (ws' := [(m0, .inr (6, [.int (nI co), .int (nI np), .ref o1, .ref o2, .ref o3, .int (nI n), .ref o4, .ref o5, .ref o6, .ref o7, .int fo1, .int fk1, .int (nI 1), .int (nI how), .int (nI pl), .int (nI pl), .int (nI stt), .int (nI (q + 1)), .ref o8, .ref o9, .int (nI dn), .ref o10, .ref o11])), (o1, .inl (cI, 24, .inl P)), (o2, .inl (cI, 24, .inl K)), (o4, .inl (cZ, 32, .inl ru)), (o5, .inl (cI, 32, .inl lo)), (o6, .inl (cI, 32, .inl hi)), (o7, .inl (cI, 32, .inl tm)), (o8, .inl (cI, 20, .inl sa)), (o9, .inl (cI, 8, .inl ca)), (o10, .inl (cI, 60, .inl ta)), (o11, .inl (cI, 60, .inl tn))]) rfl (fun H locs hP hD hS => ?_)
  refine lv_aload_n hx hb d_Model_one_8 rfl (lv_at hl 0 rfl) ?_
  refine pl_get X fw_Model_112 hK hP 0 rfl (v := .int (nI how)) rfl d_Model_one_9 ?_
  refine lv_iconst (v := nI 1) hx hb d_Model_one_12 (by decide) ?_
  refine pl_icmp_ne X (by omega) (by decide) d_Model_one_13 rfl (fun g13 => ?_) (fun g13 => ?_)
  · skip
    refine lv_aload_n hx hb d_Model_one_27 rfl (lv_at hl 0 rfl) ?_
    refine lv_aload_n hx hb d_Model_one_28 rfl (lv_at hl 0 rfl) ?_
    refine pl_get X fw_Model_7 hK hP 0 rfl (v := .ref o1) rfl d_Model_one_29 ?_
    refine lv_aload_n hx hb d_Model_one_32 rfl (lv_at hl 0 rfl) ?_
    refine pl_get X fw_Model_115 hK hP 0 rfl (v := .int (nI pl)) rfl d_Model_one_33 ?_
    refine pl_iald X hK hP 1 0 rfl rfl pl (by have := (hO.2 g13).1; omega) (by decide) (z := nI 6) (hO.2 g13).2.1 d_Model_one_36 ?_
    refine lv_aload_n hx hb d_Model_one_37 rfl (lv_at hl 0 rfl) ?_
    refine pl_get X fw_Model_13 hK hP 0 rfl (v := .ref o2) rfl d_Model_one_38 ?_
    refine lv_aload_n hx hb d_Model_one_41 rfl (lv_at hl 0 rfl) ?_
    refine pl_get X fw_Model_115 hK hP 0 rfl (v := .int (nI pl)) rfl d_Model_one_42 ?_
    refine pl_iald X hK hP 2 0 rfl rfl pl (by have := (hO.2 g13).1; omega) (by decide) (z := nI j) (hO.2 g13).2.2 d_Model_one_45 ?_
    refine pl_callVV X (rest := []) (As := [.int (nI 6), .int (nI j)]) (b := m0) (c_Model_set l D cI cZ cL m0 o1 o2 o3 o4 o5 o6 o7 o8 o9 o10 o11 P K Hm ru lo hi tm sa ca ta tn fo1 fk1 co np n 1 how pl pl stt (q + 1) dn (nI 6) (nI j)) ck_Model_100 pl_E0_ok trivial hK hP hD hS hA (T := F_Model) (N := N_Model) (ci := 6) rfl 0 rfl [0] [1, 2, 3, 4, 5, 6, 7, 8, 9, 10] [10, 0, 1, 2, 3, 4, 5, 6, 7, 8, 9] rfl (by decide) (wr := [(o1, .inl (cI, 24, .inl P)), (o2, .inl (cI, 24, .inl K)), (o4, .inl (cZ, 32, .inl ru)), (o5, .inl (cI, 32, .inl lo)), (o6, .inl (cI, 32, .inl hi)), (o7, .inl (cI, 32, .inl tm)), (o8, .inl (cI, 20, .inl sa)), (o9, .inl (cI, 8, .inl ca)), (o10, .inl (cI, 60, .inl ta)), (o11, .inl (cI, 60, .inl tn))]) rfl (by decide) (by decide) (wf := fun _ => [(m0, .inr (6, [.int (nI co), .int (nI np), .ref o1, .ref o2, .ref o3, .int (nI n), .ref o4, .ref o5, .ref o6, .ref o7, .int (nI 6), .int (nI j), .int (nI 1), .int (nI how), .int (nI pl), .int (nI pl), .int (nI stt), .int (nI (q + 1)), .ref o8, .ref o9, .int (nI dn), .ref o10, .ref o11])), (o1, .inl (cI, 24, .inl P)), (o2, .inl (cI, 24, .inl K)), (o4, .inl (cZ, 32, .inl ru)), (o5, .inl (cI, 32, .inl lo)), (o6, .inl (cI, 32, .inl hi)), (o7, .inl (cI, 32, .inl tm)), (o8, .inl (cI, 20, .inl sa)), (o9, .inl (cI, 8, .inl ca)), (o10, .inl (cI, 60, .inl ta)), (o11, .inl (cI, 60, .inl tn))]) (fun _ => rfl) (by decide) rfl hl.1 rfl (Nat.le_of_ble_eq_true rfl) (by decide) (by decide) d_Model_one_46 (fun u0 H locs hcq hP hD hS => ?_)
    exact join_49 (()) _ _ _ hP hD hS hl
  · skip
    refine lv_aload_n hx hb d_Model_one_16 rfl (lv_at hl 0 rfl) ?_
    refine lv_aload_n hx hb d_Model_one_17 rfl (lv_at hl 0 rfl) ?_
    refine pl_get X fw_Model_115 hK hP 0 rfl (v := .int (nI pl)) rfl d_Model_one_18 ?_
    refine pl_callVV X (rest := []) (As := [.int (nI pl)]) (b := m0) (c_Model_find l D cI cZ cL m0 o1 o2 o3 o4 o5 o6 o7 o8 o9 o10 o11 P K Hm ru lo hi tm sa ca ta tn fo1 fk1 co np n 1 how pl pl stt (q + 1) dn th pl hn hnp hop hok hru (hO.1 g13).1) ck_Model_108 pl_E0_ok trivial hK hP hD hS hA (T := F_Model) (N := N_Model) (ci := 6) rfl 0 rfl [0, 1, 2, 3, 4, 5, 6] [7, 8, 9, 10] [4, 5, 6, 7, 8, 9, 10, 0, 1, 2, 3] rfl (by decide) (wr := [(o8, .inl (cI, 20, .inl sa)), (o9, .inl (cI, 8, .inl ca)), (o10, .inl (cI, 60, .inl ta)), (o11, .inl (cI, 60, .inl tn))]) rfl (by decide) (by decide) (wf := fun (uf : Int32 × Int32) => [(m0, .inr (6, [.int (nI co), .int (nI np), .ref o1, .ref o2, .ref o3, .int (nI n), .ref o4, .ref o5, .ref o6, .ref o7, .int uf.1, .int uf.2, .int (nI 1), .int (nI how), .int (nI pl), .int (nI pl), .int (nI stt), .int (nI (q + 1)), .ref o8, .ref o9, .int (nI dn), .ref o10, .ref o11])), (o1, .inl (cI, 24, .inl P)), (o2, .inl (cI, 24, .inl K)), (o4, .inl (cZ, 32, .inl ru)), (o5, .inl (cI, 32, .inl lo)), (o6, .inl (cI, 32, .inl hi)), (o7, .inl (cI, 32, .inl tm)), (o8, .inl (cI, 20, .inl sa)), (o9, .inl (cI, 8, .inl ca)), (o10, .inl (cI, 60, .inl ta)), (o11, .inl (cI, 60, .inl tn))]) (fun _ => rfl) (by decide) rfl hl.1 rfl (Nat.le_of_ble_eq_true rfl) (by decide) (by decide) d_Model_one_21 (fun uf H locs hcq hP hD hS => ?_)
    obtain ⟨hc1, hc2⟩ := hcq
    have hu9 : uf = (nI 6, nI j) := Prod.ext (hc1.trans (hO.1 g13).2.1) (hc2.trans (hO.1 g13).2.2)
    subst hu9
    refine lv_goto hx hb d_Model_one_24 rfl ?_
    exact join_49 (()) _ _ _ hP hD hS hl

set_option maxHeartbeats 4000000 in
set_option maxRecDepth 100000 in
theorem c_Model_one_7 (l : Launch) (D : va_G) (cI cZ cL : ClassId) (m0 o1 o2 o3 o4 o5 o6 o7 o8 o9 o10 o11 : Nat) (P K Hm ru lo hi tm sa ca ta tn : Nat → Int32) (fo1 fk1 : Int32) (co np n stat how pl la stt q dn : Nat) (th : Nat → Int32) (j : Nat) (hn : n ≤ 4) (hnp : np ≤ 24) (hop : okP P np) (hok : okK P K np) (hru : rulR ru tm th) (hO : (how = 1 → pl < plc P K th n np ∧ (wO P K th n np).getD pl 0 = nI 7 ∧ (wK P K lo hi th n np).getD pl 0 = nI j) ∧ (¬ how = 1 → pl < np ∧ P pl = nI 7 ∧ K pl = nI j)) (hh : how ≤ 2) (hpl : pl < 2000)  : pl_V l y_Model_one b_Model_one 5 ({ frames := 4, cells := 0, slots := 0, locals := 91 } : Room) pl_E0 D classes (TY cI cZ cL) [.ref m0] [(m0, .inr (6, [.int (nI co), .int (nI np), .ref o1, .ref o2, .ref o3, .int (nI n), .ref o4, .ref o5, .ref o6, .ref o7, .int fo1, .int fk1, .int (nI 1), .int (nI how), .int (nI pl), .int (nI la), .int (nI stt), .int (nI q), .ref o8, .ref o9, .int (nI dn), .ref o10, .ref o11])), (o1, .inl (cI, 24, .inl P)), (o2, .inl (cI, 24, .inl K)), (o4, .inl (cZ, 32, .inl ru)), (o5, .inl (cI, 32, .inl lo)), (o6, .inl (cI, 32, .inl hi)), (o7, .inl (cI, 32, .inl tm)), (o8, .inl (cI, 20, .inl sa)), (o9, .inl (cI, 8, .inl ca)), (o10, .inl (cI, 60, .inl ta)), (o11, .inl (cI, 60, .inl tn))] (fun _ : Unit => True) (fun (_ : Unit) => [(m0, .inr (6, [.int (nI co), .int (nI np), .ref o1, .ref o2, .ref o3, .int (nI n), .ref o4, .ref o5, .ref o6, .ref o7, .int (nI 7), .int (nI j), .int (nI 1), .int (nI how), .int (nI j), .int (nI pl), .int (nI stt), .int (nI q), .ref o8, .ref o9, .int (nI dn), .ref o10, .ref o11])), (o1, .inl (cI, 24, .inl P)), (o2, .inl (cI, 24, .inl K)), (o4, .inl (cZ, 32, .inl ru)), (o5, .inl (cI, 32, .inl lo)), (o6, .inl (cI, 32, .inl hi)), (o7, .inl (cI, 32, .inl tm)), (o8, .inl (cI, 20, .inl sa)), (o9, .inl (cI, 8, .inl ca)), (o10, .inl (cI, 60, .inl ta)), (o11, .inl (cI, 60, .inl tn))]) := by
  refine pl_startV (by decide) (Nat.le_of_ble_eq_true rfl) ?_
  intro p e s m args below meth c A ls X hr hlk hin hK hP hD hS hA hE hl
  have X : CallFix p m c b_Model_one 5 s args TG R_Model := X
  have hx := X.1
  have hb := X.2.1
  have hl : lv_has ls 5 [(0, .ref m0)] := hl
  have join_49 : ∀ (_ : Unit) (H : Heap) (locs : List Loc) (ls : Array Slot), va_P D classes [(m0, .inr (6, [.int (nI co), .int (nI np), .ref o1, .ref o2, .ref o3, .int (nI n), .ref o4, .ref o5, .ref o6, .ref o7, .int (nI 7), .int (nI j), .int (nI 1), .int (nI how), .int (nI pl), .int (nI pl), .int (nI stt), .int (nI q), .ref o8, .ref o9, .int (nI dn), .ref o10, .ref o11])), (o1, .inl (cI, 24, .inl P)), (o2, .inl (cI, 24, .inl K)), (o4, .inl (cZ, 32, .inl ru)), (o5, .inl (cI, 32, .inl lo)), (o6, .inl (cI, 32, .inl hi)), (o7, .inl (cI, 32, .inl tm)), (o8, .inl (cI, 20, .inl sa)), (o9, .inl (cI, 8, .inl ca)), (o10, .inl (cI, 60, .inl ta)), (o11, .inl (cI, 60, .inl tn))] H → va_D A [(m0, .inr (6, [.int (nI co), .int (nI np), .ref o1, .ref o2, .ref o3, .int (nI n), .ref o4, .ref o5, .ref o6, .ref o7, .int (nI 7), .int (nI j), .int (nI 1), .int (nI how), .int (nI pl), .int (nI pl), .int (nI stt), .int (nI q), .ref o8, .ref o9, .int (nI dn), .ref o10, .ref o11])), (o1, .inl (cI, 24, .inl P)), (o2, .inl (cI, 24, .inl K)), (o4, .inl (cZ, 32, .inl ru)), (o5, .inl (cI, 32, .inl lo)), (o6, .inl (cI, 32, .inl hi)), (o7, .inl (cI, 32, .inl tm)), (o8, .inl (cI, 20, .inl sa)), (o9, .inl (cI, 8, .inl ca)), (o10, .inl (cI, 60, .inl ta)), (o11, .inl (cI, 60, .inl tn))] → va_S A s.heap H locs → lv_has ls 5 [(0, .ref m0)] → W p l e ({ frames := 4, cells := 0, slots := 0, locals := 91 } : Room) s m args below meth c H locs 0 0 (MQ below (va_Qv (fun _ : Unit => True) (fun u => pl_out D classes (TY cI cZ cL) A ((fun (_ : Unit) => [(m0, .inr (6, [.int (nI co), .int (nI np), .ref o1, .ref o2, .ref o3, .int (nI n), .ref o4, .ref o5, .ref o6, .ref o7, .int (nI 7), .int (nI j), .int (nI 1), .int (nI how), .int (nI j), .int (nI pl), .int (nI stt), .int (nI q), .ref o8, .ref o9, .int (nI dn), .ref o10, .ref o11])), (o1, .inl (cI, 24, .inl P)), (o2, .inl (cI, 24, .inl K)), (o4, .inl (cZ, 32, .inl ru)), (o5, .inl (cI, 32, .inl lo)), (o6, .inl (cI, 32, .inl hi)), (o7, .inl (cI, 32, .inl tm)), (o8, .inl (cI, 20, .inl sa)), (o9, .inl (cI, 8, .inl ca)), (o10, .inl (cI, 60, .inl ta)), (o11, .inl (cI, 60, .inl tn))]) u)) A) args s 0 0 A) (F0 m 49 ls []) := by
    intro _ H locs ls hP hD hS hl
    refine lv_aload_n hx hb d_Model_one_49 rfl (lv_at hl 0 rfl) ?_
    refine pl_get X fw_Model_91 hK hP 0 rfl (v := .int (nI 7)) rfl d_Model_one_50 ?_
    refine lv_istore_n hx hb d_Model_one_53 rfl hl (by decide) (lv' := [(1, .int (nI 7)), (0, .ref m0)]) rfl (fun ls hl => ?_)
    refine lv_aload_n hx hb d_Model_one_54 rfl (lv_at hl 1 rfl) ?_
    refine pl_get X fw_Model_94 hK hP 0 rfl (v := .int (nI j)) rfl d_Model_one_55 ?_
    refine lv_istore_n hx hb d_Model_one_58 rfl hl (by decide) (lv' := [(2, .int (nI j)), (1, .int (nI 7)), (0, .ref m0)]) rfl (fun ls hl => ?_)
    refine lv_aload_n hx hb d_Model_one_59 rfl (lv_at hl 2 rfl) ?_
    refine lv_dup hx hb d_Model_one_60 rfl ?_
    refine pl_get X fw_Model_115 hK hP 0 rfl (v := .int (nI pl)) rfl d_Model_one_61 ?_
    refine lv_iconst (v := nI 1) hx hb d_Model_one_64 (by decide) ?_
    refine pl_iadd X d_Model_one_65 (z := nI (pl + 1)) (nI_add _ _) ?_
    refine pl_put X fw_Model_115 fp_Model rfl hK hP hD hS 0 rfl (v := .int (nI (pl + 1))) rfl rfl (Nat.le_of_ble_eq_true rfl) d_Model_one_66 (ws' := [(m0, .inr (6, [.int (nI co), .int (nI np), .ref o1, .ref o2, .ref o3, .int (nI n), .ref o4, .ref o5, .ref o6, .ref o7, .int (nI 7), .int (nI j), .int (nI 1), .int (nI how), .int (nI (pl + 1)), .int (nI pl), .int (nI stt), .int (nI q), .ref o8, .ref o9, .int (nI dn), .ref o10, .ref o11])), (o1, .inl (cI, 24, .inl P)), (o2, .inl (cI, 24, .inl K)), (o4, .inl (cZ, 32, .inl ru)), (o5, .inl (cI, 32, .inl lo)), (o6, .inl (cI, 32, .inl hi)), (o7, .inl (cI, 32, .inl tm)), (o8, .inl (cI, 20, .inl sa)), (o9, .inl (cI, 8, .inl ca)), (o10, .inl (cI, 60, .inl ta)), (o11, .inl (cI, 60, .inl tn))]) rfl (fun H locs hP hD hS => ?_)
    refine lv_iload_n hx hb d_Model_one_69 rfl (lv_at hl 1 rfl) ?_
    refine pl_callSI X (rest := []) (As := [.int (nI 7)]) (c_Model_takes_7 l D cI cZ cL) ck_Model_71 pl_E0_ok trivial hK hP hD hS hA [] [0, 1, 2, 3, 4, 5, 6, 7, 8, 9, 10] [0, 1, 2, 3, 4, 5, 6, 7, 8, 9, 10] rfl (by decide) (wr := [(m0, .inr (6, [.int (nI co), .int (nI np), .ref o1, .ref o2, .ref o3, .int (nI n), .ref o4, .ref o5, .ref o6, .ref o7, .int (nI 7), .int (nI j), .int (nI 1), .int (nI how), .int (nI (pl + 1)), .int (nI pl), .int (nI stt), .int (nI q), .ref o8, .ref o9, .int (nI dn), .ref o10, .ref o11])), (o1, .inl (cI, 24, .inl P)), (o2, .inl (cI, 24, .inl K)), (o4, .inl (cZ, 32, .inl ru)), (o5, .inl (cI, 32, .inl lo)), (o6, .inl (cI, 32, .inl hi)), (o7, .inl (cI, 32, .inl tm)), (o8, .inl (cI, 20, .inl sa)), (o9, .inl (cI, 8, .inl ca)), (o10, .inl (cI, 60, .inl ta)), (o11, .inl (cI, 60, .inl tn))]) rfl (by decide) (by decide) (wf := fun _ => [(m0, .inr (6, [.int (nI co), .int (nI np), .ref o1, .ref o2, .ref o3, .int (nI n), .ref o4, .ref o5, .ref o6, .ref o7, .int (nI 7), .int (nI j), .int (nI 1), .int (nI how), .int (nI (pl + 1)), .int (nI pl), .int (nI stt), .int (nI q), .ref o8, .ref o9, .int (nI dn), .ref o10, .ref o11])), (o1, .inl (cI, 24, .inl P)), (o2, .inl (cI, 24, .inl K)), (o4, .inl (cZ, 32, .inl ru)), (o5, .inl (cI, 32, .inl lo)), (o6, .inl (cI, 32, .inl hi)), (o7, .inl (cI, 32, .inl tm)), (o8, .inl (cI, 20, .inl sa)), (o9, .inl (cI, 8, .inl ca)), (o10, .inl (cI, 60, .inl ta)), (o11, .inl (cI, 60, .inl tn))]) (fun _ => rfl) (by decide) rfl hl.1 rfl (Nat.le_of_ble_eq_true rfl) (by decide) (by decide) d_Model_one_70 (fun r u0 H locs hcq hP hD hS => ?_)
    subst hcq
    refine lv_iconst (v := nI 2) hx hb d_Model_one_73 (by decide) ?_
    refine pl_icmp_ne X (by decide) (by decide) d_Model_one_74 rfl (fun gL => ?_) (fun gL => ?_)
    · skip
      refine lv_iconst (v := nI 0) hx hb d_Model_one_84 (by decide) ?_
      refine lv_istore_n hx hb d_Model_one_85 rfl hl (by decide) (lv' := [(3, .int (nI 0)), (2, .int (nI j)), (1, .int (nI 7)), (0, .ref m0)]) rfl (fun ls hl => ?_)
      refine lv_iload_n hx hb d_Model_one_86 rfl (lv_at hl 2 rfl) ?_
      refine lv_iconst (v := nI 2) hx hb d_Model_one_87 (by decide) ?_
      refine pl_icmp_eq X (by decide) (by decide) d_Model_one_88 rfl (fun gL => ?_) (fun gL => ?_)
      · skip
        exact absurd gL (by decide)
      · skip
        refine lv_iload_n hx hb d_Model_one_91 rfl (lv_at hl 2 rfl) ?_
        refine lv_iconst (v := nI 3) hx hb d_Model_one_92 (by decide) ?_
        refine pl_icmp_eq X (by decide) (by decide) d_Model_one_93 rfl (fun gL => ?_) (fun gL => ?_)
        · skip
          exact absurd gL (by decide)
        · skip
          refine lv_iload_n hx hb d_Model_one_96 rfl (lv_at hl 2 rfl) ?_
          refine lv_iconst (v := nI 4) hx hb d_Model_one_97 (by decide) ?_
          refine pl_icmp_eq X (by decide) (by decide) d_Model_one_98 rfl (fun gL => ?_) (fun gL => ?_)
          · skip
            exact absurd gL (by decide)
          · skip
            refine lv_iload_n hx hb d_Model_one_101 rfl (lv_at hl 2 rfl) ?_
            refine lv_bipush (v := nI 10) hx hb d_Model_one_102 (by decide) ?_
            refine pl_icmp_ne X (by decide) (by decide) d_Model_one_104 rfl (fun gL => ?_) (fun gL => ?_)
            · skip
              refine lv_iconst (v := nI 0) hx hb d_Model_one_114 (by decide) ?_
              refine lv_istore hx hb d_Model_one_115 hl (by decide) (lv' := [(4, .int (nI 0)), (3, .int (nI 0)), (2, .int (nI j)), (1, .int (nI 7)), (0, .ref m0)]) rfl (fun ls hl => ?_)
              refine lv_iload_n hx hb d_Model_one_117 rfl (lv_at hl 3 rfl) ?_
              refine lv_tableIn hx hb d_Model_one_118 (by decide) (by decide) (off := 149) (by decide) (tgt := 267) rfl ?_
              refine lv_aload_n hx hb d_Model_one_267 rfl (lv_at hl 4 rfl) ?_
              refine lv_iload_n hx hb d_Model_one_268 rfl (lv_at hl 2 rfl) ?_
              refine pl_put X fw_Model_115 fp_Model rfl hK hP hD hS 0 rfl (v := .int (nI j)) rfl rfl (Nat.le_of_ble_eq_true rfl) d_Model_one_269 (ws' := [(m0, .inr (6, [.int (nI co), .int (nI np), .ref o1, .ref o2, .ref o3, .int (nI n), .ref o4, .ref o5, .ref o6, .ref o7, .int (nI 7), .int (nI j), .int (nI 1), .int (nI how), .int (nI j), .int (nI pl), .int (nI stt), .int (nI q), .ref o8, .ref o9, .int (nI dn), .ref o10, .ref o11])), (o1, .inl (cI, 24, .inl P)), (o2, .inl (cI, 24, .inl K)), (o4, .inl (cZ, 32, .inl ru)), (o5, .inl (cI, 32, .inl lo)), (o6, .inl (cI, 32, .inl hi)), (o7, .inl (cI, 32, .inl tm)), (o8, .inl (cI, 20, .inl sa)), (o9, .inl (cI, 8, .inl ca)), (o10, .inl (cI, 60, .inl ta)), (o11, .inl (cI, 60, .inl tn))]) rfl (fun H locs hP hD hS => ?_)
              refine lv_goto hx hb d_Model_one_272 rfl ?_
              exact pl_vret X hr hlk hK () trivial hP hD hS d_Model_one_342
            · skip
              exact absurd gL (by decide)
    · skip
      exact absurd gL (by decide)
  refine lv_aload_n hx hb d_Model_one_0 rfl (lv_at hl 0 rfl) ?_
  refine lv_aload_n hx hb d_Model_one_1 rfl (lv_at hl 0 rfl) ?_
  refine pl_get X fw_Model_115 hK hP 0 rfl (v := .int (nI pl)) rfl d_Model_one_2 ?_
  refine pl_put X fw_Model_118 fp_Model rfl hK hP hD hS 0 rfl (v := .int (nI pl)) rfl rfl (Nat.le_of_ble_eq_true rfl) d_Model_one_5 (ws' := [(m0, .inr (6, [.int (nI co), .int (nI np), .ref o1, .ref o2, .ref o3, .int (nI n), .ref o4, .ref o5, .ref o6, .ref o7, .int fo1, .int fk1, .int (nI 1), .int (nI how), .int (nI pl), .int (nI pl), .int (nI stt), .int (nI q), .ref o8, .ref o9, .int (nI dn), .ref o10, .ref o11])), (o1, .inl (cI, 24, .inl P)), (o2, .inl (cI, 24, .inl K)), (o4, .inl (cZ, 32, .inl ru)), (o5, .inl (cI, 32, .inl lo)), (o6, .inl (cI, 32, .inl hi)), (o7, .inl (cI, 32, .inl tm)), (o8, .inl (cI, 20, .inl sa)), (o9, .inl (cI, 8, .inl ca)), (o10, .inl (cI, 60, .inl ta)), (o11, .inl (cI, 60, .inl tn))]) rfl (fun H locs hP hD hS => ?_)
  refine lv_aload_n hx hb d_Model_one_8 rfl (lv_at hl 0 rfl) ?_
  refine pl_get X fw_Model_112 hK hP 0 rfl (v := .int (nI how)) rfl d_Model_one_9 ?_
  refine lv_iconst (v := nI 1) hx hb d_Model_one_12 (by decide) ?_
  refine pl_icmp_ne X (by omega) (by decide) d_Model_one_13 rfl (fun g13 => ?_) (fun g13 => ?_)
  · skip
    refine lv_aload_n hx hb d_Model_one_27 rfl (lv_at hl 0 rfl) ?_
    refine lv_aload_n hx hb d_Model_one_28 rfl (lv_at hl 0 rfl) ?_
    refine pl_get X fw_Model_7 hK hP 0 rfl (v := .ref o1) rfl d_Model_one_29 ?_
    refine lv_aload_n hx hb d_Model_one_32 rfl (lv_at hl 0 rfl) ?_
    refine pl_get X fw_Model_115 hK hP 0 rfl (v := .int (nI pl)) rfl d_Model_one_33 ?_
    refine pl_iald X hK hP 1 0 rfl rfl pl (by have := (hO.2 g13).1; omega) (by decide) (z := nI 7) (hO.2 g13).2.1 d_Model_one_36 ?_
    refine lv_aload_n hx hb d_Model_one_37 rfl (lv_at hl 0 rfl) ?_
    refine pl_get X fw_Model_13 hK hP 0 rfl (v := .ref o2) rfl d_Model_one_38 ?_
    refine lv_aload_n hx hb d_Model_one_41 rfl (lv_at hl 0 rfl) ?_
    refine pl_get X fw_Model_115 hK hP 0 rfl (v := .int (nI pl)) rfl d_Model_one_42 ?_
    refine pl_iald X hK hP 2 0 rfl rfl pl (by have := (hO.2 g13).1; omega) (by decide) (z := nI j) (hO.2 g13).2.2 d_Model_one_45 ?_
    refine pl_callVV X (rest := []) (As := [.int (nI 7), .int (nI j)]) (b := m0) (c_Model_set l D cI cZ cL m0 o1 o2 o3 o4 o5 o6 o7 o8 o9 o10 o11 P K Hm ru lo hi tm sa ca ta tn fo1 fk1 co np n 1 how pl pl stt q dn (nI 7) (nI j)) ck_Model_100 pl_E0_ok trivial hK hP hD hS hA (T := F_Model) (N := N_Model) (ci := 6) rfl 0 rfl [0] [1, 2, 3, 4, 5, 6, 7, 8, 9, 10] [10, 0, 1, 2, 3, 4, 5, 6, 7, 8, 9] rfl (by decide) (wr := [(o1, .inl (cI, 24, .inl P)), (o2, .inl (cI, 24, .inl K)), (o4, .inl (cZ, 32, .inl ru)), (o5, .inl (cI, 32, .inl lo)), (o6, .inl (cI, 32, .inl hi)), (o7, .inl (cI, 32, .inl tm)), (o8, .inl (cI, 20, .inl sa)), (o9, .inl (cI, 8, .inl ca)), (o10, .inl (cI, 60, .inl ta)), (o11, .inl (cI, 60, .inl tn))]) rfl (by decide) (by decide) (wf := fun _ => [(m0, .inr (6, [.int (nI co), .int (nI np), .ref o1, .ref o2, .ref o3, .int (nI n), .ref o4, .ref o5, .ref o6, .ref o7, .int (nI 7), .int (nI j), .int (nI 1), .int (nI how), .int (nI pl), .int (nI pl), .int (nI stt), .int (nI q), .ref o8, .ref o9, .int (nI dn), .ref o10, .ref o11])), (o1, .inl (cI, 24, .inl P)), (o2, .inl (cI, 24, .inl K)), (o4, .inl (cZ, 32, .inl ru)), (o5, .inl (cI, 32, .inl lo)), (o6, .inl (cI, 32, .inl hi)), (o7, .inl (cI, 32, .inl tm)), (o8, .inl (cI, 20, .inl sa)), (o9, .inl (cI, 8, .inl ca)), (o10, .inl (cI, 60, .inl ta)), (o11, .inl (cI, 60, .inl tn))]) (fun _ => rfl) (by decide) rfl hl.1 rfl (Nat.le_of_ble_eq_true rfl) (by decide) (by decide) d_Model_one_46 (fun u0 H locs hcq hP hD hS => ?_)
    exact join_49 (()) _ _ _ hP hD hS hl
  · skip
    refine lv_aload_n hx hb d_Model_one_16 rfl (lv_at hl 0 rfl) ?_
    refine lv_aload_n hx hb d_Model_one_17 rfl (lv_at hl 0 rfl) ?_
    refine pl_get X fw_Model_115 hK hP 0 rfl (v := .int (nI pl)) rfl d_Model_one_18 ?_
    refine pl_callVV X (rest := []) (As := [.int (nI pl)]) (b := m0) (c_Model_find l D cI cZ cL m0 o1 o2 o3 o4 o5 o6 o7 o8 o9 o10 o11 P K Hm ru lo hi tm sa ca ta tn fo1 fk1 co np n 1 how pl pl stt q dn th pl hn hnp hop hok hru (hO.1 g13).1) ck_Model_108 pl_E0_ok trivial hK hP hD hS hA (T := F_Model) (N := N_Model) (ci := 6) rfl 0 rfl [0, 1, 2, 3, 4, 5, 6] [7, 8, 9, 10] [4, 5, 6, 7, 8, 9, 10, 0, 1, 2, 3] rfl (by decide) (wr := [(o8, .inl (cI, 20, .inl sa)), (o9, .inl (cI, 8, .inl ca)), (o10, .inl (cI, 60, .inl ta)), (o11, .inl (cI, 60, .inl tn))]) rfl (by decide) (by decide) (wf := fun (uf : Int32 × Int32) => [(m0, .inr (6, [.int (nI co), .int (nI np), .ref o1, .ref o2, .ref o3, .int (nI n), .ref o4, .ref o5, .ref o6, .ref o7, .int uf.1, .int uf.2, .int (nI 1), .int (nI how), .int (nI pl), .int (nI pl), .int (nI stt), .int (nI q), .ref o8, .ref o9, .int (nI dn), .ref o10, .ref o11])), (o1, .inl (cI, 24, .inl P)), (o2, .inl (cI, 24, .inl K)), (o4, .inl (cZ, 32, .inl ru)), (o5, .inl (cI, 32, .inl lo)), (o6, .inl (cI, 32, .inl hi)), (o7, .inl (cI, 32, .inl tm)), (o8, .inl (cI, 20, .inl sa)), (o9, .inl (cI, 8, .inl ca)), (o10, .inl (cI, 60, .inl ta)), (o11, .inl (cI, 60, .inl tn))]) (fun _ => rfl) (by decide) rfl hl.1 rfl (Nat.le_of_ble_eq_true rfl) (by decide) (by decide) d_Model_one_21 (fun uf H locs hcq hP hD hS => ?_)
    obtain ⟨hc1, hc2⟩ := hcq
    have hu9 : uf = (nI 7, nI j) := Prod.ext (hc1.trans (hO.1 g13).2.1) (hc2.trans (hO.1 g13).2.2)
    subst hu9
    refine lv_goto hx hb d_Model_one_24 rfl ?_
    exact join_49 (()) _ _ _ hP hD hS hl

set_option maxHeartbeats 4000000 in
set_option maxRecDepth 100000 in
theorem c_Model_one_8 (l : Launch) (D : va_G) (cI cZ cL : ClassId) (m0 o1 o2 o3 o4 o5 o6 o7 o8 o9 o10 o11 : Nat) (P K Hm ru lo hi tm sa ca ta tn : Nat → Int32) (fo1 fk1 : Int32) (co np n stat how pl la stt q dn : Nat) (th : Nat → Int32) (j : Nat) (hn : n ≤ 4) (hnp : np ≤ 24) (hop : okP P np) (hok : okK P K np) (hru : rulR ru tm th) (hO : (how = 1 → pl < plc P K th n np ∧ (wO P K th n np).getD pl 0 = nI 8 ∧ (wK P K lo hi th n np).getD pl 0 = nI j) ∧ (¬ how = 1 → pl < np ∧ P pl = nI 8 ∧ K pl = nI j)) (hh : how ≤ 2) (hpl : pl < 2000) (hq : q < 20) : pl_V l y_Model_one b_Model_one 5 ({ frames := 4, cells := 0, slots := 0, locals := 91 } : Room) pl_E0 D classes (TY cI cZ cL) [.ref m0] [(m0, .inr (6, [.int (nI co), .int (nI np), .ref o1, .ref o2, .ref o3, .int (nI n), .ref o4, .ref o5, .ref o6, .ref o7, .int fo1, .int fk1, .int (nI 1), .int (nI how), .int (nI pl), .int (nI la), .int (nI stt), .int (nI (q + 1)), .ref o8, .ref o9, .int (nI dn), .ref o10, .ref o11])), (o1, .inl (cI, 24, .inl P)), (o2, .inl (cI, 24, .inl K)), (o4, .inl (cZ, 32, .inl ru)), (o5, .inl (cI, 32, .inl lo)), (o6, .inl (cI, 32, .inl hi)), (o7, .inl (cI, 32, .inl tm)), (o8, .inl (cI, 20, .inl sa)), (o9, .inl (cI, 8, .inl ca)), (o10, .inl (cI, 60, .inl ta)), (o11, .inl (cI, 60, .inl tn))] (fun u : Nat => u = if sa q = 0 then pl + 1 else j) (fun (u : Nat) => [(m0, .inr (6, [.int (nI co), .int (nI np), .ref o1, .ref o2, .ref o3, .int (nI n), .ref o4, .ref o5, .ref o6, .ref o7, .int (nI 8), .int (nI j), .int (nI 1), .int (nI how), .int (nI u), .int (nI pl), .int (nI stt), .int (nI q), .ref o8, .ref o9, .int (nI dn), .ref o10, .ref o11])), (o1, .inl (cI, 24, .inl P)), (o2, .inl (cI, 24, .inl K)), (o4, .inl (cZ, 32, .inl ru)), (o5, .inl (cI, 32, .inl lo)), (o6, .inl (cI, 32, .inl hi)), (o7, .inl (cI, 32, .inl tm)), (o8, .inl (cI, 20, .inl sa)), (o9, .inl (cI, 8, .inl ca)), (o10, .inl (cI, 60, .inl ta)), (o11, .inl (cI, 60, .inl tn))]) := by
  refine pl_startV (by decide) (Nat.le_of_ble_eq_true rfl) ?_
  intro p e s m args below meth c A ls X hr hlk hin hK hP hD hS hA hE hl
  have X : CallFix p m c b_Model_one 5 s args TG R_Model := X
  have hx := X.1
  have hb := X.2.1
  have hl : lv_has ls 5 [(0, .ref m0)] := hl
  have join_49 : ∀ (_ : Unit) (H : Heap) (locs : List Loc) (ls : Array Slot), va_P D classes [(m0, .inr (6, [.int (nI co), .int (nI np), .ref o1, .ref o2, .ref o3, .int (nI n), .ref o4, .ref o5, .ref o6, .ref o7, .int (nI 8), .int (nI j), .int (nI 1), .int (nI how), .int (nI pl), .int (nI pl), .int (nI stt), .int (nI (q + 1)), .ref o8, .ref o9, .int (nI dn), .ref o10, .ref o11])), (o1, .inl (cI, 24, .inl P)), (o2, .inl (cI, 24, .inl K)), (o4, .inl (cZ, 32, .inl ru)), (o5, .inl (cI, 32, .inl lo)), (o6, .inl (cI, 32, .inl hi)), (o7, .inl (cI, 32, .inl tm)), (o8, .inl (cI, 20, .inl sa)), (o9, .inl (cI, 8, .inl ca)), (o10, .inl (cI, 60, .inl ta)), (o11, .inl (cI, 60, .inl tn))] H → va_D A [(m0, .inr (6, [.int (nI co), .int (nI np), .ref o1, .ref o2, .ref o3, .int (nI n), .ref o4, .ref o5, .ref o6, .ref o7, .int (nI 8), .int (nI j), .int (nI 1), .int (nI how), .int (nI pl), .int (nI pl), .int (nI stt), .int (nI (q + 1)), .ref o8, .ref o9, .int (nI dn), .ref o10, .ref o11])), (o1, .inl (cI, 24, .inl P)), (o2, .inl (cI, 24, .inl K)), (o4, .inl (cZ, 32, .inl ru)), (o5, .inl (cI, 32, .inl lo)), (o6, .inl (cI, 32, .inl hi)), (o7, .inl (cI, 32, .inl tm)), (o8, .inl (cI, 20, .inl sa)), (o9, .inl (cI, 8, .inl ca)), (o10, .inl (cI, 60, .inl ta)), (o11, .inl (cI, 60, .inl tn))] → va_S A s.heap H locs → lv_has ls 5 [(0, .ref m0)] → W p l e ({ frames := 4, cells := 0, slots := 0, locals := 91 } : Room) s m args below meth c H locs 0 0 (MQ below (va_Qv (fun u : Nat => u = if sa q = 0 then pl + 1 else j) (fun u => pl_out D classes (TY cI cZ cL) A ((fun (u : Nat) => [(m0, .inr (6, [.int (nI co), .int (nI np), .ref o1, .ref o2, .ref o3, .int (nI n), .ref o4, .ref o5, .ref o6, .ref o7, .int (nI 8), .int (nI j), .int (nI 1), .int (nI how), .int (nI u), .int (nI pl), .int (nI stt), .int (nI q), .ref o8, .ref o9, .int (nI dn), .ref o10, .ref o11])), (o1, .inl (cI, 24, .inl P)), (o2, .inl (cI, 24, .inl K)), (o4, .inl (cZ, 32, .inl ru)), (o5, .inl (cI, 32, .inl lo)), (o6, .inl (cI, 32, .inl hi)), (o7, .inl (cI, 32, .inl tm)), (o8, .inl (cI, 20, .inl sa)), (o9, .inl (cI, 8, .inl ca)), (o10, .inl (cI, 60, .inl ta)), (o11, .inl (cI, 60, .inl tn))]) u)) A) args s 0 0 A) (F0 m 49 ls []) := by
    intro _ H locs ls hP hD hS hl
    refine lv_aload_n hx hb d_Model_one_49 rfl (lv_at hl 0 rfl) ?_
    refine pl_get X fw_Model_91 hK hP 0 rfl (v := .int (nI 8)) rfl d_Model_one_50 ?_
    refine lv_istore_n hx hb d_Model_one_53 rfl hl (by decide) (lv' := [(1, .int (nI 8)), (0, .ref m0)]) rfl (fun ls hl => ?_)
    refine lv_aload_n hx hb d_Model_one_54 rfl (lv_at hl 1 rfl) ?_
    refine pl_get X fw_Model_94 hK hP 0 rfl (v := .int (nI j)) rfl d_Model_one_55 ?_
    refine lv_istore_n hx hb d_Model_one_58 rfl hl (by decide) (lv' := [(2, .int (nI j)), (1, .int (nI 8)), (0, .ref m0)]) rfl (fun ls hl => ?_)
    refine lv_aload_n hx hb d_Model_one_59 rfl (lv_at hl 2 rfl) ?_
    refine lv_dup hx hb d_Model_one_60 rfl ?_
    refine pl_get X fw_Model_115 hK hP 0 rfl (v := .int (nI pl)) rfl d_Model_one_61 ?_
    refine lv_iconst (v := nI 1) hx hb d_Model_one_64 (by decide) ?_
    refine pl_iadd X d_Model_one_65 (z := nI (pl + 1)) (nI_add _ _) ?_
    refine pl_put X fw_Model_115 fp_Model rfl hK hP hD hS 0 rfl (v := .int (nI (pl + 1))) rfl rfl (Nat.le_of_ble_eq_true rfl) d_Model_one_66 (ws' := [(m0, .inr (6, [.int (nI co), .int (nI np), .ref o1, .ref o2, .ref o3, .int (nI n), .ref o4, .ref o5, .ref o6, .ref o7, .int (nI 8), .int (nI j), .int (nI 1), .int (nI how), .int (nI (pl + 1)), .int (nI pl), .int (nI stt), .int (nI (q + 1)), .ref o8, .ref o9, .int (nI dn), .ref o10, .ref o11])), (o1, .inl (cI, 24, .inl P)), (o2, .inl (cI, 24, .inl K)), (o4, .inl (cZ, 32, .inl ru)), (o5, .inl (cI, 32, .inl lo)), (o6, .inl (cI, 32, .inl hi)), (o7, .inl (cI, 32, .inl tm)), (o8, .inl (cI, 20, .inl sa)), (o9, .inl (cI, 8, .inl ca)), (o10, .inl (cI, 60, .inl ta)), (o11, .inl (cI, 60, .inl tn))]) rfl (fun H locs hP hD hS => ?_)
    refine lv_iload_n hx hb d_Model_one_69 rfl (lv_at hl 1 rfl) ?_
    refine pl_callSI X (rest := []) (As := [.int (nI 8)]) (c_Model_takes_8 l D cI cZ cL) ck_Model_71 pl_E0_ok trivial hK hP hD hS hA [] [0, 1, 2, 3, 4, 5, 6, 7, 8, 9, 10] [0, 1, 2, 3, 4, 5, 6, 7, 8, 9, 10] rfl (by decide) (wr := [(m0, .inr (6, [.int (nI co), .int (nI np), .ref o1, .ref o2, .ref o3, .int (nI n), .ref o4, .ref o5, .ref o6, .ref o7, .int (nI 8), .int (nI j), .int (nI 1), .int (nI how), .int (nI (pl + 1)), .int (nI pl), .int (nI stt), .int (nI (q + 1)), .ref o8, .ref o9, .int (nI dn), .ref o10, .ref o11])), (o1, .inl (cI, 24, .inl P)), (o2, .inl (cI, 24, .inl K)), (o4, .inl (cZ, 32, .inl ru)), (o5, .inl (cI, 32, .inl lo)), (o6, .inl (cI, 32, .inl hi)), (o7, .inl (cI, 32, .inl tm)), (o8, .inl (cI, 20, .inl sa)), (o9, .inl (cI, 8, .inl ca)), (o10, .inl (cI, 60, .inl ta)), (o11, .inl (cI, 60, .inl tn))]) rfl (by decide) (by decide) (wf := fun _ => [(m0, .inr (6, [.int (nI co), .int (nI np), .ref o1, .ref o2, .ref o3, .int (nI n), .ref o4, .ref o5, .ref o6, .ref o7, .int (nI 8), .int (nI j), .int (nI 1), .int (nI how), .int (nI (pl + 1)), .int (nI pl), .int (nI stt), .int (nI (q + 1)), .ref o8, .ref o9, .int (nI dn), .ref o10, .ref o11])), (o1, .inl (cI, 24, .inl P)), (o2, .inl (cI, 24, .inl K)), (o4, .inl (cZ, 32, .inl ru)), (o5, .inl (cI, 32, .inl lo)), (o6, .inl (cI, 32, .inl hi)), (o7, .inl (cI, 32, .inl tm)), (o8, .inl (cI, 20, .inl sa)), (o9, .inl (cI, 8, .inl ca)), (o10, .inl (cI, 60, .inl ta)), (o11, .inl (cI, 60, .inl tn))]) (fun _ => rfl) (by decide) rfl hl.1 rfl (Nat.le_of_ble_eq_true rfl) (by decide) (by decide) d_Model_one_70 (fun r u0 H locs hcq hP hD hS => ?_)
    subst hcq
    refine lv_iconst (v := nI 2) hx hb d_Model_one_73 (by decide) ?_
    refine pl_icmp_ne X (by decide) (by decide) d_Model_one_74 rfl (fun gL => ?_) (fun gL => ?_)
    · skip
      refine lv_iconst (v := nI 0) hx hb d_Model_one_84 (by decide) ?_
      refine lv_istore_n hx hb d_Model_one_85 rfl hl (by decide) (lv' := [(3, .int (nI 0)), (2, .int (nI j)), (1, .int (nI 8)), (0, .ref m0)]) rfl (fun ls hl => ?_)
      refine lv_iload_n hx hb d_Model_one_86 rfl (lv_at hl 2 rfl) ?_
      refine lv_iconst (v := nI 2) hx hb d_Model_one_87 (by decide) ?_
      refine pl_icmp_eq X (by decide) (by decide) d_Model_one_88 rfl (fun gL => ?_) (fun gL => ?_)
      · skip
        exact absurd gL (by decide)
      · skip
        refine lv_iload_n hx hb d_Model_one_91 rfl (lv_at hl 2 rfl) ?_
        refine lv_iconst (v := nI 3) hx hb d_Model_one_92 (by decide) ?_
        refine pl_icmp_eq X (by decide) (by decide) d_Model_one_93 rfl (fun gL => ?_) (fun gL => ?_)
        · skip
          exact absurd gL (by decide)
        · skip
          refine lv_iload_n hx hb d_Model_one_96 rfl (lv_at hl 2 rfl) ?_
          refine lv_iconst (v := nI 4) hx hb d_Model_one_97 (by decide) ?_
          refine pl_icmp_eq X (by decide) (by decide) d_Model_one_98 rfl (fun gL => ?_) (fun gL => ?_)
          · skip
            exact absurd gL (by decide)
          · skip
            refine lv_iload_n hx hb d_Model_one_101 rfl (lv_at hl 2 rfl) ?_
            refine lv_bipush (v := nI 10) hx hb d_Model_one_102 (by decide) ?_
            refine pl_icmp_ne X (by decide) (by decide) d_Model_one_104 rfl (fun gL => ?_) (fun gL => ?_)
            · skip
              refine lv_iconst (v := nI 0) hx hb d_Model_one_114 (by decide) ?_
              refine lv_istore hx hb d_Model_one_115 hl (by decide) (lv' := [(4, .int (nI 0)), (3, .int (nI 0)), (2, .int (nI j)), (1, .int (nI 8)), (0, .ref m0)]) rfl (fun ls hl => ?_)
              refine lv_iload_n hx hb d_Model_one_117 rfl (lv_at hl 3 rfl) ?_
              refine lv_tableIn hx hb d_Model_one_118 (by decide) (by decide) (off := 157) (by decide) (tgt := 275) rfl ?_
              refine lv_aload_n hx hb d_Model_one_275 rfl (lv_at hl 4 rfl) ?_
              refine lv_aload_n hx hb d_Model_one_276 rfl (lv_at hl 4 rfl) ?_
              refine pl_callVI X (rest := [.ref m0]) (As := []) (b := m0) (c_Model_pop l D cI cZ cL m0 o1 o2 o3 o4 o5 o6 o7 o8 o9 o10 o11 P K Hm ru lo hi tm sa ca ta tn (nI 8) (nI j) co np n 1 how (pl + 1) pl stt q dn (by omega)) ck_Model_130 pl_E0_ok trivial hK hP hD hS hA (T := F_Model) (N := N_Model) (ci := 6) rfl 0 rfl [0, 7] [1, 2, 3, 4, 5, 6, 8, 9, 10] [9, 0, 1, 2, 3, 4, 5, 10, 6, 7, 8] rfl (by decide) (wr := [(o1, .inl (cI, 24, .inl P)), (o2, .inl (cI, 24, .inl K)), (o4, .inl (cZ, 32, .inl ru)), (o5, .inl (cI, 32, .inl lo)), (o6, .inl (cI, 32, .inl hi)), (o7, .inl (cI, 32, .inl tm)), (o9, .inl (cI, 8, .inl ca)), (o10, .inl (cI, 60, .inl ta)), (o11, .inl (cI, 60, .inl tn))]) rfl (by decide) (by decide) (wf := fun _ => [(m0, .inr (6, [.int (nI co), .int (nI np), .ref o1, .ref o2, .ref o3, .int (nI n), .ref o4, .ref o5, .ref o6, .ref o7, .int (nI 8), .int (nI j), .int (nI 1), .int (nI how), .int (nI (pl + 1)), .int (nI pl), .int (nI stt), .int (nI q), .ref o8, .ref o9, .int (nI dn), .ref o10, .ref o11])), (o1, .inl (cI, 24, .inl P)), (o2, .inl (cI, 24, .inl K)), (o4, .inl (cZ, 32, .inl ru)), (o5, .inl (cI, 32, .inl lo)), (o6, .inl (cI, 32, .inl hi)), (o7, .inl (cI, 32, .inl tm)), (o8, .inl (cI, 20, .inl sa)), (o9, .inl (cI, 8, .inl ca)), (o10, .inl (cI, 60, .inl ta)), (o11, .inl (cI, 60, .inl tn))]) (fun _ => rfl) (by decide) rfl hl.1 rfl (Nat.le_of_ble_eq_true rfl) (by decide) (by decide) d_Model_one_277 (fun r u0 H locs hcq hP hD hS => ?_)
              subst hcq
              refine lv_if_eq hx hb d_Model_one_280 rfl (fun g280 => ?_) (fun g280 => ?_)
              · skip
                refine lv_aload_n hx hb d_Model_one_287 rfl (lv_at hl 4 rfl) ?_
                refine pl_get X fw_Model_115 hK hP 0 rfl (v := .int (nI (pl + 1))) rfl d_Model_one_288 ?_
                refine pl_put X fw_Model_115 fp_Model rfl hK hP hD hS 0 rfl (v := .int (nI (pl + 1))) rfl rfl (Nat.le_of_ble_eq_true rfl) d_Model_one_291 (ws' := [(m0, .inr (6, [.int (nI co), .int (nI np), .ref o1, .ref o2, .ref o3, .int (nI n), .ref o4, .ref o5, .ref o6, .ref o7, .int (nI 8), .int (nI j), .int (nI 1), .int (nI how), .int (nI (pl + 1)), .int (nI pl), .int (nI stt), .int (nI q), .ref o8, .ref o9, .int (nI dn), .ref o10, .ref o11])), (o1, .inl (cI, 24, .inl P)), (o2, .inl (cI, 24, .inl K)), (o4, .inl (cZ, 32, .inl ru)), (o5, .inl (cI, 32, .inl lo)), (o6, .inl (cI, 32, .inl hi)), (o7, .inl (cI, 32, .inl tm)), (o8, .inl (cI, 20, .inl sa)), (o9, .inl (cI, 8, .inl ca)), (o10, .inl (cI, 60, .inl ta)), (o11, .inl (cI, 60, .inl tn))]) rfl (fun H locs hP hD hS => ?_)
                refine lv_goto hx hb d_Model_one_294 rfl ?_
                exact pl_vret X hr hlk hK (pl + 1) (by rw [if_pos g280]) hP hD hS d_Model_one_342
              · skip
                refine lv_iload_n hx hb d_Model_one_283 rfl (lv_at hl 2 rfl) ?_
                refine lv_goto hx hb d_Model_one_284 rfl ?_
                refine pl_put X fw_Model_115 fp_Model rfl hK hP hD hS 0 rfl (v := .int (nI j)) rfl rfl (Nat.le_of_ble_eq_true rfl) d_Model_one_291 (ws' := [(m0, .inr (6, [.int (nI co), .int (nI np), .ref o1, .ref o2, .ref o3, .int (nI n), .ref o4, .ref o5, .ref o6, .ref o7, .int (nI 8), .int (nI j), .int (nI 1), .int (nI how), .int (nI j), .int (nI pl), .int (nI stt), .int (nI q), .ref o8, .ref o9, .int (nI dn), .ref o10, .ref o11])), (o1, .inl (cI, 24, .inl P)), (o2, .inl (cI, 24, .inl K)), (o4, .inl (cZ, 32, .inl ru)), (o5, .inl (cI, 32, .inl lo)), (o6, .inl (cI, 32, .inl hi)), (o7, .inl (cI, 32, .inl tm)), (o8, .inl (cI, 20, .inl sa)), (o9, .inl (cI, 8, .inl ca)), (o10, .inl (cI, 60, .inl ta)), (o11, .inl (cI, 60, .inl tn))]) rfl (fun H locs hP hD hS => ?_)
                refine lv_goto hx hb d_Model_one_294 rfl ?_
                exact pl_vret X hr hlk hK j (by rw [if_neg g280]) hP hD hS d_Model_one_342
            · skip
              exact absurd gL (by decide)
    · skip
      exact absurd gL (by decide)
  refine lv_aload_n hx hb d_Model_one_0 rfl (lv_at hl 0 rfl) ?_
  refine lv_aload_n hx hb d_Model_one_1 rfl (lv_at hl 0 rfl) ?_
  refine pl_get X fw_Model_115 hK hP 0 rfl (v := .int (nI pl)) rfl d_Model_one_2 ?_
  refine pl_put X fw_Model_118 fp_Model rfl hK hP hD hS 0 rfl (v := .int (nI pl)) rfl rfl (Nat.le_of_ble_eq_true rfl) d_Model_one_5 (ws' := [(m0, .inr (6, [.int (nI co), .int (nI np), .ref o1, .ref o2, .ref o3, .int (nI n), .ref o4, .ref o5, .ref o6, .ref o7, .int fo1, .int fk1, .int (nI 1), .int (nI how), .int (nI pl), .int (nI pl), .int (nI stt), .int (nI (q + 1)), .ref o8, .ref o9, .int (nI dn), .ref o10, .ref o11])), (o1, .inl (cI, 24, .inl P)), (o2, .inl (cI, 24, .inl K)), (o4, .inl (cZ, 32, .inl ru)), (o5, .inl (cI, 32, .inl lo)), (o6, .inl (cI, 32, .inl hi)), (o7, .inl (cI, 32, .inl tm)), (o8, .inl (cI, 20, .inl sa)), (o9, .inl (cI, 8, .inl ca)), (o10, .inl (cI, 60, .inl ta)), (o11, .inl (cI, 60, .inl tn))]) rfl (fun H locs hP hD hS => ?_)
  refine lv_aload_n hx hb d_Model_one_8 rfl (lv_at hl 0 rfl) ?_
  refine pl_get X fw_Model_112 hK hP 0 rfl (v := .int (nI how)) rfl d_Model_one_9 ?_
  refine lv_iconst (v := nI 1) hx hb d_Model_one_12 (by decide) ?_
  refine pl_icmp_ne X (by omega) (by decide) d_Model_one_13 rfl (fun g13 => ?_) (fun g13 => ?_)
  · skip
    refine lv_aload_n hx hb d_Model_one_27 rfl (lv_at hl 0 rfl) ?_
    refine lv_aload_n hx hb d_Model_one_28 rfl (lv_at hl 0 rfl) ?_
    refine pl_get X fw_Model_7 hK hP 0 rfl (v := .ref o1) rfl d_Model_one_29 ?_
    refine lv_aload_n hx hb d_Model_one_32 rfl (lv_at hl 0 rfl) ?_
    refine pl_get X fw_Model_115 hK hP 0 rfl (v := .int (nI pl)) rfl d_Model_one_33 ?_
    refine pl_iald X hK hP 1 0 rfl rfl pl (by have := (hO.2 g13).1; omega) (by decide) (z := nI 8) (hO.2 g13).2.1 d_Model_one_36 ?_
    refine lv_aload_n hx hb d_Model_one_37 rfl (lv_at hl 0 rfl) ?_
    refine pl_get X fw_Model_13 hK hP 0 rfl (v := .ref o2) rfl d_Model_one_38 ?_
    refine lv_aload_n hx hb d_Model_one_41 rfl (lv_at hl 0 rfl) ?_
    refine pl_get X fw_Model_115 hK hP 0 rfl (v := .int (nI pl)) rfl d_Model_one_42 ?_
    refine pl_iald X hK hP 2 0 rfl rfl pl (by have := (hO.2 g13).1; omega) (by decide) (z := nI j) (hO.2 g13).2.2 d_Model_one_45 ?_
    refine pl_callVV X (rest := []) (As := [.int (nI 8), .int (nI j)]) (b := m0) (c_Model_set l D cI cZ cL m0 o1 o2 o3 o4 o5 o6 o7 o8 o9 o10 o11 P K Hm ru lo hi tm sa ca ta tn fo1 fk1 co np n 1 how pl pl stt (q + 1) dn (nI 8) (nI j)) ck_Model_100 pl_E0_ok trivial hK hP hD hS hA (T := F_Model) (N := N_Model) (ci := 6) rfl 0 rfl [0] [1, 2, 3, 4, 5, 6, 7, 8, 9, 10] [10, 0, 1, 2, 3, 4, 5, 6, 7, 8, 9] rfl (by decide) (wr := [(o1, .inl (cI, 24, .inl P)), (o2, .inl (cI, 24, .inl K)), (o4, .inl (cZ, 32, .inl ru)), (o5, .inl (cI, 32, .inl lo)), (o6, .inl (cI, 32, .inl hi)), (o7, .inl (cI, 32, .inl tm)), (o8, .inl (cI, 20, .inl sa)), (o9, .inl (cI, 8, .inl ca)), (o10, .inl (cI, 60, .inl ta)), (o11, .inl (cI, 60, .inl tn))]) rfl (by decide) (by decide) (wf := fun _ => [(m0, .inr (6, [.int (nI co), .int (nI np), .ref o1, .ref o2, .ref o3, .int (nI n), .ref o4, .ref o5, .ref o6, .ref o7, .int (nI 8), .int (nI j), .int (nI 1), .int (nI how), .int (nI pl), .int (nI pl), .int (nI stt), .int (nI (q + 1)), .ref o8, .ref o9, .int (nI dn), .ref o10, .ref o11])), (o1, .inl (cI, 24, .inl P)), (o2, .inl (cI, 24, .inl K)), (o4, .inl (cZ, 32, .inl ru)), (o5, .inl (cI, 32, .inl lo)), (o6, .inl (cI, 32, .inl hi)), (o7, .inl (cI, 32, .inl tm)), (o8, .inl (cI, 20, .inl sa)), (o9, .inl (cI, 8, .inl ca)), (o10, .inl (cI, 60, .inl ta)), (o11, .inl (cI, 60, .inl tn))]) (fun _ => rfl) (by decide) rfl hl.1 rfl (Nat.le_of_ble_eq_true rfl) (by decide) (by decide) d_Model_one_46 (fun u0 H locs hcq hP hD hS => ?_)
    exact join_49 (()) _ _ _ hP hD hS hl
  · skip
    refine lv_aload_n hx hb d_Model_one_16 rfl (lv_at hl 0 rfl) ?_
    refine lv_aload_n hx hb d_Model_one_17 rfl (lv_at hl 0 rfl) ?_
    refine pl_get X fw_Model_115 hK hP 0 rfl (v := .int (nI pl)) rfl d_Model_one_18 ?_
    refine pl_callVV X (rest := []) (As := [.int (nI pl)]) (b := m0) (c_Model_find l D cI cZ cL m0 o1 o2 o3 o4 o5 o6 o7 o8 o9 o10 o11 P K Hm ru lo hi tm sa ca ta tn fo1 fk1 co np n 1 how pl pl stt (q + 1) dn th pl hn hnp hop hok hru (hO.1 g13).1) ck_Model_108 pl_E0_ok trivial hK hP hD hS hA (T := F_Model) (N := N_Model) (ci := 6) rfl 0 rfl [0, 1, 2, 3, 4, 5, 6] [7, 8, 9, 10] [4, 5, 6, 7, 8, 9, 10, 0, 1, 2, 3] rfl (by decide) (wr := [(o8, .inl (cI, 20, .inl sa)), (o9, .inl (cI, 8, .inl ca)), (o10, .inl (cI, 60, .inl ta)), (o11, .inl (cI, 60, .inl tn))]) rfl (by decide) (by decide) (wf := fun (uf : Int32 × Int32) => [(m0, .inr (6, [.int (nI co), .int (nI np), .ref o1, .ref o2, .ref o3, .int (nI n), .ref o4, .ref o5, .ref o6, .ref o7, .int uf.1, .int uf.2, .int (nI 1), .int (nI how), .int (nI pl), .int (nI pl), .int (nI stt), .int (nI (q + 1)), .ref o8, .ref o9, .int (nI dn), .ref o10, .ref o11])), (o1, .inl (cI, 24, .inl P)), (o2, .inl (cI, 24, .inl K)), (o4, .inl (cZ, 32, .inl ru)), (o5, .inl (cI, 32, .inl lo)), (o6, .inl (cI, 32, .inl hi)), (o7, .inl (cI, 32, .inl tm)), (o8, .inl (cI, 20, .inl sa)), (o9, .inl (cI, 8, .inl ca)), (o10, .inl (cI, 60, .inl ta)), (o11, .inl (cI, 60, .inl tn))]) (fun _ => rfl) (by decide) rfl hl.1 rfl (Nat.le_of_ble_eq_true rfl) (by decide) (by decide) d_Model_one_21 (fun uf H locs hcq hP hD hS => ?_)
    obtain ⟨hc1, hc2⟩ := hcq
    have hu9 : uf = (nI 8, nI j) := Prod.ext (hc1.trans (hO.1 g13).2.1) (hc2.trans (hO.1 g13).2.2)
    subst hu9
    refine lv_goto hx hb d_Model_one_24 rfl ?_
    exact join_49 (()) _ _ _ hP hD hS hl

set_option maxHeartbeats 4000000 in
set_option maxRecDepth 100000 in
theorem c_Model_one_9 (l : Launch) (D : va_G) (cI cZ cL : ClassId) (m0 o1 o2 o3 o4 o5 o6 o7 o8 o9 o10 o11 : Nat) (P K Hm ru lo hi tm sa ca ta tn : Nat → Int32) (fo1 fk1 : Int32) (co np n stat how pl la stt q dn : Nat) (th : Nat → Int32) (j : Nat) (hn : n ≤ 4) (hnp : np ≤ 24) (hop : okP P np) (hok : okK P K np) (hru : rulR ru tm th) (hO : (how = 1 → pl < plc P K th n np ∧ (wO P K th n np).getD pl 0 = nI 9 ∧ (wK P K lo hi th n np).getD pl 0 = nI j) ∧ (¬ how = 1 → pl < np ∧ P pl = nI 9 ∧ K pl = nI j)) (hh : how ≤ 2) (hpl : pl < 2000) (hq : q < 20) (hs : stt < 4) (hj : j < 8) (hd : dn ≤ 60) (hth : ¬ th (stt * 8 + j) = -1 → th (stt * 8 + j) = nI (th (stt * 8 + j)).toNatClampNeg) : pl_V l y_Model_one b_Model_one 5 ({ frames := 4, cells := 0, slots := 0, locals := 91 } : Room) pl_E0 D classes (TY cI cZ cL) [.ref m0] [(m0, .inr (6, [.int (nI co), .int (nI np), .ref o1, .ref o2, .ref o3, .int (nI n), .ref o4, .ref o5, .ref o6, .ref o7, .int fo1, .int fk1, .int (nI 1), .int (nI how), .int (nI pl), .int (nI la), .int (nI stt), .int (nI (q + 1)), .ref o8, .ref o9, .int (nI dn), .ref o10, .ref o11])), (o1, .inl (cI, 24, .inl P)), (o2, .inl (cI, 24, .inl K)), (o4, .inl (cZ, 32, .inl ru)), (o5, .inl (cI, 32, .inl lo)), (o6, .inl (cI, 32, .inl hi)), (o7, .inl (cI, 32, .inl tm)), (o8, .inl (cI, 20, .inl sa)), (o9, .inl (cI, 8, .inl ca)), (o10, .inl (cI, 60, .inl ta)), (o11, .inl (cI, 60, .inl tn))] (fun u : RSa => u = actS how (okA lo hi th (stt * 8 + j) (sa q)) pl q stt dn (th (stt * 8 + j)).toNatClampNeg j (sa q) ta tn) (fun (u : RSa) => [(m0, .inr (6, [.int (nI co), .int (nI np), .ref o1, .ref o2, .ref o3, .int (nI n), .ref o4, .ref o5, .ref o6, .ref o7, .int (nI 9), .int (nI j), .int (nI u.1), .int (nI how), .int (nI (pl + 1)), .int (nI pl), .int (nI u.2.2.2.1), .int (nI u.2.2.1), .ref o8, .ref o9, .int (nI u.2.2.2.2.1), .ref o10, .ref o11])), (o1, .inl (cI, 24, .inl P)), (o2, .inl (cI, 24, .inl K)), (o4, .inl (cZ, 32, .inl ru)), (o5, .inl (cI, 32, .inl lo)), (o6, .inl (cI, 32, .inl hi)), (o7, .inl (cI, 32, .inl tm)), (o8, .inl (cI, 20, .inl sa)), (o9, .inl (cI, 8, .inl ca)), (o10, .inl (cI, 60, .inl u.2.2.2.2.2.1)), (o11, .inl (cI, 60, .inl u.2.2.2.2.2.2))]) := by
  refine pl_startV (by decide) (Nat.le_of_ble_eq_true rfl) ?_
  intro p e s m args below meth c A ls X hr hlk hin hK hP hD hS hA hE hl
  have X : CallFix p m c b_Model_one 5 s args TG R_Model := X
  have hx := X.1
  have hb := X.2.1
  have hl : lv_has ls 5 [(0, .ref m0)] := hl
  have join_49 : ∀ (_ : Unit) (H : Heap) (locs : List Loc) (ls : Array Slot), va_P D classes [(m0, .inr (6, [.int (nI co), .int (nI np), .ref o1, .ref o2, .ref o3, .int (nI n), .ref o4, .ref o5, .ref o6, .ref o7, .int (nI 9), .int (nI j), .int (nI 1), .int (nI how), .int (nI pl), .int (nI pl), .int (nI stt), .int (nI (q + 1)), .ref o8, .ref o9, .int (nI dn), .ref o10, .ref o11])), (o1, .inl (cI, 24, .inl P)), (o2, .inl (cI, 24, .inl K)), (o4, .inl (cZ, 32, .inl ru)), (o5, .inl (cI, 32, .inl lo)), (o6, .inl (cI, 32, .inl hi)), (o7, .inl (cI, 32, .inl tm)), (o8, .inl (cI, 20, .inl sa)), (o9, .inl (cI, 8, .inl ca)), (o10, .inl (cI, 60, .inl ta)), (o11, .inl (cI, 60, .inl tn))] H → va_D A [(m0, .inr (6, [.int (nI co), .int (nI np), .ref o1, .ref o2, .ref o3, .int (nI n), .ref o4, .ref o5, .ref o6, .ref o7, .int (nI 9), .int (nI j), .int (nI 1), .int (nI how), .int (nI pl), .int (nI pl), .int (nI stt), .int (nI (q + 1)), .ref o8, .ref o9, .int (nI dn), .ref o10, .ref o11])), (o1, .inl (cI, 24, .inl P)), (o2, .inl (cI, 24, .inl K)), (o4, .inl (cZ, 32, .inl ru)), (o5, .inl (cI, 32, .inl lo)), (o6, .inl (cI, 32, .inl hi)), (o7, .inl (cI, 32, .inl tm)), (o8, .inl (cI, 20, .inl sa)), (o9, .inl (cI, 8, .inl ca)), (o10, .inl (cI, 60, .inl ta)), (o11, .inl (cI, 60, .inl tn))] → va_S A s.heap H locs → lv_has ls 5 [(0, .ref m0)] → W p l e ({ frames := 4, cells := 0, slots := 0, locals := 91 } : Room) s m args below meth c H locs 0 0 (MQ below (va_Qv (fun u : RSa => u = actS how (okA lo hi th (stt * 8 + j) (sa q)) pl q stt dn (th (stt * 8 + j)).toNatClampNeg j (sa q) ta tn) (fun u => pl_out D classes (TY cI cZ cL) A ((fun (u : RSa) => [(m0, .inr (6, [.int (nI co), .int (nI np), .ref o1, .ref o2, .ref o3, .int (nI n), .ref o4, .ref o5, .ref o6, .ref o7, .int (nI 9), .int (nI j), .int (nI u.1), .int (nI how), .int (nI (pl + 1)), .int (nI pl), .int (nI u.2.2.2.1), .int (nI u.2.2.1), .ref o8, .ref o9, .int (nI u.2.2.2.2.1), .ref o10, .ref o11])), (o1, .inl (cI, 24, .inl P)), (o2, .inl (cI, 24, .inl K)), (o4, .inl (cZ, 32, .inl ru)), (o5, .inl (cI, 32, .inl lo)), (o6, .inl (cI, 32, .inl hi)), (o7, .inl (cI, 32, .inl tm)), (o8, .inl (cI, 20, .inl sa)), (o9, .inl (cI, 8, .inl ca)), (o10, .inl (cI, 60, .inl u.2.2.2.2.2.1)), (o11, .inl (cI, 60, .inl u.2.2.2.2.2.2))]) u)) A) args s 0 0 A) (F0 m 49 ls []) := by
    intro _ H locs ls hP hD hS hl
    refine lv_aload_n hx hb d_Model_one_49 rfl (lv_at hl 0 rfl) ?_
    refine pl_get X fw_Model_91 hK hP 0 rfl (v := .int (nI 9)) rfl d_Model_one_50 ?_
    refine lv_istore_n hx hb d_Model_one_53 rfl hl (by decide) (lv' := [(1, .int (nI 9)), (0, .ref m0)]) rfl (fun ls hl => ?_)
    refine lv_aload_n hx hb d_Model_one_54 rfl (lv_at hl 1 rfl) ?_
    refine pl_get X fw_Model_94 hK hP 0 rfl (v := .int (nI j)) rfl d_Model_one_55 ?_
    refine lv_istore_n hx hb d_Model_one_58 rfl hl (by decide) (lv' := [(2, .int (nI j)), (1, .int (nI 9)), (0, .ref m0)]) rfl (fun ls hl => ?_)
    refine lv_aload_n hx hb d_Model_one_59 rfl (lv_at hl 2 rfl) ?_
    refine lv_dup hx hb d_Model_one_60 rfl ?_
    refine pl_get X fw_Model_115 hK hP 0 rfl (v := .int (nI pl)) rfl d_Model_one_61 ?_
    refine lv_iconst (v := nI 1) hx hb d_Model_one_64 (by decide) ?_
    refine pl_iadd X d_Model_one_65 (z := nI (pl + 1)) (nI_add _ _) ?_
    refine pl_put X fw_Model_115 fp_Model rfl hK hP hD hS 0 rfl (v := .int (nI (pl + 1))) rfl rfl (Nat.le_of_ble_eq_true rfl) d_Model_one_66 (ws' := [(m0, .inr (6, [.int (nI co), .int (nI np), .ref o1, .ref o2, .ref o3, .int (nI n), .ref o4, .ref o5, .ref o6, .ref o7, .int (nI 9), .int (nI j), .int (nI 1), .int (nI how), .int (nI (pl + 1)), .int (nI pl), .int (nI stt), .int (nI (q + 1)), .ref o8, .ref o9, .int (nI dn), .ref o10, .ref o11])), (o1, .inl (cI, 24, .inl P)), (o2, .inl (cI, 24, .inl K)), (o4, .inl (cZ, 32, .inl ru)), (o5, .inl (cI, 32, .inl lo)), (o6, .inl (cI, 32, .inl hi)), (o7, .inl (cI, 32, .inl tm)), (o8, .inl (cI, 20, .inl sa)), (o9, .inl (cI, 8, .inl ca)), (o10, .inl (cI, 60, .inl ta)), (o11, .inl (cI, 60, .inl tn))]) rfl (fun H locs hP hD hS => ?_)
    refine lv_iload_n hx hb d_Model_one_69 rfl (lv_at hl 1 rfl) ?_
    refine pl_callSI X (rest := []) (As := [.int (nI 9)]) (c_Model_takes_9 l D cI cZ cL) ck_Model_71 pl_E0_ok trivial hK hP hD hS hA [] [0, 1, 2, 3, 4, 5, 6, 7, 8, 9, 10] [0, 1, 2, 3, 4, 5, 6, 7, 8, 9, 10] rfl (by decide) (wr := [(m0, .inr (6, [.int (nI co), .int (nI np), .ref o1, .ref o2, .ref o3, .int (nI n), .ref o4, .ref o5, .ref o6, .ref o7, .int (nI 9), .int (nI j), .int (nI 1), .int (nI how), .int (nI (pl + 1)), .int (nI pl), .int (nI stt), .int (nI (q + 1)), .ref o8, .ref o9, .int (nI dn), .ref o10, .ref o11])), (o1, .inl (cI, 24, .inl P)), (o2, .inl (cI, 24, .inl K)), (o4, .inl (cZ, 32, .inl ru)), (o5, .inl (cI, 32, .inl lo)), (o6, .inl (cI, 32, .inl hi)), (o7, .inl (cI, 32, .inl tm)), (o8, .inl (cI, 20, .inl sa)), (o9, .inl (cI, 8, .inl ca)), (o10, .inl (cI, 60, .inl ta)), (o11, .inl (cI, 60, .inl tn))]) rfl (by decide) (by decide) (wf := fun _ => [(m0, .inr (6, [.int (nI co), .int (nI np), .ref o1, .ref o2, .ref o3, .int (nI n), .ref o4, .ref o5, .ref o6, .ref o7, .int (nI 9), .int (nI j), .int (nI 1), .int (nI how), .int (nI (pl + 1)), .int (nI pl), .int (nI stt), .int (nI (q + 1)), .ref o8, .ref o9, .int (nI dn), .ref o10, .ref o11])), (o1, .inl (cI, 24, .inl P)), (o2, .inl (cI, 24, .inl K)), (o4, .inl (cZ, 32, .inl ru)), (o5, .inl (cI, 32, .inl lo)), (o6, .inl (cI, 32, .inl hi)), (o7, .inl (cI, 32, .inl tm)), (o8, .inl (cI, 20, .inl sa)), (o9, .inl (cI, 8, .inl ca)), (o10, .inl (cI, 60, .inl ta)), (o11, .inl (cI, 60, .inl tn))]) (fun _ => rfl) (by decide) rfl hl.1 rfl (Nat.le_of_ble_eq_true rfl) (by decide) (by decide) d_Model_one_70 (fun r u0 H locs hcq hP hD hS => ?_)
    subst hcq
    refine lv_iconst (v := nI 2) hx hb d_Model_one_73 (by decide) ?_
    refine pl_icmp_ne X (by decide) (by decide) d_Model_one_74 rfl (fun gL => ?_) (fun gL => ?_)
    · skip
      refine lv_iconst (v := nI 0) hx hb d_Model_one_84 (by decide) ?_
      refine lv_istore_n hx hb d_Model_one_85 rfl hl (by decide) (lv' := [(3, .int (nI 0)), (2, .int (nI j)), (1, .int (nI 9)), (0, .ref m0)]) rfl (fun ls hl => ?_)
      refine lv_iload_n hx hb d_Model_one_86 rfl (lv_at hl 2 rfl) ?_
      refine lv_iconst (v := nI 2) hx hb d_Model_one_87 (by decide) ?_
      refine pl_icmp_eq X (by decide) (by decide) d_Model_one_88 rfl (fun gL => ?_) (fun gL => ?_)
      · skip
        exact absurd gL (by decide)
      · skip
        refine lv_iload_n hx hb d_Model_one_91 rfl (lv_at hl 2 rfl) ?_
        refine lv_iconst (v := nI 3) hx hb d_Model_one_92 (by decide) ?_
        refine pl_icmp_eq X (by decide) (by decide) d_Model_one_93 rfl (fun gL => ?_) (fun gL => ?_)
        · skip
          exact absurd gL (by decide)
        · skip
          refine lv_iload_n hx hb d_Model_one_96 rfl (lv_at hl 2 rfl) ?_
          refine lv_iconst (v := nI 4) hx hb d_Model_one_97 (by decide) ?_
          refine pl_icmp_eq X (by decide) (by decide) d_Model_one_98 rfl (fun gL => ?_) (fun gL => ?_)
          · skip
            exact absurd gL (by decide)
          · skip
            refine lv_iload_n hx hb d_Model_one_101 rfl (lv_at hl 2 rfl) ?_
            refine lv_bipush (v := nI 10) hx hb d_Model_one_102 (by decide) ?_
            refine pl_icmp_ne X (by decide) (by decide) d_Model_one_104 rfl (fun gL => ?_) (fun gL => ?_)
            · skip
              refine lv_iconst (v := nI 0) hx hb d_Model_one_114 (by decide) ?_
              refine lv_istore hx hb d_Model_one_115 hl (by decide) (lv' := [(4, .int (nI 0)), (3, .int (nI 0)), (2, .int (nI j)), (1, .int (nI 9)), (0, .ref m0)]) rfl (fun ls hl => ?_)
              refine lv_iload_n hx hb d_Model_one_117 rfl (lv_at hl 3 rfl) ?_
              refine lv_tableIn hx hb d_Model_one_118 (by decide) (by decide) (off := 179) (by decide) (tgt := 297) rfl ?_
              refine lv_aload_n hx hb d_Model_one_297 rfl (lv_at hl 4 rfl) ?_
              refine lv_iload_n hx hb d_Model_one_298 rfl (lv_at hl 2 rfl) ?_
              refine pl_callVV X (rest := []) (As := [.int (nI j)]) (b := m0) (c_Model_done l D cI cZ cL m0 o1 o2 o3 o4 o5 o6 o7 o8 o9 o10 o11 P K Hm ru lo hi tm sa ca ta tn (nI 9) (nI j) co np n 1 how (pl + 1) pl stt q dn th pl j hh hq hs hj hd hth hru) ck_Model_137 pl_E0_ok trivial hK hP hD hS hA (T := F_Model) (N := N_Model) (ci := 6) rfl 0 rfl [0, 3, 4, 5, 6, 7, 9, 10] [1, 2, 8] [3, 0, 1, 4, 5, 6, 7, 8, 2, 9, 10] rfl (by decide) (wr := [(o1, .inl (cI, 24, .inl P)), (o2, .inl (cI, 24, .inl K)), (o9, .inl (cI, 8, .inl ca))]) rfl (by decide) (by decide) (wf := fun (u : RSa) => [(m0, .inr (6, [.int (nI co), .int (nI np), .ref o1, .ref o2, .ref o3, .int (nI n), .ref o4, .ref o5, .ref o6, .ref o7, .int (nI 9), .int (nI j), .int (nI u.1), .int (nI how), .int (nI (pl + 1)), .int (nI pl), .int (nI u.2.2.2.1), .int (nI u.2.2.1), .ref o8, .ref o9, .int (nI u.2.2.2.2.1), .ref o10, .ref o11])), (o1, .inl (cI, 24, .inl P)), (o2, .inl (cI, 24, .inl K)), (o4, .inl (cZ, 32, .inl ru)), (o5, .inl (cI, 32, .inl lo)), (o6, .inl (cI, 32, .inl hi)), (o7, .inl (cI, 32, .inl tm)), (o8, .inl (cI, 20, .inl sa)), (o9, .inl (cI, 8, .inl ca)), (o10, .inl (cI, 60, .inl u.2.2.2.2.2.1)), (o11, .inl (cI, 60, .inl u.2.2.2.2.2.2))]) (fun _ => rfl) (by decide) rfl hl.1 rfl (Nat.le_of_ble_eq_true rfl) (by decide) (by decide) d_Model_one_299 (fun u H locs hcq hP hD hS => ?_)
              refine lv_goto hx hb d_Model_one_302 rfl ?_
              exact pl_vret X hr hlk hK u hcq hP hD hS d_Model_one_342
            · skip
              exact absurd gL (by decide)
    · skip
      exact absurd gL (by decide)
  refine lv_aload_n hx hb d_Model_one_0 rfl (lv_at hl 0 rfl) ?_
  refine lv_aload_n hx hb d_Model_one_1 rfl (lv_at hl 0 rfl) ?_
  refine pl_get X fw_Model_115 hK hP 0 rfl (v := .int (nI pl)) rfl d_Model_one_2 ?_
  refine pl_put X fw_Model_118 fp_Model rfl hK hP hD hS 0 rfl (v := .int (nI pl)) rfl rfl (Nat.le_of_ble_eq_true rfl) d_Model_one_5 (ws' := [(m0, .inr (6, [.int (nI co), .int (nI np), .ref o1, .ref o2, .ref o3, .int (nI n), .ref o4, .ref o5, .ref o6, .ref o7, .int fo1, .int fk1, .int (nI 1), .int (nI how), .int (nI pl), .int (nI pl), .int (nI stt), .int (nI (q + 1)), .ref o8, .ref o9, .int (nI dn), .ref o10, .ref o11])), (o1, .inl (cI, 24, .inl P)), (o2, .inl (cI, 24, .inl K)), (o4, .inl (cZ, 32, .inl ru)), (o5, .inl (cI, 32, .inl lo)), (o6, .inl (cI, 32, .inl hi)), (o7, .inl (cI, 32, .inl tm)), (o8, .inl (cI, 20, .inl sa)), (o9, .inl (cI, 8, .inl ca)), (o10, .inl (cI, 60, .inl ta)), (o11, .inl (cI, 60, .inl tn))]) rfl (fun H locs hP hD hS => ?_)
  refine lv_aload_n hx hb d_Model_one_8 rfl (lv_at hl 0 rfl) ?_
  refine pl_get X fw_Model_112 hK hP 0 rfl (v := .int (nI how)) rfl d_Model_one_9 ?_
  refine lv_iconst (v := nI 1) hx hb d_Model_one_12 (by decide) ?_
  refine pl_icmp_ne X (by omega) (by decide) d_Model_one_13 rfl (fun g13 => ?_) (fun g13 => ?_)
  · skip
    refine lv_aload_n hx hb d_Model_one_27 rfl (lv_at hl 0 rfl) ?_
    refine lv_aload_n hx hb d_Model_one_28 rfl (lv_at hl 0 rfl) ?_
    refine pl_get X fw_Model_7 hK hP 0 rfl (v := .ref o1) rfl d_Model_one_29 ?_
    refine lv_aload_n hx hb d_Model_one_32 rfl (lv_at hl 0 rfl) ?_
    refine pl_get X fw_Model_115 hK hP 0 rfl (v := .int (nI pl)) rfl d_Model_one_33 ?_
    refine pl_iald X hK hP 1 0 rfl rfl pl (by have := (hO.2 g13).1; omega) (by decide) (z := nI 9) (hO.2 g13).2.1 d_Model_one_36 ?_
    refine lv_aload_n hx hb d_Model_one_37 rfl (lv_at hl 0 rfl) ?_
    refine pl_get X fw_Model_13 hK hP 0 rfl (v := .ref o2) rfl d_Model_one_38 ?_
    refine lv_aload_n hx hb d_Model_one_41 rfl (lv_at hl 0 rfl) ?_
    refine pl_get X fw_Model_115 hK hP 0 rfl (v := .int (nI pl)) rfl d_Model_one_42 ?_
    refine pl_iald X hK hP 2 0 rfl rfl pl (by have := (hO.2 g13).1; omega) (by decide) (z := nI j) (hO.2 g13).2.2 d_Model_one_45 ?_
    refine pl_callVV X (rest := []) (As := [.int (nI 9), .int (nI j)]) (b := m0) (c_Model_set l D cI cZ cL m0 o1 o2 o3 o4 o5 o6 o7 o8 o9 o10 o11 P K Hm ru lo hi tm sa ca ta tn fo1 fk1 co np n 1 how pl pl stt (q + 1) dn (nI 9) (nI j)) ck_Model_100 pl_E0_ok trivial hK hP hD hS hA (T := F_Model) (N := N_Model) (ci := 6) rfl 0 rfl [0] [1, 2, 3, 4, 5, 6, 7, 8, 9, 10] [10, 0, 1, 2, 3, 4, 5, 6, 7, 8, 9] rfl (by decide) (wr := [(o1, .inl (cI, 24, .inl P)), (o2, .inl (cI, 24, .inl K)), (o4, .inl (cZ, 32, .inl ru)), (o5, .inl (cI, 32, .inl lo)), (o6, .inl (cI, 32, .inl hi)), (o7, .inl (cI, 32, .inl tm)), (o8, .inl (cI, 20, .inl sa)), (o9, .inl (cI, 8, .inl ca)), (o10, .inl (cI, 60, .inl ta)), (o11, .inl (cI, 60, .inl tn))]) rfl (by decide) (by decide) (wf := fun _ => [(m0, .inr (6, [.int (nI co), .int (nI np), .ref o1, .ref o2, .ref o3, .int (nI n), .ref o4, .ref o5, .ref o6, .ref o7, .int (nI 9), .int (nI j), .int (nI 1), .int (nI how), .int (nI pl), .int (nI pl), .int (nI stt), .int (nI (q + 1)), .ref o8, .ref o9, .int (nI dn), .ref o10, .ref o11])), (o1, .inl (cI, 24, .inl P)), (o2, .inl (cI, 24, .inl K)), (o4, .inl (cZ, 32, .inl ru)), (o5, .inl (cI, 32, .inl lo)), (o6, .inl (cI, 32, .inl hi)), (o7, .inl (cI, 32, .inl tm)), (o8, .inl (cI, 20, .inl sa)), (o9, .inl (cI, 8, .inl ca)), (o10, .inl (cI, 60, .inl ta)), (o11, .inl (cI, 60, .inl tn))]) (fun _ => rfl) (by decide) rfl hl.1 rfl (Nat.le_of_ble_eq_true rfl) (by decide) (by decide) d_Model_one_46 (fun u0 H locs hcq hP hD hS => ?_)
    exact join_49 (()) _ _ _ hP hD hS hl
  · skip
    refine lv_aload_n hx hb d_Model_one_16 rfl (lv_at hl 0 rfl) ?_
    refine lv_aload_n hx hb d_Model_one_17 rfl (lv_at hl 0 rfl) ?_
    refine pl_get X fw_Model_115 hK hP 0 rfl (v := .int (nI pl)) rfl d_Model_one_18 ?_
    refine pl_callVV X (rest := []) (As := [.int (nI pl)]) (b := m0) (c_Model_find l D cI cZ cL m0 o1 o2 o3 o4 o5 o6 o7 o8 o9 o10 o11 P K Hm ru lo hi tm sa ca ta tn fo1 fk1 co np n 1 how pl pl stt (q + 1) dn th pl hn hnp hop hok hru (hO.1 g13).1) ck_Model_108 pl_E0_ok trivial hK hP hD hS hA (T := F_Model) (N := N_Model) (ci := 6) rfl 0 rfl [0, 1, 2, 3, 4, 5, 6] [7, 8, 9, 10] [4, 5, 6, 7, 8, 9, 10, 0, 1, 2, 3] rfl (by decide) (wr := [(o8, .inl (cI, 20, .inl sa)), (o9, .inl (cI, 8, .inl ca)), (o10, .inl (cI, 60, .inl ta)), (o11, .inl (cI, 60, .inl tn))]) rfl (by decide) (by decide) (wf := fun (uf : Int32 × Int32) => [(m0, .inr (6, [.int (nI co), .int (nI np), .ref o1, .ref o2, .ref o3, .int (nI n), .ref o4, .ref o5, .ref o6, .ref o7, .int uf.1, .int uf.2, .int (nI 1), .int (nI how), .int (nI pl), .int (nI pl), .int (nI stt), .int (nI (q + 1)), .ref o8, .ref o9, .int (nI dn), .ref o10, .ref o11])), (o1, .inl (cI, 24, .inl P)), (o2, .inl (cI, 24, .inl K)), (o4, .inl (cZ, 32, .inl ru)), (o5, .inl (cI, 32, .inl lo)), (o6, .inl (cI, 32, .inl hi)), (o7, .inl (cI, 32, .inl tm)), (o8, .inl (cI, 20, .inl sa)), (o9, .inl (cI, 8, .inl ca)), (o10, .inl (cI, 60, .inl ta)), (o11, .inl (cI, 60, .inl tn))]) (fun _ => rfl) (by decide) rfl hl.1 rfl (Nat.le_of_ble_eq_true rfl) (by decide) (by decide) d_Model_one_21 (fun uf H locs hcq hP hD hS => ?_)
    obtain ⟨hc1, hc2⟩ := hcq
    have hu9 : uf = (nI 9, nI j) := Prod.ext (hc1.trans (hO.1 g13).2.1) (hc2.trans (hO.1 g13).2.2)
    subst hu9
    refine lv_goto hx hb d_Model_one_24 rfl ?_
    exact join_49 (()) _ _ _ hP hD hS hl

set_option maxHeartbeats 4000000 in
set_option maxRecDepth 100000 in
theorem c_Model_one_10 (l : Launch) (D : va_G) (cI cZ cL : ClassId) (m0 o1 o2 o3 o4 o5 o6 o7 o8 o9 o10 o11 : Nat) (P K Hm ru lo hi tm sa ca ta tn : Nat → Int32) (fo1 fk1 : Int32) (co np n stat how pl la stt q dn : Nat) (th : Nat → Int32) (kx : Int32) (hn : n ≤ 4) (hnp : np ≤ 24) (hop : okP P np) (hok : okK P K np) (hru : rulR ru tm th) (hO : (how = 1 → pl < plc P K th n np ∧ (wO P K th n np).getD pl 0 = nI 10 ∧ (wK P K lo hi th n np).getD pl 0 = kx) ∧ (¬ how = 1 → pl < np ∧ P pl = nI 10 ∧ K pl = kx)) (hh : how ≤ 2) (hpl : pl < 2000) (hq : q + 1 < 20) : pl_V l y_Model_one b_Model_one 5 ({ frames := 4, cells := 0, slots := 0, locals := 91 } : Room) pl_E0 D classes (TY cI cZ cL) [.ref m0] [(m0, .inr (6, [.int (nI co), .int (nI np), .ref o1, .ref o2, .ref o3, .int (nI n), .ref o4, .ref o5, .ref o6, .ref o7, .int fo1, .int fk1, .int (nI 1), .int (nI how), .int (nI pl), .int (nI la), .int (nI stt), .int (nI (q + 2)), .ref o8, .ref o9, .int (nI dn), .ref o10, .ref o11])), (o1, .inl (cI, 24, .inl P)), (o2, .inl (cI, 24, .inl K)), (o4, .inl (cZ, 32, .inl ru)), (o5, .inl (cI, 32, .inl lo)), (o6, .inl (cI, 32, .inl hi)), (o7, .inl (cI, 32, .inl tm)), (o8, .inl (cI, 20, .inl sa)), (o9, .inl (cI, 8, .inl ca)), (o10, .inl (cI, 60, .inl ta)), (o11, .inl (cI, 60, .inl tn))] (fun _ : Unit => True) (fun (_ : Unit) => [(m0, .inr (6, [.int (nI co), .int (nI np), .ref o1, .ref o2, .ref o3, .int (nI n), .ref o4, .ref o5, .ref o6, .ref o7, .int (nI 10), .int kx, .int (nI 1), .int (nI how), .int (nI (pl + 1)), .int (nI pl), .int (nI stt), .int (nI (q + 2)), .ref o8, .ref o9, .int (nI dn), .ref o10, .ref o11])), (o1, .inl (cI, 24, .inl P)), (o2, .inl (cI, 24, .inl K)), (o4, .inl (cZ, 32, .inl ru)), (o5, .inl (cI, 32, .inl lo)), (o6, .inl (cI, 32, .inl hi)), (o7, .inl (cI, 32, .inl tm)), (o8, .inl (cI, 20, .inl (upd (upd sa q (sa (q + 1))) (q + 1) (sa q)))), (o9, .inl (cI, 8, .inl ca)), (o10, .inl (cI, 60, .inl ta)), (o11, .inl (cI, 60, .inl tn))]) := by
  refine pl_startV (by decide) (Nat.le_of_ble_eq_true rfl) ?_
  intro p e s m args below meth c A ls X hr hlk hin hK hP hD hS hA hE hl
  have X : CallFix p m c b_Model_one 5 s args TG R_Model := X
  have hx := X.1
  have hb := X.2.1
  have hl : lv_has ls 5 [(0, .ref m0)] := hl
  have join_49 : ∀ (_ : Unit) (H : Heap) (locs : List Loc) (ls : Array Slot), va_P D classes [(m0, .inr (6, [.int (nI co), .int (nI np), .ref o1, .ref o2, .ref o3, .int (nI n), .ref o4, .ref o5, .ref o6, .ref o7, .int (nI 10), .int kx, .int (nI 1), .int (nI how), .int (nI pl), .int (nI pl), .int (nI stt), .int (nI (q + 2)), .ref o8, .ref o9, .int (nI dn), .ref o10, .ref o11])), (o1, .inl (cI, 24, .inl P)), (o2, .inl (cI, 24, .inl K)), (o4, .inl (cZ, 32, .inl ru)), (o5, .inl (cI, 32, .inl lo)), (o6, .inl (cI, 32, .inl hi)), (o7, .inl (cI, 32, .inl tm)), (o8, .inl (cI, 20, .inl sa)), (o9, .inl (cI, 8, .inl ca)), (o10, .inl (cI, 60, .inl ta)), (o11, .inl (cI, 60, .inl tn))] H → va_D A [(m0, .inr (6, [.int (nI co), .int (nI np), .ref o1, .ref o2, .ref o3, .int (nI n), .ref o4, .ref o5, .ref o6, .ref o7, .int (nI 10), .int kx, .int (nI 1), .int (nI how), .int (nI pl), .int (nI pl), .int (nI stt), .int (nI (q + 2)), .ref o8, .ref o9, .int (nI dn), .ref o10, .ref o11])), (o1, .inl (cI, 24, .inl P)), (o2, .inl (cI, 24, .inl K)), (o4, .inl (cZ, 32, .inl ru)), (o5, .inl (cI, 32, .inl lo)), (o6, .inl (cI, 32, .inl hi)), (o7, .inl (cI, 32, .inl tm)), (o8, .inl (cI, 20, .inl sa)), (o9, .inl (cI, 8, .inl ca)), (o10, .inl (cI, 60, .inl ta)), (o11, .inl (cI, 60, .inl tn))] → va_S A s.heap H locs → lv_has ls 5 [(0, .ref m0)] → W p l e ({ frames := 4, cells := 0, slots := 0, locals := 91 } : Room) s m args below meth c H locs 0 0 (MQ below (va_Qv (fun _ : Unit => True) (fun u => pl_out D classes (TY cI cZ cL) A ((fun (_ : Unit) => [(m0, .inr (6, [.int (nI co), .int (nI np), .ref o1, .ref o2, .ref o3, .int (nI n), .ref o4, .ref o5, .ref o6, .ref o7, .int (nI 10), .int kx, .int (nI 1), .int (nI how), .int (nI (pl + 1)), .int (nI pl), .int (nI stt), .int (nI (q + 2)), .ref o8, .ref o9, .int (nI dn), .ref o10, .ref o11])), (o1, .inl (cI, 24, .inl P)), (o2, .inl (cI, 24, .inl K)), (o4, .inl (cZ, 32, .inl ru)), (o5, .inl (cI, 32, .inl lo)), (o6, .inl (cI, 32, .inl hi)), (o7, .inl (cI, 32, .inl tm)), (o8, .inl (cI, 20, .inl (upd (upd sa q (sa (q + 1))) (q + 1) (sa q)))), (o9, .inl (cI, 8, .inl ca)), (o10, .inl (cI, 60, .inl ta)), (o11, .inl (cI, 60, .inl tn))]) u)) A) args s 0 0 A) (F0 m 49 ls []) := by
    intro _ H locs ls hP hD hS hl
    refine lv_aload_n hx hb d_Model_one_49 rfl (lv_at hl 0 rfl) ?_
    refine pl_get X fw_Model_91 hK hP 0 rfl (v := .int (nI 10)) rfl d_Model_one_50 ?_
    refine lv_istore_n hx hb d_Model_one_53 rfl hl (by decide) (lv' := [(1, .int (nI 10)), (0, .ref m0)]) rfl (fun ls hl => ?_)
    refine lv_aload_n hx hb d_Model_one_54 rfl (lv_at hl 1 rfl) ?_
    refine pl_get X fw_Model_94 hK hP 0 rfl (v := .int kx) rfl d_Model_one_55 ?_
    refine lv_istore_n hx hb d_Model_one_58 rfl hl (by decide) (lv' := [(2, .int kx), (1, .int (nI 10)), (0, .ref m0)]) rfl (fun ls hl => ?_)
    refine lv_aload_n hx hb d_Model_one_59 rfl (lv_at hl 2 rfl) ?_
    refine lv_dup hx hb d_Model_one_60 rfl ?_
    refine pl_get X fw_Model_115 hK hP 0 rfl (v := .int (nI pl)) rfl d_Model_one_61 ?_
    refine lv_iconst (v := nI 1) hx hb d_Model_one_64 (by decide) ?_
    refine pl_iadd X d_Model_one_65 (z := nI (pl + 1)) (nI_add _ _) ?_
    refine pl_put X fw_Model_115 fp_Model rfl hK hP hD hS 0 rfl (v := .int (nI (pl + 1))) rfl rfl (Nat.le_of_ble_eq_true rfl) d_Model_one_66 (ws' := [(m0, .inr (6, [.int (nI co), .int (nI np), .ref o1, .ref o2, .ref o3, .int (nI n), .ref o4, .ref o5, .ref o6, .ref o7, .int (nI 10), .int kx, .int (nI 1), .int (nI how), .int (nI (pl + 1)), .int (nI pl), .int (nI stt), .int (nI (q + 2)), .ref o8, .ref o9, .int (nI dn), .ref o10, .ref o11])), (o1, .inl (cI, 24, .inl P)), (o2, .inl (cI, 24, .inl K)), (o4, .inl (cZ, 32, .inl ru)), (o5, .inl (cI, 32, .inl lo)), (o6, .inl (cI, 32, .inl hi)), (o7, .inl (cI, 32, .inl tm)), (o8, .inl (cI, 20, .inl sa)), (o9, .inl (cI, 8, .inl ca)), (o10, .inl (cI, 60, .inl ta)), (o11, .inl (cI, 60, .inl tn))]) rfl (fun H locs hP hD hS => ?_)
    refine lv_iload_n hx hb d_Model_one_69 rfl (lv_at hl 1 rfl) ?_
    refine pl_callSI X (rest := []) (As := [.int (nI 10)]) (c_Model_takes_10 l D cI cZ cL) ck_Model_71 pl_E0_ok trivial hK hP hD hS hA [] [0, 1, 2, 3, 4, 5, 6, 7, 8, 9, 10] [0, 1, 2, 3, 4, 5, 6, 7, 8, 9, 10] rfl (by decide) (wr := [(m0, .inr (6, [.int (nI co), .int (nI np), .ref o1, .ref o2, .ref o3, .int (nI n), .ref o4, .ref o5, .ref o6, .ref o7, .int (nI 10), .int kx, .int (nI 1), .int (nI how), .int (nI (pl + 1)), .int (nI pl), .int (nI stt), .int (nI (q + 2)), .ref o8, .ref o9, .int (nI dn), .ref o10, .ref o11])), (o1, .inl (cI, 24, .inl P)), (o2, .inl (cI, 24, .inl K)), (o4, .inl (cZ, 32, .inl ru)), (o5, .inl (cI, 32, .inl lo)), (o6, .inl (cI, 32, .inl hi)), (o7, .inl (cI, 32, .inl tm)), (o8, .inl (cI, 20, .inl sa)), (o9, .inl (cI, 8, .inl ca)), (o10, .inl (cI, 60, .inl ta)), (o11, .inl (cI, 60, .inl tn))]) rfl (by decide) (by decide) (wf := fun _ => [(m0, .inr (6, [.int (nI co), .int (nI np), .ref o1, .ref o2, .ref o3, .int (nI n), .ref o4, .ref o5, .ref o6, .ref o7, .int (nI 10), .int kx, .int (nI 1), .int (nI how), .int (nI (pl + 1)), .int (nI pl), .int (nI stt), .int (nI (q + 2)), .ref o8, .ref o9, .int (nI dn), .ref o10, .ref o11])), (o1, .inl (cI, 24, .inl P)), (o2, .inl (cI, 24, .inl K)), (o4, .inl (cZ, 32, .inl ru)), (o5, .inl (cI, 32, .inl lo)), (o6, .inl (cI, 32, .inl hi)), (o7, .inl (cI, 32, .inl tm)), (o8, .inl (cI, 20, .inl sa)), (o9, .inl (cI, 8, .inl ca)), (o10, .inl (cI, 60, .inl ta)), (o11, .inl (cI, 60, .inl tn))]) (fun _ => rfl) (by decide) rfl hl.1 rfl (Nat.le_of_ble_eq_true rfl) (by decide) (by decide) d_Model_one_70 (fun r u0 H locs hcq hP hD hS => ?_)
    subst hcq
    refine lv_iconst (v := nI 2) hx hb d_Model_one_73 (by decide) ?_
    refine pl_icmp_ne X (by decide) (by decide) d_Model_one_74 rfl (fun gL => ?_) (fun gL => ?_)
    · skip
      exact absurd gL (by decide)
    · skip
      refine lv_aload_n hx hb d_Model_one_77 rfl (lv_at hl 2 rfl) ?_
      refine pl_callVI X (rest := []) (As := []) (b := m0) (c_Model_pop l D cI cZ cL m0 o1 o2 o3 o4 o5 o6 o7 o8 o9 o10 o11 P K Hm ru lo hi tm sa ca ta tn (nI 10) kx co np n 1 how (pl + 1) pl stt (q + 1) dn (by omega)) ck_Model_130 pl_E0_ok trivial hK hP hD hS hA (T := F_Model) (N := N_Model) (ci := 6) rfl 0 rfl [0, 7] [1, 2, 3, 4, 5, 6, 8, 9, 10] [9, 0, 1, 2, 3, 4, 5, 10, 6, 7, 8] rfl (by decide) (wr := [(o1, .inl (cI, 24, .inl P)), (o2, .inl (cI, 24, .inl K)), (o4, .inl (cZ, 32, .inl ru)), (o5, .inl (cI, 32, .inl lo)), (o6, .inl (cI, 32, .inl hi)), (o7, .inl (cI, 32, .inl tm)), (o9, .inl (cI, 8, .inl ca)), (o10, .inl (cI, 60, .inl ta)), (o11, .inl (cI, 60, .inl tn))]) rfl (by decide) (by decide) (wf := fun _ => [(m0, .inr (6, [.int (nI co), .int (nI np), .ref o1, .ref o2, .ref o3, .int (nI n), .ref o4, .ref o5, .ref o6, .ref o7, .int (nI 10), .int kx, .int (nI 1), .int (nI how), .int (nI (pl + 1)), .int (nI pl), .int (nI stt), .int (nI (q + 1)), .ref o8, .ref o9, .int (nI dn), .ref o10, .ref o11])), (o1, .inl (cI, 24, .inl P)), (o2, .inl (cI, 24, .inl K)), (o4, .inl (cZ, 32, .inl ru)), (o5, .inl (cI, 32, .inl lo)), (o6, .inl (cI, 32, .inl hi)), (o7, .inl (cI, 32, .inl tm)), (o8, .inl (cI, 20, .inl sa)), (o9, .inl (cI, 8, .inl ca)), (o10, .inl (cI, 60, .inl ta)), (o11, .inl (cI, 60, .inl tn))]) (fun _ => rfl) (by decide) rfl hl.1 rfl (Nat.le_of_ble_eq_true rfl) (by decide) (by decide) d_Model_one_78 (fun r u0 H locs hcq hP hD hS => ?_)
      subst hcq
      refine lv_goto hx hb d_Model_one_81 rfl ?_
      refine lv_istore_n hx hb d_Model_one_85 rfl hl (by decide) (lv' := [(3, .int (sa (q + 1))), (2, .int kx), (1, .int (nI 10)), (0, .ref m0)]) rfl (fun ls hl => ?_)
      refine lv_iload_n hx hb d_Model_one_86 rfl (lv_at hl 2 rfl) ?_
      refine lv_iconst (v := nI 2) hx hb d_Model_one_87 (by decide) ?_
      refine pl_icmp_eq X (by decide) (by decide) d_Model_one_88 rfl (fun gL => ?_) (fun gL => ?_)
      · skip
        exact absurd gL (by decide)
      · skip
        refine lv_iload_n hx hb d_Model_one_91 rfl (lv_at hl 2 rfl) ?_
        refine lv_iconst (v := nI 3) hx hb d_Model_one_92 (by decide) ?_
        refine pl_icmp_eq X (by decide) (by decide) d_Model_one_93 rfl (fun gL => ?_) (fun gL => ?_)
        · skip
          exact absurd gL (by decide)
        · skip
          refine lv_iload_n hx hb d_Model_one_96 rfl (lv_at hl 2 rfl) ?_
          refine lv_iconst (v := nI 4) hx hb d_Model_one_97 (by decide) ?_
          refine pl_icmp_eq X (by decide) (by decide) d_Model_one_98 rfl (fun gL => ?_) (fun gL => ?_)
          · skip
            exact absurd gL (by decide)
          · skip
            refine lv_iload_n hx hb d_Model_one_101 rfl (lv_at hl 2 rfl) ?_
            refine lv_bipush (v := nI 10) hx hb d_Model_one_102 (by decide) ?_
            refine pl_icmp_ne X (by decide) (by decide) d_Model_one_104 rfl (fun gL => ?_) (fun gL => ?_)
            · skip
              exact absurd gL (by decide)
            · skip
              refine lv_aload_n hx hb d_Model_one_107 rfl (lv_at hl 3 rfl) ?_
              refine pl_callVI X (rest := []) (As := []) (b := m0) (c_Model_pop l D cI cZ cL m0 o1 o2 o3 o4 o5 o6 o7 o8 o9 o10 o11 P K Hm ru lo hi tm sa ca ta tn (nI 10) kx co np n 1 how (pl + 1) pl stt q dn (by omega)) ck_Model_130 pl_E0_ok trivial hK hP hD hS hA (T := F_Model) (N := N_Model) (ci := 6) rfl 0 rfl [0, 7] [1, 2, 3, 4, 5, 6, 8, 9, 10] [9, 0, 1, 2, 3, 4, 5, 10, 6, 7, 8] rfl (by decide) (wr := [(o1, .inl (cI, 24, .inl P)), (o2, .inl (cI, 24, .inl K)), (o4, .inl (cZ, 32, .inl ru)), (o5, .inl (cI, 32, .inl lo)), (o6, .inl (cI, 32, .inl hi)), (o7, .inl (cI, 32, .inl tm)), (o9, .inl (cI, 8, .inl ca)), (o10, .inl (cI, 60, .inl ta)), (o11, .inl (cI, 60, .inl tn))]) rfl (by decide) (by decide) (wf := fun _ => [(m0, .inr (6, [.int (nI co), .int (nI np), .ref o1, .ref o2, .ref o3, .int (nI n), .ref o4, .ref o5, .ref o6, .ref o7, .int (nI 10), .int kx, .int (nI 1), .int (nI how), .int (nI (pl + 1)), .int (nI pl), .int (nI stt), .int (nI q), .ref o8, .ref o9, .int (nI dn), .ref o10, .ref o11])), (o1, .inl (cI, 24, .inl P)), (o2, .inl (cI, 24, .inl K)), (o4, .inl (cZ, 32, .inl ru)), (o5, .inl (cI, 32, .inl lo)), (o6, .inl (cI, 32, .inl hi)), (o7, .inl (cI, 32, .inl tm)), (o8, .inl (cI, 20, .inl sa)), (o9, .inl (cI, 8, .inl ca)), (o10, .inl (cI, 60, .inl ta)), (o11, .inl (cI, 60, .inl tn))]) (fun _ => rfl) (by decide) rfl hl.1 rfl (Nat.le_of_ble_eq_true rfl) (by decide) (by decide) d_Model_one_108 (fun r u0 H locs hcq hP hD hS => ?_)
              subst hcq
              refine lv_goto hx hb d_Model_one_111 rfl ?_
              refine lv_istore hx hb d_Model_one_115 hl (by decide) (lv' := [(4, .int (sa q)), (3, .int (sa (q + 1))), (2, .int kx), (1, .int (nI 10)), (0, .ref m0)]) rfl (fun ls hl => ?_)
              refine lv_iload_n hx hb d_Model_one_117 rfl (lv_at hl 3 rfl) ?_
              refine lv_tableIn hx hb d_Model_one_118 (by decide) (by decide) (off := 187) (by decide) (tgt := 305) rfl ?_
              refine lv_aload_n hx hb d_Model_one_305 rfl (lv_at hl 4 rfl) ?_
              refine lv_iload_n hx hb d_Model_one_306 rfl (lv_at hl 1 rfl) ?_
              refine pl_callVV X (rest := []) (As := [.int (sa (q + 1))]) (b := m0) (c_Model_push l D cI cZ cL m0 o1 o2 o3 o4 o5 o6 o7 o8 o9 o10 o11 P K Hm ru lo hi tm sa ca ta tn (nI 10) kx co np n 1 how (pl + 1) pl stt q dn (sa (q + 1)) (by omega)) ck_Model_134 pl_E0_ok trivial hK hP hD hS hA (T := F_Model) (N := N_Model) (ci := 6) rfl 0 rfl [0, 7] [1, 2, 3, 4, 5, 6, 8, 9, 10] [9, 0, 1, 2, 3, 4, 5, 10, 6, 7, 8] rfl (by decide) (wr := [(o1, .inl (cI, 24, .inl P)), (o2, .inl (cI, 24, .inl K)), (o4, .inl (cZ, 32, .inl ru)), (o5, .inl (cI, 32, .inl lo)), (o6, .inl (cI, 32, .inl hi)), (o7, .inl (cI, 32, .inl tm)), (o9, .inl (cI, 8, .inl ca)), (o10, .inl (cI, 60, .inl ta)), (o11, .inl (cI, 60, .inl tn))]) rfl (by decide) (by decide) (wf := fun _ => [(m0, .inr (6, [.int (nI co), .int (nI np), .ref o1, .ref o2, .ref o3, .int (nI n), .ref o4, .ref o5, .ref o6, .ref o7, .int (nI 10), .int kx, .int (nI 1), .int (nI how), .int (nI (pl + 1)), .int (nI pl), .int (nI stt), .int (nI (q + 1)), .ref o8, .ref o9, .int (nI dn), .ref o10, .ref o11])), (o1, .inl (cI, 24, .inl P)), (o2, .inl (cI, 24, .inl K)), (o4, .inl (cZ, 32, .inl ru)), (o5, .inl (cI, 32, .inl lo)), (o6, .inl (cI, 32, .inl hi)), (o7, .inl (cI, 32, .inl tm)), (o8, .inl (cI, 20, .inl (upd sa q (sa (q + 1))))), (o9, .inl (cI, 8, .inl ca)), (o10, .inl (cI, 60, .inl ta)), (o11, .inl (cI, 60, .inl tn))]) (fun _ => rfl) (by decide) rfl hl.1 rfl (Nat.le_of_ble_eq_true rfl) (by decide) (by decide) d_Model_one_307 (fun u0 H locs hcq hP hD hS => ?_)
              refine lv_aload_n hx hb d_Model_one_310 rfl (lv_at hl 4 rfl) ?_
              refine lv_iload hx hb d_Model_one_311 (lv_at hl 0 rfl) ?_
              refine pl_callVV X (rest := []) (As := [.int (sa q)]) (b := m0) (c_Model_push l D cI cZ cL m0 o1 o2 o3 o4 o5 o6 o7 o8 o9 o10 o11 P K Hm ru lo hi tm (upd sa q (sa (q + 1))) ca ta tn (nI 10) kx co np n 1 how (pl + 1) pl stt (q + 1) dn (sa q) (by omega)) ck_Model_134 pl_E0_ok trivial hK hP hD hS hA (T := F_Model) (N := N_Model) (ci := 6) rfl 0 rfl [0, 7] [1, 2, 3, 4, 5, 6, 8, 9, 10] [9, 0, 1, 2, 3, 4, 5, 10, 6, 7, 8] rfl (by decide) (wr := [(o1, .inl (cI, 24, .inl P)), (o2, .inl (cI, 24, .inl K)), (o4, .inl (cZ, 32, .inl ru)), (o5, .inl (cI, 32, .inl lo)), (o6, .inl (cI, 32, .inl hi)), (o7, .inl (cI, 32, .inl tm)), (o9, .inl (cI, 8, .inl ca)), (o10, .inl (cI, 60, .inl ta)), (o11, .inl (cI, 60, .inl tn))]) rfl (by decide) (by decide) (wf := fun _ => [(m0, .inr (6, [.int (nI co), .int (nI np), .ref o1, .ref o2, .ref o3, .int (nI n), .ref o4, .ref o5, .ref o6, .ref o7, .int (nI 10), .int kx, .int (nI 1), .int (nI how), .int (nI (pl + 1)), .int (nI pl), .int (nI stt), .int (nI (q + 1 + 1)), .ref o8, .ref o9, .int (nI dn), .ref o10, .ref o11])), (o1, .inl (cI, 24, .inl P)), (o2, .inl (cI, 24, .inl K)), (o4, .inl (cZ, 32, .inl ru)), (o5, .inl (cI, 32, .inl lo)), (o6, .inl (cI, 32, .inl hi)), (o7, .inl (cI, 32, .inl tm)), (o8, .inl (cI, 20, .inl (upd (upd sa q (sa (q + 1))) (q + 1) (sa q)))), (o9, .inl (cI, 8, .inl ca)), (o10, .inl (cI, 60, .inl ta)), (o11, .inl (cI, 60, .inl tn))]) (fun _ => rfl) (by decide) rfl hl.1 rfl (Nat.le_of_ble_eq_true rfl) (by decide) (by decide) d_Model_one_313 (fun u0 H locs hcq hP hD hS => ?_)
              refine lv_goto hx hb d_Model_one_316 rfl ?_
              exact pl_vret X hr hlk hK () trivial hP hD hS d_Model_one_342
  refine lv_aload_n hx hb d_Model_one_0 rfl (lv_at hl 0 rfl) ?_
  refine lv_aload_n hx hb d_Model_one_1 rfl (lv_at hl 0 rfl) ?_
  refine pl_get X fw_Model_115 hK hP 0 rfl (v := .int (nI pl)) rfl d_Model_one_2 ?_
  refine pl_put X fw_Model_118 fp_Model rfl hK hP hD hS 0 rfl (v := .int (nI pl)) rfl rfl (Nat.le_of_ble_eq_true rfl) d_Model_one_5 (ws' := [(m0, .inr (6, [.int (nI co), .int (nI np), .ref o1, .ref o2, .ref o3, .int (nI n), .ref o4, .ref o5, .ref o6, .ref o7, .int fo1, .int fk1, .int (nI 1), .int (nI how), .int (nI pl), .int (nI pl), .int (nI stt), .int (nI (q + 2)), .ref o8, .ref o9, .int (nI dn), .ref o10, .ref o11])), (o1, .inl (cI, 24, .inl P)), (o2, .inl (cI, 24, .inl K)), (o4, .inl (cZ, 32, .inl ru)), (o5, .inl (cI, 32, .inl lo)), (o6, .inl (cI, 32, .inl hi)), (o7, .inl (cI, 32, .inl tm)), (o8, .inl (cI, 20, .inl sa)), (o9, .inl (cI, 8, .inl ca)), (o10, .inl (cI, 60, .inl ta)), (o11, .inl (cI, 60, .inl tn))]) rfl (fun H locs hP hD hS => ?_)
  refine lv_aload_n hx hb d_Model_one_8 rfl (lv_at hl 0 rfl) ?_
  refine pl_get X fw_Model_112 hK hP 0 rfl (v := .int (nI how)) rfl d_Model_one_9 ?_
  refine lv_iconst (v := nI 1) hx hb d_Model_one_12 (by decide) ?_
  refine pl_icmp_ne X (by omega) (by decide) d_Model_one_13 rfl (fun g13 => ?_) (fun g13 => ?_)
  · skip
    refine lv_aload_n hx hb d_Model_one_27 rfl (lv_at hl 0 rfl) ?_
    refine lv_aload_n hx hb d_Model_one_28 rfl (lv_at hl 0 rfl) ?_
    refine pl_get X fw_Model_7 hK hP 0 rfl (v := .ref o1) rfl d_Model_one_29 ?_
    refine lv_aload_n hx hb d_Model_one_32 rfl (lv_at hl 0 rfl) ?_
    refine pl_get X fw_Model_115 hK hP 0 rfl (v := .int (nI pl)) rfl d_Model_one_33 ?_
    refine pl_iald X hK hP 1 0 rfl rfl pl (by have := (hO.2 g13).1; omega) (by decide) (z := nI 10) (hO.2 g13).2.1 d_Model_one_36 ?_
    refine lv_aload_n hx hb d_Model_one_37 rfl (lv_at hl 0 rfl) ?_
    refine pl_get X fw_Model_13 hK hP 0 rfl (v := .ref o2) rfl d_Model_one_38 ?_
    refine lv_aload_n hx hb d_Model_one_41 rfl (lv_at hl 0 rfl) ?_
    refine pl_get X fw_Model_115 hK hP 0 rfl (v := .int (nI pl)) rfl d_Model_one_42 ?_
    refine pl_iald X hK hP 2 0 rfl rfl pl (by have := (hO.2 g13).1; omega) (by decide) (z := kx) (hO.2 g13).2.2 d_Model_one_45 ?_
    refine pl_callVV X (rest := []) (As := [.int (nI 10), .int kx]) (b := m0) (c_Model_set l D cI cZ cL m0 o1 o2 o3 o4 o5 o6 o7 o8 o9 o10 o11 P K Hm ru lo hi tm sa ca ta tn fo1 fk1 co np n 1 how pl pl stt (q + 2) dn (nI 10) kx) ck_Model_100 pl_E0_ok trivial hK hP hD hS hA (T := F_Model) (N := N_Model) (ci := 6) rfl 0 rfl [0] [1, 2, 3, 4, 5, 6, 7, 8, 9, 10] [10, 0, 1, 2, 3, 4, 5, 6, 7, 8, 9] rfl (by decide) (wr := [(o1, .inl (cI, 24, .inl P)), (o2, .inl (cI, 24, .inl K)), (o4, .inl (cZ, 32, .inl ru)), (o5, .inl (cI, 32, .inl lo)), (o6, .inl (cI, 32, .inl hi)), (o7, .inl (cI, 32, .inl tm)), (o8, .inl (cI, 20, .inl sa)), (o9, .inl (cI, 8, .inl ca)), (o10, .inl (cI, 60, .inl ta)), (o11, .inl (cI, 60, .inl tn))]) rfl (by decide) (by decide) (wf := fun _ => [(m0, .inr (6, [.int (nI co), .int (nI np), .ref o1, .ref o2, .ref o3, .int (nI n), .ref o4, .ref o5, .ref o6, .ref o7, .int (nI 10), .int kx, .int (nI 1), .int (nI how), .int (nI pl), .int (nI pl), .int (nI stt), .int (nI (q + 2)), .ref o8, .ref o9, .int (nI dn), .ref o10, .ref o11])), (o1, .inl (cI, 24, .inl P)), (o2, .inl (cI, 24, .inl K)), (o4, .inl (cZ, 32, .inl ru)), (o5, .inl (cI, 32, .inl lo)), (o6, .inl (cI, 32, .inl hi)), (o7, .inl (cI, 32, .inl tm)), (o8, .inl (cI, 20, .inl sa)), (o9, .inl (cI, 8, .inl ca)), (o10, .inl (cI, 60, .inl ta)), (o11, .inl (cI, 60, .inl tn))]) (fun _ => rfl) (by decide) rfl hl.1 rfl (Nat.le_of_ble_eq_true rfl) (by decide) (by decide) d_Model_one_46 (fun u0 H locs hcq hP hD hS => ?_)
    exact join_49 (()) _ _ _ hP hD hS hl
  · skip
    refine lv_aload_n hx hb d_Model_one_16 rfl (lv_at hl 0 rfl) ?_
    refine lv_aload_n hx hb d_Model_one_17 rfl (lv_at hl 0 rfl) ?_
    refine pl_get X fw_Model_115 hK hP 0 rfl (v := .int (nI pl)) rfl d_Model_one_18 ?_
    refine pl_callVV X (rest := []) (As := [.int (nI pl)]) (b := m0) (c_Model_find l D cI cZ cL m0 o1 o2 o3 o4 o5 o6 o7 o8 o9 o10 o11 P K Hm ru lo hi tm sa ca ta tn fo1 fk1 co np n 1 how pl pl stt (q + 2) dn th pl hn hnp hop hok hru (hO.1 g13).1) ck_Model_108 pl_E0_ok trivial hK hP hD hS hA (T := F_Model) (N := N_Model) (ci := 6) rfl 0 rfl [0, 1, 2, 3, 4, 5, 6] [7, 8, 9, 10] [4, 5, 6, 7, 8, 9, 10, 0, 1, 2, 3] rfl (by decide) (wr := [(o8, .inl (cI, 20, .inl sa)), (o9, .inl (cI, 8, .inl ca)), (o10, .inl (cI, 60, .inl ta)), (o11, .inl (cI, 60, .inl tn))]) rfl (by decide) (by decide) (wf := fun (uf : Int32 × Int32) => [(m0, .inr (6, [.int (nI co), .int (nI np), .ref o1, .ref o2, .ref o3, .int (nI n), .ref o4, .ref o5, .ref o6, .ref o7, .int uf.1, .int uf.2, .int (nI 1), .int (nI how), .int (nI pl), .int (nI pl), .int (nI stt), .int (nI (q + 2)), .ref o8, .ref o9, .int (nI dn), .ref o10, .ref o11])), (o1, .inl (cI, 24, .inl P)), (o2, .inl (cI, 24, .inl K)), (o4, .inl (cZ, 32, .inl ru)), (o5, .inl (cI, 32, .inl lo)), (o6, .inl (cI, 32, .inl hi)), (o7, .inl (cI, 32, .inl tm)), (o8, .inl (cI, 20, .inl sa)), (o9, .inl (cI, 8, .inl ca)), (o10, .inl (cI, 60, .inl ta)), (o11, .inl (cI, 60, .inl tn))]) (fun _ => rfl) (by decide) rfl hl.1 rfl (Nat.le_of_ble_eq_true rfl) (by decide) (by decide) d_Model_one_21 (fun uf H locs hcq hP hD hS => ?_)
    obtain ⟨hc1, hc2⟩ := hcq
    have hu9 : uf = (nI 10, kx) := Prod.ext (hc1.trans (hO.1 g13).2.1) (hc2.trans (hO.1 g13).2.2)
    subst hu9
    refine lv_goto hx hb d_Model_one_24 rfl ?_
    exact join_49 (()) _ _ _ hP hD hS hl

set_option maxHeartbeats 4000000 in
set_option maxRecDepth 100000 in
theorem c_Model_one_11 (l : Launch) (D : va_G) (cI cZ cL : ClassId) (m0 o1 o2 o3 o4 o5 o6 o7 o8 o9 o10 o11 : Nat) (P K Hm ru lo hi tm sa ca ta tn : Nat → Int32) (fo1 fk1 : Int32) (co np n stat how pl la stt q dn : Nat) (th : Nat → Int32) (kx : Int32) (hn : n ≤ 4) (hnp : np ≤ 24) (hop : okP P np) (hok : okK P K np) (hru : rulR ru tm th) (hO : (how = 1 → pl < plc P K th n np ∧ (wO P K th n np).getD pl 0 = nI 11 ∧ (wK P K lo hi th n np).getD pl 0 = kx) ∧ (¬ how = 1 → pl < np ∧ P pl = nI 11 ∧ K pl = kx)) (hh : how ≤ 2) (hpl : pl < 2000) (hq : q + 1 < 20) : pl_V l y_Model_one b_Model_one 5 ({ frames := 4, cells := 0, slots := 0, locals := 91 } : Room) pl_E0 D classes (TY cI cZ cL) [.ref m0] [(m0, .inr (6, [.int (nI co), .int (nI np), .ref o1, .ref o2, .ref o3, .int (nI n), .ref o4, .ref o5, .ref o6, .ref o7, .int fo1, .int fk1, .int (nI 1), .int (nI how), .int (nI pl), .int (nI la), .int (nI stt), .int (nI (q + 1)), .ref o8, .ref o9, .int (nI dn), .ref o10, .ref o11])), (o1, .inl (cI, 24, .inl P)), (o2, .inl (cI, 24, .inl K)), (o4, .inl (cZ, 32, .inl ru)), (o5, .inl (cI, 32, .inl lo)), (o6, .inl (cI, 32, .inl hi)), (o7, .inl (cI, 32, .inl tm)), (o8, .inl (cI, 20, .inl sa)), (o9, .inl (cI, 8, .inl ca)), (o10, .inl (cI, 60, .inl ta)), (o11, .inl (cI, 60, .inl tn))] (fun _ : Unit => True) (fun (_ : Unit) => [(m0, .inr (6, [.int (nI co), .int (nI np), .ref o1, .ref o2, .ref o3, .int (nI n), .ref o4, .ref o5, .ref o6, .ref o7, .int (nI 11), .int kx, .int (nI 1), .int (nI how), .int (nI (pl + 1)), .int (nI pl), .int (nI stt), .int (nI (q + 2)), .ref o8, .ref o9, .int (nI dn), .ref o10, .ref o11])), (o1, .inl (cI, 24, .inl P)), (o2, .inl (cI, 24, .inl K)), (o4, .inl (cZ, 32, .inl ru)), (o5, .inl (cI, 32, .inl lo)), (o6, .inl (cI, 32, .inl hi)), (o7, .inl (cI, 32, .inl tm)), (o8, .inl (cI, 20, .inl (upd sa (q + 1) (sa q)))), (o9, .inl (cI, 8, .inl ca)), (o10, .inl (cI, 60, .inl ta)), (o11, .inl (cI, 60, .inl tn))]) := by
  refine pl_startV (by decide) (Nat.le_of_ble_eq_true rfl) ?_
  intro p e s m args below meth c A ls X hr hlk hin hK hP hD hS hA hE hl
  have X : CallFix p m c b_Model_one 5 s args TG R_Model := X
  have hx := X.1
  have hb := X.2.1
  have hl : lv_has ls 5 [(0, .ref m0)] := hl
  have join_49 : ∀ (_ : Unit) (H : Heap) (locs : List Loc) (ls : Array Slot), va_P D classes [(m0, .inr (6, [.int (nI co), .int (nI np), .ref o1, .ref o2, .ref o3, .int (nI n), .ref o4, .ref o5, .ref o6, .ref o7, .int (nI 11), .int kx, .int (nI 1), .int (nI how), .int (nI pl), .int (nI pl), .int (nI stt), .int (nI (q + 1)), .ref o8, .ref o9, .int (nI dn), .ref o10, .ref o11])), (o1, .inl (cI, 24, .inl P)), (o2, .inl (cI, 24, .inl K)), (o4, .inl (cZ, 32, .inl ru)), (o5, .inl (cI, 32, .inl lo)), (o6, .inl (cI, 32, .inl hi)), (o7, .inl (cI, 32, .inl tm)), (o8, .inl (cI, 20, .inl sa)), (o9, .inl (cI, 8, .inl ca)), (o10, .inl (cI, 60, .inl ta)), (o11, .inl (cI, 60, .inl tn))] H → va_D A [(m0, .inr (6, [.int (nI co), .int (nI np), .ref o1, .ref o2, .ref o3, .int (nI n), .ref o4, .ref o5, .ref o6, .ref o7, .int (nI 11), .int kx, .int (nI 1), .int (nI how), .int (nI pl), .int (nI pl), .int (nI stt), .int (nI (q + 1)), .ref o8, .ref o9, .int (nI dn), .ref o10, .ref o11])), (o1, .inl (cI, 24, .inl P)), (o2, .inl (cI, 24, .inl K)), (o4, .inl (cZ, 32, .inl ru)), (o5, .inl (cI, 32, .inl lo)), (o6, .inl (cI, 32, .inl hi)), (o7, .inl (cI, 32, .inl tm)), (o8, .inl (cI, 20, .inl sa)), (o9, .inl (cI, 8, .inl ca)), (o10, .inl (cI, 60, .inl ta)), (o11, .inl (cI, 60, .inl tn))] → va_S A s.heap H locs → lv_has ls 5 [(0, .ref m0)] → W p l e ({ frames := 4, cells := 0, slots := 0, locals := 91 } : Room) s m args below meth c H locs 0 0 (MQ below (va_Qv (fun _ : Unit => True) (fun u => pl_out D classes (TY cI cZ cL) A ((fun (_ : Unit) => [(m0, .inr (6, [.int (nI co), .int (nI np), .ref o1, .ref o2, .ref o3, .int (nI n), .ref o4, .ref o5, .ref o6, .ref o7, .int (nI 11), .int kx, .int (nI 1), .int (nI how), .int (nI (pl + 1)), .int (nI pl), .int (nI stt), .int (nI (q + 2)), .ref o8, .ref o9, .int (nI dn), .ref o10, .ref o11])), (o1, .inl (cI, 24, .inl P)), (o2, .inl (cI, 24, .inl K)), (o4, .inl (cZ, 32, .inl ru)), (o5, .inl (cI, 32, .inl lo)), (o6, .inl (cI, 32, .inl hi)), (o7, .inl (cI, 32, .inl tm)), (o8, .inl (cI, 20, .inl (upd sa (q + 1) (sa q)))), (o9, .inl (cI, 8, .inl ca)), (o10, .inl (cI, 60, .inl ta)), (o11, .inl (cI, 60, .inl tn))]) u)) A) args s 0 0 A) (F0 m 49 ls []) := by
    intro _ H locs ls hP hD hS hl
    refine lv_aload_n hx hb d_Model_one_49 rfl (lv_at hl 0 rfl) ?_
    refine pl_get X fw_Model_91 hK hP 0 rfl (v := .int (nI 11)) rfl d_Model_one_50 ?_
    refine lv_istore_n hx hb d_Model_one_53 rfl hl (by decide) (lv' := [(1, .int (nI 11)), (0, .ref m0)]) rfl (fun ls hl => ?_)
    refine lv_aload_n hx hb d_Model_one_54 rfl (lv_at hl 1 rfl) ?_
    refine pl_get X fw_Model_94 hK hP 0 rfl (v := .int kx) rfl d_Model_one_55 ?_
    refine lv_istore_n hx hb d_Model_one_58 rfl hl (by decide) (lv' := [(2, .int kx), (1, .int (nI 11)), (0, .ref m0)]) rfl (fun ls hl => ?_)
    refine lv_aload_n hx hb d_Model_one_59 rfl (lv_at hl 2 rfl) ?_
    refine lv_dup hx hb d_Model_one_60 rfl ?_
    refine pl_get X fw_Model_115 hK hP 0 rfl (v := .int (nI pl)) rfl d_Model_one_61 ?_
    refine lv_iconst (v := nI 1) hx hb d_Model_one_64 (by decide) ?_
    refine pl_iadd X d_Model_one_65 (z := nI (pl + 1)) (nI_add _ _) ?_
    refine pl_put X fw_Model_115 fp_Model rfl hK hP hD hS 0 rfl (v := .int (nI (pl + 1))) rfl rfl (Nat.le_of_ble_eq_true rfl) d_Model_one_66 (ws' := [(m0, .inr (6, [.int (nI co), .int (nI np), .ref o1, .ref o2, .ref o3, .int (nI n), .ref o4, .ref o5, .ref o6, .ref o7, .int (nI 11), .int kx, .int (nI 1), .int (nI how), .int (nI (pl + 1)), .int (nI pl), .int (nI stt), .int (nI (q + 1)), .ref o8, .ref o9, .int (nI dn), .ref o10, .ref o11])), (o1, .inl (cI, 24, .inl P)), (o2, .inl (cI, 24, .inl K)), (o4, .inl (cZ, 32, .inl ru)), (o5, .inl (cI, 32, .inl lo)), (o6, .inl (cI, 32, .inl hi)), (o7, .inl (cI, 32, .inl tm)), (o8, .inl (cI, 20, .inl sa)), (o9, .inl (cI, 8, .inl ca)), (o10, .inl (cI, 60, .inl ta)), (o11, .inl (cI, 60, .inl tn))]) rfl (fun H locs hP hD hS => ?_)
    refine lv_iload_n hx hb d_Model_one_69 rfl (lv_at hl 1 rfl) ?_
    refine pl_callSI X (rest := []) (As := [.int (nI 11)]) (c_Model_takes_11 l D cI cZ cL) ck_Model_71 pl_E0_ok trivial hK hP hD hS hA [] [0, 1, 2, 3, 4, 5, 6, 7, 8, 9, 10] [0, 1, 2, 3, 4, 5, 6, 7, 8, 9, 10] rfl (by decide) (wr := [(m0, .inr (6, [.int (nI co), .int (nI np), .ref o1, .ref o2, .ref o3, .int (nI n), .ref o4, .ref o5, .ref o6, .ref o7, .int (nI 11), .int kx, .int (nI 1), .int (nI how), .int (nI (pl + 1)), .int (nI pl), .int (nI stt), .int (nI (q + 1)), .ref o8, .ref o9, .int (nI dn), .ref o10, .ref o11])), (o1, .inl (cI, 24, .inl P)), (o2, .inl (cI, 24, .inl K)), (o4, .inl (cZ, 32, .inl ru)), (o5, .inl (cI, 32, .inl lo)), (o6, .inl (cI, 32, .inl hi)), (o7, .inl (cI, 32, .inl tm)), (o8, .inl (cI, 20, .inl sa)), (o9, .inl (cI, 8, .inl ca)), (o10, .inl (cI, 60, .inl ta)), (o11, .inl (cI, 60, .inl tn))]) rfl (by decide) (by decide) (wf := fun _ => [(m0, .inr (6, [.int (nI co), .int (nI np), .ref o1, .ref o2, .ref o3, .int (nI n), .ref o4, .ref o5, .ref o6, .ref o7, .int (nI 11), .int kx, .int (nI 1), .int (nI how), .int (nI (pl + 1)), .int (nI pl), .int (nI stt), .int (nI (q + 1)), .ref o8, .ref o9, .int (nI dn), .ref o10, .ref o11])), (o1, .inl (cI, 24, .inl P)), (o2, .inl (cI, 24, .inl K)), (o4, .inl (cZ, 32, .inl ru)), (o5, .inl (cI, 32, .inl lo)), (o6, .inl (cI, 32, .inl hi)), (o7, .inl (cI, 32, .inl tm)), (o8, .inl (cI, 20, .inl sa)), (o9, .inl (cI, 8, .inl ca)), (o10, .inl (cI, 60, .inl ta)), (o11, .inl (cI, 60, .inl tn))]) (fun _ => rfl) (by decide) rfl hl.1 rfl (Nat.le_of_ble_eq_true rfl) (by decide) (by decide) d_Model_one_70 (fun r u0 H locs hcq hP hD hS => ?_)
    subst hcq
    refine lv_iconst (v := nI 2) hx hb d_Model_one_73 (by decide) ?_
    refine pl_icmp_ne X (by decide) (by decide) d_Model_one_74 rfl (fun gL => ?_) (fun gL => ?_)
    · skip
      refine lv_iconst (v := nI 0) hx hb d_Model_one_84 (by decide) ?_
      refine lv_istore_n hx hb d_Model_one_85 rfl hl (by decide) (lv' := [(3, .int (nI 0)), (2, .int kx), (1, .int (nI 11)), (0, .ref m0)]) rfl (fun ls hl => ?_)
      refine lv_iload_n hx hb d_Model_one_86 rfl (lv_at hl 2 rfl) ?_
      refine lv_iconst (v := nI 2) hx hb d_Model_one_87 (by decide) ?_
      refine pl_icmp_eq X (by decide) (by decide) d_Model_one_88 rfl (fun gL => ?_) (fun gL => ?_)
      · skip
        exact absurd gL (by decide)
      · skip
        refine lv_iload_n hx hb d_Model_one_91 rfl (lv_at hl 2 rfl) ?_
        refine lv_iconst (v := nI 3) hx hb d_Model_one_92 (by decide) ?_
        refine pl_icmp_eq X (by decide) (by decide) d_Model_one_93 rfl (fun gL => ?_) (fun gL => ?_)
        · skip
          exact absurd gL (by decide)
        · skip
          refine lv_iload_n hx hb d_Model_one_96 rfl (lv_at hl 2 rfl) ?_
          refine lv_iconst (v := nI 4) hx hb d_Model_one_97 (by decide) ?_
          refine pl_icmp_eq X (by decide) (by decide) d_Model_one_98 rfl (fun gL => ?_) (fun gL => ?_)
          · skip
            exact absurd gL (by decide)
          · skip
            refine lv_iload_n hx hb d_Model_one_101 rfl (lv_at hl 2 rfl) ?_
            refine lv_bipush (v := nI 10) hx hb d_Model_one_102 (by decide) ?_
            refine pl_icmp_ne X (by decide) (by decide) d_Model_one_104 rfl (fun gL => ?_) (fun gL => ?_)
            · skip
              refine lv_iconst (v := nI 0) hx hb d_Model_one_114 (by decide) ?_
              refine lv_istore hx hb d_Model_one_115 hl (by decide) (lv' := [(4, .int (nI 0)), (3, .int (nI 0)), (2, .int kx), (1, .int (nI 11)), (0, .ref m0)]) rfl (fun ls hl => ?_)
              refine lv_iload_n hx hb d_Model_one_117 rfl (lv_at hl 3 rfl) ?_
              refine lv_tableIn hx hb d_Model_one_118 (by decide) (by decide) (off := 201) (by decide) (tgt := 319) rfl ?_
              refine lv_aload_n hx hb d_Model_one_319 rfl (lv_at hl 4 rfl) ?_
              refine lv_aload_n hx hb d_Model_one_320 rfl (lv_at hl 4 rfl) ?_
              refine pl_get X fw_Model_36 hK hP 0 rfl (v := .ref o8) rfl d_Model_one_321 ?_
              refine lv_aload_n hx hb d_Model_one_324 rfl (lv_at hl 4 rfl) ?_
              refine pl_get X fw_Model_124 hK hP 0 rfl (v := .int (nI (q + 1))) rfl d_Model_one_325 ?_
              refine lv_iconst (v := nI 1) hx hb d_Model_one_328 (by decide) ?_
              refine pl_isub X d_Model_one_329 (z := nI q) (nI_dec _) ?_
              refine pl_iald X hK hP 7 0 rfl rfl q (by omega) (by decide) (z := sa q) rfl d_Model_one_330 ?_
              refine pl_callVV X (rest := []) (As := [.int (sa q)]) (b := m0) (c_Model_push l D cI cZ cL m0 o1 o2 o3 o4 o5 o6 o7 o8 o9 o10 o11 P K Hm ru lo hi tm sa ca ta tn (nI 11) kx co np n 1 how (pl + 1) pl stt (q + 1) dn (sa q) (by omega)) ck_Model_134 pl_E0_ok trivial hK hP hD hS hA (T := F_Model) (N := N_Model) (ci := 6) rfl 0 rfl [0, 7] [1, 2, 3, 4, 5, 6, 8, 9, 10] [9, 0, 1, 2, 3, 4, 5, 10, 6, 7, 8] rfl (by decide) (wr := [(o1, .inl (cI, 24, .inl P)), (o2, .inl (cI, 24, .inl K)), (o4, .inl (cZ, 32, .inl ru)), (o5, .inl (cI, 32, .inl lo)), (o6, .inl (cI, 32, .inl hi)), (o7, .inl (cI, 32, .inl tm)), (o9, .inl (cI, 8, .inl ca)), (o10, .inl (cI, 60, .inl ta)), (o11, .inl (cI, 60, .inl tn))]) rfl (by decide) (by decide) (wf := fun _ => [(m0, .inr (6, [.int (nI co), .int (nI np), .ref o1, .ref o2, .ref o3, .int (nI n), .ref o4, .ref o5, .ref o6, .ref o7, .int (nI 11), .int kx, .int (nI 1), .int (nI how), .int (nI (pl + 1)), .int (nI pl), .int (nI stt), .int (nI (q + 1 + 1)), .ref o8, .ref o9, .int (nI dn), .ref o10, .ref o11])), (o1, .inl (cI, 24, .inl P)), (o2, .inl (cI, 24, .inl K)), (o4, .inl (cZ, 32, .inl ru)), (o5, .inl (cI, 32, .inl lo)), (o6, .inl (cI, 32, .inl hi)), (o7, .inl (cI, 32, .inl tm)), (o8, .inl (cI, 20, .inl (upd sa (q + 1) (sa q)))), (o9, .inl (cI, 8, .inl ca)), (o10, .inl (cI, 60, .inl ta)), (o11, .inl (cI, 60, .inl tn))]) (fun _ => rfl) (by decide) rfl hl.1 rfl (Nat.le_of_ble_eq_true rfl) (by decide) (by decide) d_Model_one_331 (fun u0 H locs hcq hP hD hS => ?_)
              refine lv_goto hx hb d_Model_one_334 rfl ?_
              exact pl_vret X hr hlk hK () trivial hP hD hS d_Model_one_342
            · skip
              exact absurd gL (by decide)
    · skip
      exact absurd gL (by decide)
  refine lv_aload_n hx hb d_Model_one_0 rfl (lv_at hl 0 rfl) ?_
  refine lv_aload_n hx hb d_Model_one_1 rfl (lv_at hl 0 rfl) ?_
  refine pl_get X fw_Model_115 hK hP 0 rfl (v := .int (nI pl)) rfl d_Model_one_2 ?_
  refine pl_put X fw_Model_118 fp_Model rfl hK hP hD hS 0 rfl (v := .int (nI pl)) rfl rfl (Nat.le_of_ble_eq_true rfl) d_Model_one_5 (ws' := [(m0, .inr (6, [.int (nI co), .int (nI np), .ref o1, .ref o2, .ref o3, .int (nI n), .ref o4, .ref o5, .ref o6, .ref o7, .int fo1, .int fk1, .int (nI 1), .int (nI how), .int (nI pl), .int (nI pl), .int (nI stt), .int (nI (q + 1)), .ref o8, .ref o9, .int (nI dn), .ref o10, .ref o11])), (o1, .inl (cI, 24, .inl P)), (o2, .inl (cI, 24, .inl K)), (o4, .inl (cZ, 32, .inl ru)), (o5, .inl (cI, 32, .inl lo)), (o6, .inl (cI, 32, .inl hi)), (o7, .inl (cI, 32, .inl tm)), (o8, .inl (cI, 20, .inl sa)), (o9, .inl (cI, 8, .inl ca)), (o10, .inl (cI, 60, .inl ta)), (o11, .inl (cI, 60, .inl tn))]) rfl (fun H locs hP hD hS => ?_)
  refine lv_aload_n hx hb d_Model_one_8 rfl (lv_at hl 0 rfl) ?_
  refine pl_get X fw_Model_112 hK hP 0 rfl (v := .int (nI how)) rfl d_Model_one_9 ?_
  refine lv_iconst (v := nI 1) hx hb d_Model_one_12 (by decide) ?_
  refine pl_icmp_ne X (by omega) (by decide) d_Model_one_13 rfl (fun g13 => ?_) (fun g13 => ?_)
  · skip
    refine lv_aload_n hx hb d_Model_one_27 rfl (lv_at hl 0 rfl) ?_
    refine lv_aload_n hx hb d_Model_one_28 rfl (lv_at hl 0 rfl) ?_
    refine pl_get X fw_Model_7 hK hP 0 rfl (v := .ref o1) rfl d_Model_one_29 ?_
    refine lv_aload_n hx hb d_Model_one_32 rfl (lv_at hl 0 rfl) ?_
    refine pl_get X fw_Model_115 hK hP 0 rfl (v := .int (nI pl)) rfl d_Model_one_33 ?_
    refine pl_iald X hK hP 1 0 rfl rfl pl (by have := (hO.2 g13).1; omega) (by decide) (z := nI 11) (hO.2 g13).2.1 d_Model_one_36 ?_
    refine lv_aload_n hx hb d_Model_one_37 rfl (lv_at hl 0 rfl) ?_
    refine pl_get X fw_Model_13 hK hP 0 rfl (v := .ref o2) rfl d_Model_one_38 ?_
    refine lv_aload_n hx hb d_Model_one_41 rfl (lv_at hl 0 rfl) ?_
    refine pl_get X fw_Model_115 hK hP 0 rfl (v := .int (nI pl)) rfl d_Model_one_42 ?_
    refine pl_iald X hK hP 2 0 rfl rfl pl (by have := (hO.2 g13).1; omega) (by decide) (z := kx) (hO.2 g13).2.2 d_Model_one_45 ?_
    refine pl_callVV X (rest := []) (As := [.int (nI 11), .int kx]) (b := m0) (c_Model_set l D cI cZ cL m0 o1 o2 o3 o4 o5 o6 o7 o8 o9 o10 o11 P K Hm ru lo hi tm sa ca ta tn fo1 fk1 co np n 1 how pl pl stt (q + 1) dn (nI 11) kx) ck_Model_100 pl_E0_ok trivial hK hP hD hS hA (T := F_Model) (N := N_Model) (ci := 6) rfl 0 rfl [0] [1, 2, 3, 4, 5, 6, 7, 8, 9, 10] [10, 0, 1, 2, 3, 4, 5, 6, 7, 8, 9] rfl (by decide) (wr := [(o1, .inl (cI, 24, .inl P)), (o2, .inl (cI, 24, .inl K)), (o4, .inl (cZ, 32, .inl ru)), (o5, .inl (cI, 32, .inl lo)), (o6, .inl (cI, 32, .inl hi)), (o7, .inl (cI, 32, .inl tm)), (o8, .inl (cI, 20, .inl sa)), (o9, .inl (cI, 8, .inl ca)), (o10, .inl (cI, 60, .inl ta)), (o11, .inl (cI, 60, .inl tn))]) rfl (by decide) (by decide) (wf := fun _ => [(m0, .inr (6, [.int (nI co), .int (nI np), .ref o1, .ref o2, .ref o3, .int (nI n), .ref o4, .ref o5, .ref o6, .ref o7, .int (nI 11), .int kx, .int (nI 1), .int (nI how), .int (nI pl), .int (nI pl), .int (nI stt), .int (nI (q + 1)), .ref o8, .ref o9, .int (nI dn), .ref o10, .ref o11])), (o1, .inl (cI, 24, .inl P)), (o2, .inl (cI, 24, .inl K)), (o4, .inl (cZ, 32, .inl ru)), (o5, .inl (cI, 32, .inl lo)), (o6, .inl (cI, 32, .inl hi)), (o7, .inl (cI, 32, .inl tm)), (o8, .inl (cI, 20, .inl sa)), (o9, .inl (cI, 8, .inl ca)), (o10, .inl (cI, 60, .inl ta)), (o11, .inl (cI, 60, .inl tn))]) (fun _ => rfl) (by decide) rfl hl.1 rfl (Nat.le_of_ble_eq_true rfl) (by decide) (by decide) d_Model_one_46 (fun u0 H locs hcq hP hD hS => ?_)
    exact join_49 (()) _ _ _ hP hD hS hl
  · skip
    refine lv_aload_n hx hb d_Model_one_16 rfl (lv_at hl 0 rfl) ?_
    refine lv_aload_n hx hb d_Model_one_17 rfl (lv_at hl 0 rfl) ?_
    refine pl_get X fw_Model_115 hK hP 0 rfl (v := .int (nI pl)) rfl d_Model_one_18 ?_
    refine pl_callVV X (rest := []) (As := [.int (nI pl)]) (b := m0) (c_Model_find l D cI cZ cL m0 o1 o2 o3 o4 o5 o6 o7 o8 o9 o10 o11 P K Hm ru lo hi tm sa ca ta tn fo1 fk1 co np n 1 how pl pl stt (q + 1) dn th pl hn hnp hop hok hru (hO.1 g13).1) ck_Model_108 pl_E0_ok trivial hK hP hD hS hA (T := F_Model) (N := N_Model) (ci := 6) rfl 0 rfl [0, 1, 2, 3, 4, 5, 6] [7, 8, 9, 10] [4, 5, 6, 7, 8, 9, 10, 0, 1, 2, 3] rfl (by decide) (wr := [(o8, .inl (cI, 20, .inl sa)), (o9, .inl (cI, 8, .inl ca)), (o10, .inl (cI, 60, .inl ta)), (o11, .inl (cI, 60, .inl tn))]) rfl (by decide) (by decide) (wf := fun (uf : Int32 × Int32) => [(m0, .inr (6, [.int (nI co), .int (nI np), .ref o1, .ref o2, .ref o3, .int (nI n), .ref o4, .ref o5, .ref o6, .ref o7, .int uf.1, .int uf.2, .int (nI 1), .int (nI how), .int (nI pl), .int (nI pl), .int (nI stt), .int (nI (q + 1)), .ref o8, .ref o9, .int (nI dn), .ref o10, .ref o11])), (o1, .inl (cI, 24, .inl P)), (o2, .inl (cI, 24, .inl K)), (o4, .inl (cZ, 32, .inl ru)), (o5, .inl (cI, 32, .inl lo)), (o6, .inl (cI, 32, .inl hi)), (o7, .inl (cI, 32, .inl tm)), (o8, .inl (cI, 20, .inl sa)), (o9, .inl (cI, 8, .inl ca)), (o10, .inl (cI, 60, .inl ta)), (o11, .inl (cI, 60, .inl tn))]) (fun _ => rfl) (by decide) rfl hl.1 rfl (Nat.le_of_ble_eq_true rfl) (by decide) (by decide) d_Model_one_21 (fun uf H locs hcq hP hD hS => ?_)
    obtain ⟨hc1, hc2⟩ := hcq
    have hu9 : uf = (nI 11, kx) := Prod.ext (hc1.trans (hO.1 g13).2.1) (hc2.trans (hO.1 g13).2.2)
    subst hu9
    refine lv_goto hx hb d_Model_one_24 rfl ?_
    exact join_49 (()) _ _ _ hP hD hS hl

set_option maxHeartbeats 4000000 in
set_option maxRecDepth 100000 in
theorem c_Model_one_12 (l : Launch) (D : va_G) (cI cZ cL : ClassId) (m0 o1 o2 o3 o4 o5 o6 o7 o8 o9 o10 o11 : Nat) (P K Hm ru lo hi tm sa ca ta tn : Nat → Int32) (fo1 fk1 : Int32) (co np n stat how pl la stt q dn : Nat) (th : Nat → Int32) (kx : Int32) (hn : n ≤ 4) (hnp : np ≤ 24) (hop : okP P np) (hok : okK P K np) (hru : rulR ru tm th) (hO : (how = 1 → pl < plc P K th n np ∧ (wO P K th n np).getD pl 0 = nI 12 ∧ (wK P K lo hi th n np).getD pl 0 = kx) ∧ (¬ how = 1 → pl < np ∧ P pl = nI 12 ∧ K pl = kx)) (hh : how ≤ 2) (hpl : pl < 2000)  : pl_V l y_Model_one b_Model_one 5 ({ frames := 4, cells := 0, slots := 0, locals := 91 } : Room) pl_E0 D classes (TY cI cZ cL) [.ref m0] [(m0, .inr (6, [.int (nI co), .int (nI np), .ref o1, .ref o2, .ref o3, .int (nI n), .ref o4, .ref o5, .ref o6, .ref o7, .int fo1, .int fk1, .int (nI 1), .int (nI how), .int (nI pl), .int (nI la), .int (nI stt), .int (nI q), .ref o8, .ref o9, .int (nI dn), .ref o10, .ref o11])), (o1, .inl (cI, 24, .inl P)), (o2, .inl (cI, 24, .inl K)), (o4, .inl (cZ, 32, .inl ru)), (o5, .inl (cI, 32, .inl lo)), (o6, .inl (cI, 32, .inl hi)), (o7, .inl (cI, 32, .inl tm)), (o8, .inl (cI, 20, .inl sa)), (o9, .inl (cI, 8, .inl ca)), (o10, .inl (cI, 60, .inl ta)), (o11, .inl (cI, 60, .inl tn))] (fun _ : Unit => True) (fun (_ : Unit) => [(m0, .inr (6, [.int (nI co), .int (nI np), .ref o1, .ref o2, .ref o3, .int (nI n), .ref o4, .ref o5, .ref o6, .ref o7, .int (nI 12), .int kx, .int (nI 2), .int (nI how), .int (nI (pl + 1)), .int (nI pl), .int (nI stt), .int (nI q), .ref o8, .ref o9, .int (nI dn), .ref o10, .ref o11])), (o1, .inl (cI, 24, .inl P)), (o2, .inl (cI, 24, .inl K)), (o4, .inl (cZ, 32, .inl ru)), (o5, .inl (cI, 32, .inl lo)), (o6, .inl (cI, 32, .inl hi)), (o7, .inl (cI, 32, .inl tm)), (o8, .inl (cI, 20, .inl sa)), (o9, .inl (cI, 8, .inl ca)), (o10, .inl (cI, 60, .inl ta)), (o11, .inl (cI, 60, .inl tn))]) := by
  refine pl_startV (by decide) (Nat.le_of_ble_eq_true rfl) ?_
  intro p e s m args below meth c A ls X hr hlk hin hK hP hD hS hA hE hl
  have X : CallFix p m c b_Model_one 5 s args TG R_Model := X
  have hx := X.1
  have hb := X.2.1
  have hl : lv_has ls 5 [(0, .ref m0)] := hl
  have join_49 : ∀ (_ : Unit) (H : Heap) (locs : List Loc) (ls : Array Slot), va_P D classes [(m0, .inr (6, [.int (nI co), .int (nI np), .ref o1, .ref o2, .ref o3, .int (nI n), .ref o4, .ref o5, .ref o6, .ref o7, .int (nI 12), .int kx, .int (nI 1), .int (nI how), .int (nI pl), .int (nI pl), .int (nI stt), .int (nI q), .ref o8, .ref o9, .int (nI dn), .ref o10, .ref o11])), (o1, .inl (cI, 24, .inl P)), (o2, .inl (cI, 24, .inl K)), (o4, .inl (cZ, 32, .inl ru)), (o5, .inl (cI, 32, .inl lo)), (o6, .inl (cI, 32, .inl hi)), (o7, .inl (cI, 32, .inl tm)), (o8, .inl (cI, 20, .inl sa)), (o9, .inl (cI, 8, .inl ca)), (o10, .inl (cI, 60, .inl ta)), (o11, .inl (cI, 60, .inl tn))] H → va_D A [(m0, .inr (6, [.int (nI co), .int (nI np), .ref o1, .ref o2, .ref o3, .int (nI n), .ref o4, .ref o5, .ref o6, .ref o7, .int (nI 12), .int kx, .int (nI 1), .int (nI how), .int (nI pl), .int (nI pl), .int (nI stt), .int (nI q), .ref o8, .ref o9, .int (nI dn), .ref o10, .ref o11])), (o1, .inl (cI, 24, .inl P)), (o2, .inl (cI, 24, .inl K)), (o4, .inl (cZ, 32, .inl ru)), (o5, .inl (cI, 32, .inl lo)), (o6, .inl (cI, 32, .inl hi)), (o7, .inl (cI, 32, .inl tm)), (o8, .inl (cI, 20, .inl sa)), (o9, .inl (cI, 8, .inl ca)), (o10, .inl (cI, 60, .inl ta)), (o11, .inl (cI, 60, .inl tn))] → va_S A s.heap H locs → lv_has ls 5 [(0, .ref m0)] → W p l e ({ frames := 4, cells := 0, slots := 0, locals := 91 } : Room) s m args below meth c H locs 0 0 (MQ below (va_Qv (fun _ : Unit => True) (fun u => pl_out D classes (TY cI cZ cL) A ((fun (_ : Unit) => [(m0, .inr (6, [.int (nI co), .int (nI np), .ref o1, .ref o2, .ref o3, .int (nI n), .ref o4, .ref o5, .ref o6, .ref o7, .int (nI 12), .int kx, .int (nI 2), .int (nI how), .int (nI (pl + 1)), .int (nI pl), .int (nI stt), .int (nI q), .ref o8, .ref o9, .int (nI dn), .ref o10, .ref o11])), (o1, .inl (cI, 24, .inl P)), (o2, .inl (cI, 24, .inl K)), (o4, .inl (cZ, 32, .inl ru)), (o5, .inl (cI, 32, .inl lo)), (o6, .inl (cI, 32, .inl hi)), (o7, .inl (cI, 32, .inl tm)), (o8, .inl (cI, 20, .inl sa)), (o9, .inl (cI, 8, .inl ca)), (o10, .inl (cI, 60, .inl ta)), (o11, .inl (cI, 60, .inl tn))]) u)) A) args s 0 0 A) (F0 m 49 ls []) := by
    intro _ H locs ls hP hD hS hl
    refine lv_aload_n hx hb d_Model_one_49 rfl (lv_at hl 0 rfl) ?_
    refine pl_get X fw_Model_91 hK hP 0 rfl (v := .int (nI 12)) rfl d_Model_one_50 ?_
    refine lv_istore_n hx hb d_Model_one_53 rfl hl (by decide) (lv' := [(1, .int (nI 12)), (0, .ref m0)]) rfl (fun ls hl => ?_)
    refine lv_aload_n hx hb d_Model_one_54 rfl (lv_at hl 1 rfl) ?_
    refine pl_get X fw_Model_94 hK hP 0 rfl (v := .int kx) rfl d_Model_one_55 ?_
    refine lv_istore_n hx hb d_Model_one_58 rfl hl (by decide) (lv' := [(2, .int kx), (1, .int (nI 12)), (0, .ref m0)]) rfl (fun ls hl => ?_)
    refine lv_aload_n hx hb d_Model_one_59 rfl (lv_at hl 2 rfl) ?_
    refine lv_dup hx hb d_Model_one_60 rfl ?_
    refine pl_get X fw_Model_115 hK hP 0 rfl (v := .int (nI pl)) rfl d_Model_one_61 ?_
    refine lv_iconst (v := nI 1) hx hb d_Model_one_64 (by decide) ?_
    refine pl_iadd X d_Model_one_65 (z := nI (pl + 1)) (nI_add _ _) ?_
    refine pl_put X fw_Model_115 fp_Model rfl hK hP hD hS 0 rfl (v := .int (nI (pl + 1))) rfl rfl (Nat.le_of_ble_eq_true rfl) d_Model_one_66 (ws' := [(m0, .inr (6, [.int (nI co), .int (nI np), .ref o1, .ref o2, .ref o3, .int (nI n), .ref o4, .ref o5, .ref o6, .ref o7, .int (nI 12), .int kx, .int (nI 1), .int (nI how), .int (nI (pl + 1)), .int (nI pl), .int (nI stt), .int (nI q), .ref o8, .ref o9, .int (nI dn), .ref o10, .ref o11])), (o1, .inl (cI, 24, .inl P)), (o2, .inl (cI, 24, .inl K)), (o4, .inl (cZ, 32, .inl ru)), (o5, .inl (cI, 32, .inl lo)), (o6, .inl (cI, 32, .inl hi)), (o7, .inl (cI, 32, .inl tm)), (o8, .inl (cI, 20, .inl sa)), (o9, .inl (cI, 8, .inl ca)), (o10, .inl (cI, 60, .inl ta)), (o11, .inl (cI, 60, .inl tn))]) rfl (fun H locs hP hD hS => ?_)
    refine lv_iload_n hx hb d_Model_one_69 rfl (lv_at hl 1 rfl) ?_
    refine pl_callSI X (rest := []) (As := [.int (nI 12)]) (c_Model_takes_12 l D cI cZ cL) ck_Model_71 pl_E0_ok trivial hK hP hD hS hA [] [0, 1, 2, 3, 4, 5, 6, 7, 8, 9, 10] [0, 1, 2, 3, 4, 5, 6, 7, 8, 9, 10] rfl (by decide) (wr := [(m0, .inr (6, [.int (nI co), .int (nI np), .ref o1, .ref o2, .ref o3, .int (nI n), .ref o4, .ref o5, .ref o6, .ref o7, .int (nI 12), .int kx, .int (nI 1), .int (nI how), .int (nI (pl + 1)), .int (nI pl), .int (nI stt), .int (nI q), .ref o8, .ref o9, .int (nI dn), .ref o10, .ref o11])), (o1, .inl (cI, 24, .inl P)), (o2, .inl (cI, 24, .inl K)), (o4, .inl (cZ, 32, .inl ru)), (o5, .inl (cI, 32, .inl lo)), (o6, .inl (cI, 32, .inl hi)), (o7, .inl (cI, 32, .inl tm)), (o8, .inl (cI, 20, .inl sa)), (o9, .inl (cI, 8, .inl ca)), (o10, .inl (cI, 60, .inl ta)), (o11, .inl (cI, 60, .inl tn))]) rfl (by decide) (by decide) (wf := fun _ => [(m0, .inr (6, [.int (nI co), .int (nI np), .ref o1, .ref o2, .ref o3, .int (nI n), .ref o4, .ref o5, .ref o6, .ref o7, .int (nI 12), .int kx, .int (nI 1), .int (nI how), .int (nI (pl + 1)), .int (nI pl), .int (nI stt), .int (nI q), .ref o8, .ref o9, .int (nI dn), .ref o10, .ref o11])), (o1, .inl (cI, 24, .inl P)), (o2, .inl (cI, 24, .inl K)), (o4, .inl (cZ, 32, .inl ru)), (o5, .inl (cI, 32, .inl lo)), (o6, .inl (cI, 32, .inl hi)), (o7, .inl (cI, 32, .inl tm)), (o8, .inl (cI, 20, .inl sa)), (o9, .inl (cI, 8, .inl ca)), (o10, .inl (cI, 60, .inl ta)), (o11, .inl (cI, 60, .inl tn))]) (fun _ => rfl) (by decide) rfl hl.1 rfl (Nat.le_of_ble_eq_true rfl) (by decide) (by decide) d_Model_one_70 (fun r u0 H locs hcq hP hD hS => ?_)
    subst hcq
    refine lv_iconst (v := nI 2) hx hb d_Model_one_73 (by decide) ?_
    refine pl_icmp_ne X (by decide) (by decide) d_Model_one_74 rfl (fun gL => ?_) (fun gL => ?_)
    · skip
      refine lv_iconst (v := nI 0) hx hb d_Model_one_84 (by decide) ?_
      refine lv_istore_n hx hb d_Model_one_85 rfl hl (by decide) (lv' := [(3, .int (nI 0)), (2, .int kx), (1, .int (nI 12)), (0, .ref m0)]) rfl (fun ls hl => ?_)
      refine lv_iload_n hx hb d_Model_one_86 rfl (lv_at hl 2 rfl) ?_
      refine lv_iconst (v := nI 2) hx hb d_Model_one_87 (by decide) ?_
      refine pl_icmp_eq X (by decide) (by decide) d_Model_one_88 rfl (fun gL => ?_) (fun gL => ?_)
      · skip
        exact absurd gL (by decide)
      · skip
        refine lv_iload_n hx hb d_Model_one_91 rfl (lv_at hl 2 rfl) ?_
        refine lv_iconst (v := nI 3) hx hb d_Model_one_92 (by decide) ?_
        refine pl_icmp_eq X (by decide) (by decide) d_Model_one_93 rfl (fun gL => ?_) (fun gL => ?_)
        · skip
          exact absurd gL (by decide)
        · skip
          refine lv_iload_n hx hb d_Model_one_96 rfl (lv_at hl 2 rfl) ?_
          refine lv_iconst (v := nI 4) hx hb d_Model_one_97 (by decide) ?_
          refine pl_icmp_eq X (by decide) (by decide) d_Model_one_98 rfl (fun gL => ?_) (fun gL => ?_)
          · skip
            exact absurd gL (by decide)
          · skip
            refine lv_iload_n hx hb d_Model_one_101 rfl (lv_at hl 2 rfl) ?_
            refine lv_bipush (v := nI 10) hx hb d_Model_one_102 (by decide) ?_
            refine pl_icmp_ne X (by decide) (by decide) d_Model_one_104 rfl (fun gL => ?_) (fun gL => ?_)
            · skip
              refine lv_iconst (v := nI 0) hx hb d_Model_one_114 (by decide) ?_
              refine lv_istore hx hb d_Model_one_115 hl (by decide) (lv' := [(4, .int (nI 0)), (3, .int (nI 0)), (2, .int kx), (1, .int (nI 12)), (0, .ref m0)]) rfl (fun ls hl => ?_)
              refine lv_iload_n hx hb d_Model_one_117 rfl (lv_at hl 3 rfl) ?_
              refine lv_tableOut hx hb d_Model_one_118 (by decide) (tgt := 337) rfl ?_
              refine lv_aload_n hx hb d_Model_one_337 rfl (lv_at hl 4 rfl) ?_
              refine lv_iconst (v := nI 2) hx hb d_Model_one_338 (by decide) ?_
              refine pl_put X fw_Model_58 fp_Model rfl hK hP hD hS 0 rfl (v := .int (nI 2)) rfl rfl (Nat.le_of_ble_eq_true rfl) d_Model_one_339 (ws' := [(m0, .inr (6, [.int (nI co), .int (nI np), .ref o1, .ref o2, .ref o3, .int (nI n), .ref o4, .ref o5, .ref o6, .ref o7, .int (nI 12), .int kx, .int (nI 2), .int (nI how), .int (nI (pl + 1)), .int (nI pl), .int (nI stt), .int (nI q), .ref o8, .ref o9, .int (nI dn), .ref o10, .ref o11])), (o1, .inl (cI, 24, .inl P)), (o2, .inl (cI, 24, .inl K)), (o4, .inl (cZ, 32, .inl ru)), (o5, .inl (cI, 32, .inl lo)), (o6, .inl (cI, 32, .inl hi)), (o7, .inl (cI, 32, .inl tm)), (o8, .inl (cI, 20, .inl sa)), (o9, .inl (cI, 8, .inl ca)), (o10, .inl (cI, 60, .inl ta)), (o11, .inl (cI, 60, .inl tn))]) rfl (fun H locs hP hD hS => ?_)
              exact pl_vret X hr hlk hK () trivial hP hD hS d_Model_one_342
            · skip
              exact absurd gL (by decide)
    · skip
      exact absurd gL (by decide)
  refine lv_aload_n hx hb d_Model_one_0 rfl (lv_at hl 0 rfl) ?_
  refine lv_aload_n hx hb d_Model_one_1 rfl (lv_at hl 0 rfl) ?_
  refine pl_get X fw_Model_115 hK hP 0 rfl (v := .int (nI pl)) rfl d_Model_one_2 ?_
  refine pl_put X fw_Model_118 fp_Model rfl hK hP hD hS 0 rfl (v := .int (nI pl)) rfl rfl (Nat.le_of_ble_eq_true rfl) d_Model_one_5 (ws' := [(m0, .inr (6, [.int (nI co), .int (nI np), .ref o1, .ref o2, .ref o3, .int (nI n), .ref o4, .ref o5, .ref o6, .ref o7, .int fo1, .int fk1, .int (nI 1), .int (nI how), .int (nI pl), .int (nI pl), .int (nI stt), .int (nI q), .ref o8, .ref o9, .int (nI dn), .ref o10, .ref o11])), (o1, .inl (cI, 24, .inl P)), (o2, .inl (cI, 24, .inl K)), (o4, .inl (cZ, 32, .inl ru)), (o5, .inl (cI, 32, .inl lo)), (o6, .inl (cI, 32, .inl hi)), (o7, .inl (cI, 32, .inl tm)), (o8, .inl (cI, 20, .inl sa)), (o9, .inl (cI, 8, .inl ca)), (o10, .inl (cI, 60, .inl ta)), (o11, .inl (cI, 60, .inl tn))]) rfl (fun H locs hP hD hS => ?_)
  refine lv_aload_n hx hb d_Model_one_8 rfl (lv_at hl 0 rfl) ?_
  refine pl_get X fw_Model_112 hK hP 0 rfl (v := .int (nI how)) rfl d_Model_one_9 ?_
  refine lv_iconst (v := nI 1) hx hb d_Model_one_12 (by decide) ?_
  refine pl_icmp_ne X (by omega) (by decide) d_Model_one_13 rfl (fun g13 => ?_) (fun g13 => ?_)
  · skip
    refine lv_aload_n hx hb d_Model_one_27 rfl (lv_at hl 0 rfl) ?_
    refine lv_aload_n hx hb d_Model_one_28 rfl (lv_at hl 0 rfl) ?_
    refine pl_get X fw_Model_7 hK hP 0 rfl (v := .ref o1) rfl d_Model_one_29 ?_
    refine lv_aload_n hx hb d_Model_one_32 rfl (lv_at hl 0 rfl) ?_
    refine pl_get X fw_Model_115 hK hP 0 rfl (v := .int (nI pl)) rfl d_Model_one_33 ?_
    refine pl_iald X hK hP 1 0 rfl rfl pl (by have := (hO.2 g13).1; omega) (by decide) (z := nI 12) (hO.2 g13).2.1 d_Model_one_36 ?_
    refine lv_aload_n hx hb d_Model_one_37 rfl (lv_at hl 0 rfl) ?_
    refine pl_get X fw_Model_13 hK hP 0 rfl (v := .ref o2) rfl d_Model_one_38 ?_
    refine lv_aload_n hx hb d_Model_one_41 rfl (lv_at hl 0 rfl) ?_
    refine pl_get X fw_Model_115 hK hP 0 rfl (v := .int (nI pl)) rfl d_Model_one_42 ?_
    refine pl_iald X hK hP 2 0 rfl rfl pl (by have := (hO.2 g13).1; omega) (by decide) (z := kx) (hO.2 g13).2.2 d_Model_one_45 ?_
    refine pl_callVV X (rest := []) (As := [.int (nI 12), .int kx]) (b := m0) (c_Model_set l D cI cZ cL m0 o1 o2 o3 o4 o5 o6 o7 o8 o9 o10 o11 P K Hm ru lo hi tm sa ca ta tn fo1 fk1 co np n 1 how pl pl stt q dn (nI 12) kx) ck_Model_100 pl_E0_ok trivial hK hP hD hS hA (T := F_Model) (N := N_Model) (ci := 6) rfl 0 rfl [0] [1, 2, 3, 4, 5, 6, 7, 8, 9, 10] [10, 0, 1, 2, 3, 4, 5, 6, 7, 8, 9] rfl (by decide) (wr := [(o1, .inl (cI, 24, .inl P)), (o2, .inl (cI, 24, .inl K)), (o4, .inl (cZ, 32, .inl ru)), (o5, .inl (cI, 32, .inl lo)), (o6, .inl (cI, 32, .inl hi)), (o7, .inl (cI, 32, .inl tm)), (o8, .inl (cI, 20, .inl sa)), (o9, .inl (cI, 8, .inl ca)), (o10, .inl (cI, 60, .inl ta)), (o11, .inl (cI, 60, .inl tn))]) rfl (by decide) (by decide) (wf := fun _ => [(m0, .inr (6, [.int (nI co), .int (nI np), .ref o1, .ref o2, .ref o3, .int (nI n), .ref o4, .ref o5, .ref o6, .ref o7, .int (nI 12), .int kx, .int (nI 1), .int (nI how), .int (nI pl), .int (nI pl), .int (nI stt), .int (nI q), .ref o8, .ref o9, .int (nI dn), .ref o10, .ref o11])), (o1, .inl (cI, 24, .inl P)), (o2, .inl (cI, 24, .inl K)), (o4, .inl (cZ, 32, .inl ru)), (o5, .inl (cI, 32, .inl lo)), (o6, .inl (cI, 32, .inl hi)), (o7, .inl (cI, 32, .inl tm)), (o8, .inl (cI, 20, .inl sa)), (o9, .inl (cI, 8, .inl ca)), (o10, .inl (cI, 60, .inl ta)), (o11, .inl (cI, 60, .inl tn))]) (fun _ => rfl) (by decide) rfl hl.1 rfl (Nat.le_of_ble_eq_true rfl) (by decide) (by decide) d_Model_one_46 (fun u0 H locs hcq hP hD hS => ?_)
    exact join_49 (()) _ _ _ hP hD hS hl
  · skip
    refine lv_aload_n hx hb d_Model_one_16 rfl (lv_at hl 0 rfl) ?_
    refine lv_aload_n hx hb d_Model_one_17 rfl (lv_at hl 0 rfl) ?_
    refine pl_get X fw_Model_115 hK hP 0 rfl (v := .int (nI pl)) rfl d_Model_one_18 ?_
    refine pl_callVV X (rest := []) (As := [.int (nI pl)]) (b := m0) (c_Model_find l D cI cZ cL m0 o1 o2 o3 o4 o5 o6 o7 o8 o9 o10 o11 P K Hm ru lo hi tm sa ca ta tn fo1 fk1 co np n 1 how pl pl stt q dn th pl hn hnp hop hok hru (hO.1 g13).1) ck_Model_108 pl_E0_ok trivial hK hP hD hS hA (T := F_Model) (N := N_Model) (ci := 6) rfl 0 rfl [0, 1, 2, 3, 4, 5, 6] [7, 8, 9, 10] [4, 5, 6, 7, 8, 9, 10, 0, 1, 2, 3] rfl (by decide) (wr := [(o8, .inl (cI, 20, .inl sa)), (o9, .inl (cI, 8, .inl ca)), (o10, .inl (cI, 60, .inl ta)), (o11, .inl (cI, 60, .inl tn))]) rfl (by decide) (by decide) (wf := fun (uf : Int32 × Int32) => [(m0, .inr (6, [.int (nI co), .int (nI np), .ref o1, .ref o2, .ref o3, .int (nI n), .ref o4, .ref o5, .ref o6, .ref o7, .int uf.1, .int uf.2, .int (nI 1), .int (nI how), .int (nI pl), .int (nI pl), .int (nI stt), .int (nI q), .ref o8, .ref o9, .int (nI dn), .ref o10, .ref o11])), (o1, .inl (cI, 24, .inl P)), (o2, .inl (cI, 24, .inl K)), (o4, .inl (cZ, 32, .inl ru)), (o5, .inl (cI, 32, .inl lo)), (o6, .inl (cI, 32, .inl hi)), (o7, .inl (cI, 32, .inl tm)), (o8, .inl (cI, 20, .inl sa)), (o9, .inl (cI, 8, .inl ca)), (o10, .inl (cI, 60, .inl ta)), (o11, .inl (cI, 60, .inl tn))]) (fun _ => rfl) (by decide) rfl hl.1 rfl (Nat.le_of_ble_eq_true rfl) (by decide) (by decide) d_Model_one_21 (fun uf H locs hcq hP hD hS => ?_)
    obtain ⟨hc1, hc2⟩ := hcq
    have hu9 : uf = (nI 12, kx) := Prod.ext (hc1.trans (hO.1 g13).2.1) (hc2.trans (hO.1 g13).2.2)
    subst hu9
    refine lv_goto hx hb d_Model_one_24 rfl ?_
    exact join_49 (()) _ _ _ hP hD hS hl

set_option maxHeartbeats 4000000 in
theorem c_Model_one (l : Launch) (D : va_G) (cI cZ cL : ClassId) (m0 o1 o2 o3 o4 o5 o6 o7 o8 o9 o10 o11 : Nat) (P K Hm ru lo hi tm sa ca ta tn : Nat → Int32) (fo1 fk1 : Int32) (co np n stat how pl la stt q dn : Nat) (th : Nat → Int32) (o : Nat) (kx : Int32) (hn : n ≤ 4) (hnp : np ≤ 24) (hop : okP P np) (hok : okK P K np) (hru : rulR ru tm th) (hO : (how = 1 → pl < plc P K th n np ∧ (wO P K th n np).getD pl 0 = nI o ∧ (wK P K lo hi th n np).getD pl 0 = kx) ∧ (¬ how = 1 → pl < np ∧ P pl = nI o ∧ K pl = kx)) (hpl : pl < 2000) (hs : okStep how th o kx q stt dn) : pl_V l y_Model_one b_Model_one 5 ({ frames := 4, cells := 0, slots := 0, locals := 91 } : Room) pl_E0 D classes (TY cI cZ cL) [.ref m0] [(m0, .inr (6, [.int (nI co), .int (nI np), .ref o1, .ref o2, .ref o3, .int (nI n), .ref o4, .ref o5, .ref o6, .ref o7, .int fo1, .int fk1, .int (nI 1), .int (nI how), .int (nI pl), .int (nI la), .int (nI stt), .int (nI q), .ref o8, .ref o9, .int (nI dn), .ref o10, .ref o11])), (o1, .inl (cI, 24, .inl P)), (o2, .inl (cI, 24, .inl K)), (o4, .inl (cZ, 32, .inl ru)), (o5, .inl (cI, 32, .inl lo)), (o6, .inl (cI, 32, .inl hi)), (o7, .inl (cI, 32, .inl tm)), (o8, .inl (cI, 20, .inl sa)), (o9, .inl (cI, 8, .inl ca)), (o10, .inl (cI, 60, .inl ta)), (o11, .inl (cI, 60, .inl tn))] (fun u : Nat × Int32 × Int32 × RS => u.2.2.2 = rstep how lo hi th o kx pl q stt dn sa ca ta tn ∧ (u.2.2.2.1 = 1 → u.1 = u.2.2.2.2.1) ∧ (¬ u.2.2.2.1 = 1 → pl = u.2.2.2.2.1)) (fun (u : (Nat × Int32 × Int32 × RS)) => [(m0, .inr (6, [.int (nI co), .int (nI np), .ref o1, .ref o2, .ref o3, .int (nI n), .ref o4, .ref o5, .ref o6, .ref o7, .int u.2.1, .int u.2.2.1, .int (nI u.2.2.2.1), .int (nI how), .int (nI u.1), .int (nI pl), .int (nI u.2.2.2.2.2.2.1), .int (nI u.2.2.2.2.2.1), .ref o8, .ref o9, .int (nI u.2.2.2.2.2.2.2.1), .ref o10, .ref o11])), (o1, .inl (cI, 24, .inl P)), (o2, .inl (cI, 24, .inl K)), (o4, .inl (cZ, 32, .inl ru)), (o5, .inl (cI, 32, .inl lo)), (o6, .inl (cI, 32, .inl hi)), (o7, .inl (cI, 32, .inl tm)), (o8, .inl (cI, 20, .inl u.2.2.2.2.2.2.2.2.1)), (o9, .inl (cI, 8, .inl u.2.2.2.2.2.2.2.2.2.1)), (o10, .inl (cI, 60, .inl u.2.2.2.2.2.2.2.2.2.2.1)), (o11, .inl (cI, 60, .inl u.2.2.2.2.2.2.2.2.2.2.2))]) := by
  obtain ⟨s1, s2, s3, s4, s5, s6, s7, s8, s9, s10⟩ := hs
  rcases (show o = 0 ∨ o = 1 ∨ o = 2 ∨ o = 3 ∨ o = 4 ∨ o = 5 ∨ o = 6 ∨ o = 7 ∨ o = 8 ∨ o = 9 ∨ o = 10 ∨ o = 11 ∨ o = 12 by omega) with rfl | rfl | rfl | rfl | rfl | rfl | rfl | rfl | rfl | rfl | rfl | rfl | rfl
  · skip
    have s3 : q + 1 ≤ 14 := by have e := s3; simp only [tkN, lvN, List.getD_cons_zero, List.getD_cons_succ] at e; omega
    exact pl_V_conv (c_Model_one_0 l D cI cZ cL m0 o1 o2 o3 o4 o5 o6 o7 o8 o9 o10 o11 P K Hm ru lo hi tm sa ca ta tn fo1 fk1 co np n stat how pl la stt q dn th kx hn hnp hop hok hru hO s5 hpl (by omega)) (fun u => (pl + 1, nI 0, kx, (1, pl + 1, q + 1, stt, dn, upd sa q kx, ca, ta, tn))) (fun u hu => ⟨rfl, fun _ => rfl, fun h => absurd rfl h⟩) (fun _ _ => rfl)
  · skip
    obtain ⟨z, rfl⟩ : ∃ z, q = z + 1 := ⟨q - 1, by have : 1 ≤ q := s2; omega⟩
    have s3 : z ≤ 14 := by have e := s3; simp only [tkN, lvN, List.getD_cons_zero, List.getD_cons_succ] at e; omega
    exact pl_V_conv (c_Model_one_1 l D cI cZ cL m0 o1 o2 o3 o4 o5 o6 o7 o8 o9 o10 o11 P K Hm ru lo hi tm sa ca ta tn fo1 fk1 co np n stat how pl la stt z dn th kx hn hnp hop hok hru hO s5 hpl ) (fun u => (pl + 1, nI 1, kx, (1, pl + 1, z, stt, dn, sa, ca, ta, tn))) (fun u hu => ⟨rfl, fun _ => rfl, fun h => absurd rfl h⟩) (fun _ _ => rfl)
  · skip
    obtain ⟨z, rfl⟩ : ∃ z, q = z + 2 := ⟨q - 2, by have : 2 ≤ q := s2; omega⟩
    have s3 : z + 1 ≤ 14 := by have e := s3; simp only [tkN, lvN, List.getD_cons_zero, List.getD_cons_succ] at e; omega
    exact pl_V_conv (c_Model_one_2 l D cI cZ cL m0 o1 o2 o3 o4 o5 o6 o7 o8 o9 o10 o11 P K Hm ru lo hi tm sa ca ta tn fo1 fk1 co np n stat how pl la stt z dn th kx hn hnp hop hok hru hO s5 hpl (by omega)) (fun u => (pl + 1, nI 2, kx, (1, pl + 1, z + 1, stt, dn, upd sa z (sa z + sa (z + 1)), ca, ta, tn))) (fun u hu => ⟨rfl, fun _ => rfl, fun h => absurd rfl h⟩) (fun _ _ => rfl)
  · skip
    obtain ⟨z, rfl⟩ : ∃ z, q = z + 2 := ⟨q - 2, by have : 2 ≤ q := s2; omega⟩
    have s3 : z + 1 ≤ 14 := by have e := s3; simp only [tkN, lvN, List.getD_cons_zero, List.getD_cons_succ] at e; omega
    exact pl_V_conv (c_Model_one_3 l D cI cZ cL m0 o1 o2 o3 o4 o5 o6 o7 o8 o9 o10 o11 P K Hm ru lo hi tm sa ca ta tn fo1 fk1 co np n stat how pl la stt z dn th kx hn hnp hop hok hru hO s5 hpl (by omega)) (fun u => (pl + 1, nI 3, kx, (1, pl + 1, z + 1, stt, dn, upd sa z (sa z - sa (z + 1)), ca, ta, tn))) (fun u hu => ⟨rfl, fun _ => rfl, fun h => absurd rfl h⟩) (fun _ _ => rfl)
  · skip
    obtain ⟨z, rfl⟩ : ∃ z, q = z + 2 := ⟨q - 2, by have : 2 ≤ q := s2; omega⟩
    have s3 : z + 1 ≤ 14 := by have e := s3; simp only [tkN, lvN, List.getD_cons_zero, List.getD_cons_succ] at e; omega
    exact pl_V_conv (c_Model_one_4 l D cI cZ cL m0 o1 o2 o3 o4 o5 o6 o7 o8 o9 o10 o11 P K Hm ru lo hi tm sa ca ta tn fo1 fk1 co np n stat how pl la stt z dn th kx hn hnp hop hok hru hO s5 hpl (by omega)) (fun u => (pl + 1, nI 4, kx, (1, pl + 1, z + 1, stt, dn, upd sa z u, ca, ta, tn))) (fun u hu => ⟨by rw [hu]; rfl, fun _ => rfl, fun h => absurd rfl h⟩) (fun _ _ => rfl)
  · skip
    have s3 : q + 1 ≤ 14 := by have e := s3; simp only [tkN, lvN, List.getD_cons_zero, List.getD_cons_succ] at e; omega
    obtain ⟨j, k2, k1⟩ := inB_of (by omega) (s8 (by omega))
    subst k1
    have k3 : (nI j).toNatClampNeg = j := nI_clamp (by omega)
    exact pl_V_conv (c_Model_one_5 l D cI cZ cL m0 o1 o2 o3 o4 o5 o6 o7 o8 o9 o10 o11 P K Hm ru lo hi tm sa ca ta tn fo1 fk1 co np n stat how pl la stt q dn th j hn hnp hop hok hru hO s5 hpl (by omega) k2) (fun u => (pl + 1, nI 5, nI j, (1, pl + 1, q + 1, stt, dn, upd sa q (ca j), ca, ta, tn))) (fun u hu => ⟨by simp only [rstep, k3], fun _ => rfl, fun h => absurd rfl h⟩) (fun _ _ => rfl)
  · skip
    obtain ⟨z, rfl⟩ : ∃ z, q = z + 1 := ⟨q - 1, by have : 1 ≤ q := s2; omega⟩
    have s3 : z ≤ 14 := by have e := s3; simp only [tkN, lvN, List.getD_cons_zero, List.getD_cons_succ] at e; omega
    obtain ⟨j, k2, k1⟩ := inB_of (by omega) (s8 (by omega))
    subst k1
    have k3 : (nI j).toNatClampNeg = j := nI_clamp (by omega)
    exact pl_V_conv (c_Model_one_6 l D cI cZ cL m0 o1 o2 o3 o4 o5 o6 o7 o8 o9 o10 o11 P K Hm ru lo hi tm sa ca ta tn fo1 fk1 co np n stat how pl la stt z dn th j hn hnp hop hok hru hO s5 hpl (by omega) k2) (fun u => (pl + 1, nI 6, nI j, (1, pl + 1, z, stt, dn, sa, upd ca j (sa z), ta, tn))) (fun u hu => ⟨by simp only [rstep, k3]; rfl, fun _ => rfl, fun h => absurd rfl h⟩) (fun _ _ => rfl)
  · skip
    have s3 : q ≤ 14 := by have e := s3; simp only [tkN, lvN, List.getD_cons_zero, List.getD_cons_succ] at e; omega
    obtain ⟨j, k2, k1⟩ := inB_of (by omega) (s9 (by omega))
    subst k1
    have k3 : (nI j).toNatClampNeg = j := nI_clamp (by omega)
    exact pl_V_conv (c_Model_one_7 l D cI cZ cL m0 o1 o2 o3 o4 o5 o6 o7 o8 o9 o10 o11 P K Hm ru lo hi tm sa ca ta tn fo1 fk1 co np n stat how pl la stt q dn th j hn hnp hop hok hru hO s5 hpl ) (fun u => (j, nI 7, nI j, (1, j, q, stt, dn, sa, ca, ta, tn))) (fun u hu => ⟨by simp only [rstep, k3], fun _ => rfl, fun h => absurd rfl h⟩) (fun _ _ => rfl)
  · skip
    obtain ⟨z, rfl⟩ : ∃ z, q = z + 1 := ⟨q - 1, by have : 1 ≤ q := s2; omega⟩
    have s3 : z ≤ 14 := by have e := s3; simp only [tkN, lvN, List.getD_cons_zero, List.getD_cons_succ] at e; omega
    obtain ⟨j, k2, k1⟩ := inB_of (by omega) (s9 (by omega))
    subst k1
    have k3 : (nI j).toNatClampNeg = j := nI_clamp (by omega)
    exact pl_V_conv (c_Model_one_8 l D cI cZ cL m0 o1 o2 o3 o4 o5 o6 o7 o8 o9 o10 o11 P K Hm ru lo hi tm sa ca ta tn fo1 fk1 co np n stat how pl la stt z dn th j hn hnp hop hok hru hO s5 hpl (by omega)) (fun u => (u, nI 8, nI j, (1, u, z, stt, dn, sa, ca, ta, tn))) (fun u hu => ⟨by rw [hu]; simp only [rstep, k3]; rfl, fun _ => rfl, fun h => absurd rfl h⟩) (fun _ _ => rfl)
  · skip
    obtain ⟨z, rfl⟩ : ∃ z, q = z + 1 := ⟨q - 1, by have : 1 ≤ q := s2; omega⟩
    have s3 : z ≤ 14 := by have e := s3; simp only [tkN, lvN, List.getD_cons_zero, List.getD_cons_succ] at e; omega
    obtain ⟨j, k2, k1⟩ := inB_of (by omega) (s10 rfl).1
    subst k1
    have k3 : (nI j).toNatClampNeg = j := nI_clamp (by omega)
    have k4 := (s10 rfl).2
    rw [k3] at k4
    exact pl_V_conv (c_Model_one_9 l D cI cZ cL m0 o1 o2 o3 o4 o5 o6 o7 o8 o9 o10 o11 P K Hm ru lo hi tm sa ca ta tn fo1 fk1 co np n stat how pl la stt z dn th j hn hnp hop hok hru hO s5 hpl (by omega) s6 k2 s7 k4) (fun u => (pl + 1, nI 9, nI j, (u.1, u.2.1, u.2.2.1, u.2.2.2.1, u.2.2.2.2.1, sa, ca, u.2.2.2.2.2.1, u.2.2.2.2.2.2))) (fun u hu => ⟨by rw [hu]; simp only [rstep, k3]; rfl, fun h => by rw [hu] at h ⊢; exact actS_at h, fun h => by rw [hu] at h ⊢; exact actS_at' h⟩) (fun _ _ => rfl)
  · skip
    obtain ⟨z, rfl⟩ : ∃ z, q = z + 2 := ⟨q - 2, by have : 2 ≤ q := s2; omega⟩
    have s3 : z + 2 ≤ 14 := by have e := s3; simp only [tkN, lvN, List.getD_cons_zero, List.getD_cons_succ] at e; omega
    exact pl_V_conv (c_Model_one_10 l D cI cZ cL m0 o1 o2 o3 o4 o5 o6 o7 o8 o9 o10 o11 P K Hm ru lo hi tm sa ca ta tn fo1 fk1 co np n stat how pl la stt z dn th kx hn hnp hop hok hru hO s5 hpl (by omega)) (fun u => (pl + 1, nI 10, kx, (1, pl + 1, z + 2, stt, dn, upd (upd sa z (sa (z + 1))) (z + 1) (sa z), ca, ta, tn))) (fun u hu => ⟨rfl, fun _ => rfl, fun h => absurd rfl h⟩) (fun _ _ => rfl)
  · skip
    obtain ⟨z, rfl⟩ : ∃ z, q = z + 1 := ⟨q - 1, by have : 1 ≤ q := s2; omega⟩
    have s3 : z + 2 ≤ 14 := by have e := s3; simp only [tkN, lvN, List.getD_cons_zero, List.getD_cons_succ] at e; omega
    exact pl_V_conv (c_Model_one_11 l D cI cZ cL m0 o1 o2 o3 o4 o5 o6 o7 o8 o9 o10 o11 P K Hm ru lo hi tm sa ca ta tn fo1 fk1 co np n stat how pl la stt z dn th kx hn hnp hop hok hru hO s5 hpl (by omega)) (fun u => (pl + 1, nI 11, kx, (1, pl + 1, z + 2, stt, dn, upd sa (z + 1) (sa z), ca, ta, tn))) (fun u hu => ⟨rfl, fun _ => rfl, fun h => absurd rfl h⟩) (fun _ _ => rfl)
  · skip
    have s3 : q ≤ 14 := by have e := s3; simp only [tkN, lvN, List.getD_cons_zero, List.getD_cons_succ] at e; omega
    exact pl_V_conv (c_Model_one_12 l D cI cZ cL m0 o1 o2 o3 o4 o5 o6 o7 o8 o9 o10 o11 P K Hm ru lo hi tm sa ca ta tn fo1 fk1 co np n stat how pl la stt q dn th kx hn hnp hop hok hru hO s5 hpl ) (fun u => (pl + 1, nI 12, kx, (2, pl, q, stt, dn, sa, ca, ta, tn))) (fun u hu => ⟨rfl, fun h => absurd (show (2 : Nat) = 1 from h) (by decide), fun _ => rfl⟩) (fun _ _ => rfl)
