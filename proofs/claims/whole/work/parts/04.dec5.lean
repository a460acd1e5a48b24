theorem dX5_size_10 : decode cX5_size 10 = .ok (.iload_n 0, 1) := by decide +kernel
theorem dX5_size_11 : decode cX5_size 11 = .ok (.ifCond .le 8, 3) := by decide +kernel
theorem dX5_size_14 : decode cX5_size 14 = .ok (.iload_n 0, 1) := by decide +kernel
theorem dX5_size_15 : decode cX5_size 15 = .ok (.iconst 4, 1) := by decide +kernel
theorem dX5_size_16 : decode cX5_size 16 = .ok (.if_icmp .lt 15, 3) := by decide +kernel
theorem dX5_size_19 : decode cX5_size 19 = .ok (.iload_n 0, 1) := by decide +kernel
theorem dX5_size_20 : decode cX5_size 20 = .ok (.bipush 8, 2) := by decide +kernel
theorem dX5_size_22 : decode cX5_size 22 = .ok (.if_icmp .eq 9, 3) := by decide +kernel
theorem dX5_size_25 : decode cX5_size 25 = .ok (.iload_n 0, 1) := by decide +kernel
theorem dX5_size_26 : decode cX5_size 26 = .ok (.bipush 9, 2) := by decide +kernel
theorem dX5_size_28 : decode cX5_size 28 = .ok (.if_icmp .ne 7, 3) := by decide +kernel
theorem dX5_size_31 : decode cX5_size 31 = .ok (.iconst 2, 1) := by decide +kernel
theorem dX5_size_32 : decode cX5_size 32 = .ok (.goto 4, 3) := by decide +kernel
theorem dX5_size_35 : decode cX5_size 35 = .ok (.iconst 1, 1) := by decide +kernel
theorem dX5_size_36 : decode cX5_size 36 = .ok (.ireturn, 1) := by decide +kernel
theorem dX5_takes_0 : decode cX5_takes 0 = .ok (.iload_n 0, 1) := by decide +kernel
theorem dX5_takes_1 : decode cX5_takes 1 = .ok (.iconst 3, 1) := by decide +kernel
theorem dX5_takes_2 : decode cX5_takes 2 = .ok (.if_icmp .le 13, 3) := by decide +kernel
theorem dX5_takes_5 : decode cX5_takes 5 = .ok (.iload_n 0, 1) := by decide +kernel
theorem dX5_takes_6 : decode cX5_takes 6 = .ok (.bipush 8, 2) := by decide +kernel
theorem dX5_takes_8 : decode cX5_takes 8 = .ok (.if_icmp .ge 7, 3) := by decide +kernel
theorem dX5_takes_11 : decode cX5_takes 11 = .ok (.iconst 2, 1) := by decide +kernel
theorem dX5_takes_12 : decode cX5_takes 12 = .ok (.goto 25, 3) := by decide +kernel
theorem dX5_takes_15 : decode cX5_takes 15 = .ok (.iload_n 0, 1) := by decide +kernel
theorem dX5_takes_16 : decode cX5_takes 16 = .ok (.iconst 3, 1) := by decide +kernel
theorem dX5_takes_17 : decode cX5_takes 17 = .ok (.if_icmp .eq 15, 3) := by decide +kernel
theorem dX5_takes_20 : decode cX5_takes 20 = .ok (.iload_n 0, 1) := by decide +kernel
theorem dX5_takes_21 : decode cX5_takes 21 = .ok (.bipush 8, 2) := by decide +kernel
theorem dX5_takes_23 : decode cX5_takes 23 = .ok (.if_icmp .eq 9, 3) := by decide +kernel
theorem dX5_takes_26 : decode cX5_takes 26 = .ok (.iload_n 0, 1) := by decide +kernel
theorem dX5_takes_27 : decode cX5_takes 27 = .ok (.bipush 9, 2) := by decide +kernel
theorem dX5_takes_29 : decode cX5_takes 29 = .ok (.if_icmp .le 7, 3) := by decide +kernel
theorem dX5_takes_32 : decode cX5_takes 32 = .ok (.iconst 1, 1) := by decide +kernel
theorem dX5_takes_33 : decode cX5_takes 33 = .ok (.goto 4, 3) := by decide +kernel
theorem dX5_takes_36 : decode cX5_takes 36 = .ok (.iconst 0, 1) := by decide +kernel
theorem dX5_takes_37 : decode cX5_takes 37 = .ok (.ireturn, 1) := by decide +kernel
theorem dX5_pop_0 : decode cX5_pop 0 = .ok (.aload_n 0, 1) := by decide +kernel
theorem dX5_pop_1 : decode cX5_pop 1 = .ok (.dup, 1) := by decide +kernel
theorem dX5_pop_2 : decode cX5_pop 2 = .ok (.getfield 59, 3) := by decide +kernel
theorem dX5_pop_5 : decode cX5_pop 5 = .ok (.iconst 1, 1) := by decide +kernel
theorem dX5_pop_6 : decode cX5_pop 6 = .ok (.isub, 1) := by decide +kernel
theorem dX5_pop_7 : decode cX5_pop 7 = .ok (.putfield 59, 3) := by decide +kernel
theorem dX5_pop_10 : decode cX5_pop 10 = .ok (.aload_n 0, 1) := by decide +kernel
theorem dX5_pop_11 : decode cX5_pop 11 = .ok (.getfield 38, 3) := by decide +kernel
theorem dX5_pop_14 : decode cX5_pop 14 = .ok (.aload_n 0, 1) := by decide +kernel
theorem dX5_pop_15 : decode cX5_pop 15 = .ok (.getfield 59, 3) := by decide +kernel
theorem dX5_pop_18 : decode cX5_pop 18 = .ok (.iaload, 1) := by decide +kernel
theorem dX5_pop_19 : decode cX5_pop 19 = .ok (.ireturn, 1) := by decide +kernel
theorem dX5_one_0 : decode cX5_one 0 = .ok (.aload_n 0, 1) := by decide +kernel
theorem dX5_one_1 : decode cX5_one 1 = .ok (.getfield 62, 3) := by decide +kernel
theorem dX5_one_4 : decode cX5_one 4 = .ok (.iconst 1, 1) := by decide +kernel
theorem dX5_one_5 : decode cX5_one 5 = .ok (.isub, 1) := by decide +kernel
theorem dX5_one_6 : decode cX5_one 6 = .ok (.istore_n 1, 1) := by decide +kernel
theorem dX5_one_7 : decode cX5_one 7 = .ok (.aload_n 0, 1) := by decide +kernel
theorem dX5_one_8 : decode cX5_one 8 = .ok (.getfield 23, 3) := by decide +kernel
theorem dX5_one_11 : decode cX5_one 11 = .ok (.iload_n 1, 1) := by decide +kernel
theorem dX5_one_12 : decode cX5_one 12 = .ok (.iaload, 1) := by decide +kernel
theorem dX5_one_13 : decode cX5_one 13 = .ok (.istore_n 2, 1) := by decide +kernel
theorem dX5_one_14 : decode cX5_one 14 = .ok (.aload_n 0, 1) := by decide +kernel
theorem dX5_one_15 : decode cX5_one 15 = .ok (.getfield 26, 3) := by decide +kernel
theorem dX5_one_18 : decode cX5_one 18 = .ok (.iload_n 1, 1) := by decide +kernel
theorem dX5_one_19 : decode cX5_one 19 = .ok (.iaload, 1) := by decide +kernel
theorem dX5_one_20 : decode cX5_one 20 = .ok (.istore_n 3, 1) := by decide +kernel
theorem dX5_one_21 : decode cX5_one 21 = .ok (.iload_n 3, 1) := by decide +kernel
theorem dX5_one_22 : decode cX5_one 22 = .ok (.ifCond .lt 17, 3) := by decide +kernel
theorem dX5_one_25 : decode cX5_one 25 = .ok (.iload_n 3, 1) := by decide +kernel
theorem dX5_one_26 : decode cX5_one 26 = .ok (.aload_n 0, 1) := by decide +kernel
theorem dX5_one_27 : decode cX5_one 27 = .ok (.getfield 13, 3) := by decide +kernel
theorem dX5_one_30 : decode cX5_one 30 = .ok (.iload_n 2, 1) := by decide +kernel
theorem dX5_one_31 : decode cX5_one 31 = .ok (.iaload, 1) := by decide +kernel
theorem dX5_one_32 : decode cX5_one 32 = .ok (.if_icmp .ge 7, 3) := by decide +kernel
theorem dX5_one_35 : decode cX5_one 35 = .ok (.iconst 1, 1) := by decide +kernel
theorem dX5_one_36 : decode cX5_one 36 = .ok (.goto 4, 3) := by decide +kernel
theorem dX5_one_39 : decode cX5_one 39 = .ok (.iconst 0, 1) := by decide +kernel
theorem dX5_one_40 : decode cX5_one 40 = .ok (.istore 4, 2) := by decide +kernel
theorem dX5_one_42 : decode cX5_one 42 = .ok (.iload 4, 2) := by decide +kernel
theorem dX5_one_44 : decode cX5_one 44 = .ok (.ifCond .eq 17, 3) := by decide +kernel
theorem dX5_one_47 : decode cX5_one 47 = .ok (.aload_n 0, 1) := by decide +kernel
theorem dX5_one_48 : decode cX5_one 48 = .ok (.getfield 7, 3) := by decide +kernel
theorem dX5_one_51 : decode cX5_one 51 = .ok (.bipush 80, 2) := by decide +kernel
theorem dX5_one_53 : decode cX5_one 53 = .ok (.iload_n 2, 1) := by decide +kernel
theorem dX5_one_54 : decode cX5_one 54 = .ok (.imul, 1) := by decide +kernel
theorem dX5_one_55 : decode cX5_one 55 = .ok (.iload_n 3, 1) := by decide +kernel
theorem dX5_one_56 : decode cX5_one 56 = .ok (.iadd, 1) := by decide +kernel
theorem dX5_one_57 : decode cX5_one 57 = .ok (.iaload, 1) := by decide +kernel
theorem dX5_one_58 : decode cX5_one 58 = .ok (.goto 4, 3) := by decide +kernel
theorem dX5_one_61 : decode cX5_one 61 = .ok (.iconst (-1), 1) := by decide +kernel
theorem dX5_one_62 : decode cX5_one 62 = .ok (.istore 5, 2) := by decide +kernel
theorem dX5_one_64 : decode cX5_one 64 = .ok (.iload 4, 2) := by decide +kernel
theorem dX5_one_66 : decode cX5_one 66 = .ok (.ifCond .eq 54, 3) := by decide +kernel
theorem dX5_one_69 : decode cX5_one 69 = .ok (.iload 5, 2) := by decide +kernel
theorem dX5_one_71 : decode cX5_one 71 = .ok (.ifCond .lt 49, 3) := by decide +kernel
theorem dX5_one_74 : decode cX5_one 74 = .ok (.iload 5, 2) := by decide +kernel
theorem dX5_one_76 : decode cX5_one 76 = .ok (.bipush 12, 2) := by decide +kernel
theorem dX5_one_78 : decode cX5_one 78 = .ok (.if_icmp .gt 42, 3) := by decide +kernel
theorem dX5_one_81 : decode cX5_one 81 = .ok (.iload_n 3, 1) := by decide +kernel
theorem dX5_one_82 : decode cX5_one 82 = .ok (.iload 5, 2) := by decide +kernel
theorem dX5_one_84 : decode cX5_one 84 = .ok (.invokestatic 104, 3) := by decide +kernel
theorem dX5_one_87 : decode cX5_one 87 = .ok (.iadd, 1) := by decide +kernel
theorem dX5_one_88 : decode cX5_one 88 = .ok (.aload_n 0, 1) := by decide +kernel
theorem dX5_one_89 : decode cX5_one 89 = .ok (.getfield 13, 3) := by decide +kernel
theorem dX5_one_92 : decode cX5_one 92 = .ok (.iload_n 2, 1) := by decide +kernel
theorem dX5_one_93 : decode cX5_one 93 = .ok (.iaload, 1) := by decide +kernel
theorem dX5_one_94 : decode cX5_one 94 = .ok (.if_icmp .gt 26, 3) := by decide +kernel
theorem dX5_one_97 : decode cX5_one 97 = .ok (.aload_n 0, 1) := by decide +kernel
theorem dX5_one_98 : decode cX5_one 98 = .ok (.getfield 59, 3) := by decide +kernel
theorem dX5_one_101 : decode cX5_one 101 = .ok (.aload_n 0, 1) := by decide +kernel
theorem dX5_one_102 : decode cX5_one 102 = .ok (.getfield 35, 3) := by decide +kernel
theorem dX5_one_105 : decode cX5_one 105 = .ok (.iload_n 1, 1) := by decide +kernel
theorem dX5_one_106 : decode cX5_one 106 = .ok (.iaload, 1) := by decide +kernel
theorem dX5_one_107 : decode cX5_one 107 = .ok (.isub, 1) := by decide +kernel
theorem dX5_one_108 : decode cX5_one 108 = .ok (.iload 5, 2) := by decide +kernel
theorem dX5_one_110 : decode cX5_one 110 = .ok (.invokestatic 107, 3) := by decide +kernel
theorem dX5_one_113 : decode cX5_one 113 = .ok (.if_icmp .lt 7, 3) := by decide +kernel
theorem dX5_one_116 : decode cX5_one 116 = .ok (.iconst 1, 1) := by decide +kernel
theorem dX5_one_117 : decode cX5_one 117 = .ok (.goto 4, 3) := by decide +kernel
theorem dX5_one_120 : decode cX5_one 120 = .ok (.iconst 0, 1) := by decide +kernel
theorem dX5_one_121 : decode cX5_one 121 = .ok (.istore 4, 2) := by decide +kernel
theorem dX5_one_123 : decode cX5_one 123 = .ok (.iload 4, 2) := by decide +kernel
theorem dX5_one_125 : decode cX5_one 125 = .ok (.ifCond .eq 28, 3) := by decide +kernel
theorem dX5_one_128 : decode cX5_one 128 = .ok (.iload 5, 2) := by decide +kernel
theorem dX5_one_130 : decode cX5_one 130 = .ok (.invokestatic 104, 3) := by decide +kernel
theorem dX5_one_133 : decode cX5_one 133 = .ok (.iconst 1, 1) := by decide +kernel
theorem dX5_one_134 : decode cX5_one 134 = .ok (.if_icmp .le 19, 3) := by decide +kernel
theorem dX5_one_137 : decode cX5_one 137 = .ok (.aload_n 0, 1) := by decide +kernel
theorem dX5_one_138 : decode cX5_one 138 = .ok (.getfield 7, 3) := by decide +kernel
theorem dX5_one_141 : decode cX5_one 141 = .ok (.bipush 80, 2) := by decide +kernel
theorem dX5_one_143 : decode cX5_one 143 = .ok (.iload_n 2, 1) := by decide +kernel
theorem dX5_one_144 : decode cX5_one 144 = .ok (.imul, 1) := by decide +kernel
theorem dX5_one_145 : decode cX5_one 145 = .ok (.iload_n 3, 1) := by decide +kernel
theorem dX5_one_146 : decode cX5_one 146 = .ok (.iadd, 1) := by decide +kernel
theorem dX5_one_147 : decode cX5_one 147 = .ok (.iconst 1, 1) := by decide +kernel
theorem dX5_one_148 : decode cX5_one 148 = .ok (.iadd, 1) := by decide +kernel
theorem dX5_one_149 : decode cX5_one 149 = .ok (.iaload, 1) := by decide +kernel
theorem dX5_one_150 : decode cX5_one 150 = .ok (.goto 4, 3) := by decide +kernel
theorem dX5_one_153 : decode cX5_one 153 = .ok (.iconst 0, 1) := by decide +kernel
theorem dX5_one_154 : decode cX5_one 154 = .ok (.istore 6, 2) := by decide +kernel
theorem dX5_one_156 : decode cX5_one 156 = .ok (.iload 5, 2) := by decide +kernel
theorem dX5_one_158 : decode cX5_one 158 = .ok (.iconst 2, 1) := by decide +kernel
theorem dX5_one_159 : decode cX5_one 159 = .ok (.if_icmp .eq 9, 3) := by decide +kernel
theorem dX5_one_162 : decode cX5_one 162 = .ok (.iload 5, 2) := by decide +kernel
theorem dX5_one_164 : decode cX5_one 164 = .ok (.iconst 3, 1) := by decide +kernel
theorem dX5_one_165 : decode cX5_one 165 = .ok (.if_icmp .ne 31, 3) := by decide +kernel
theorem dX5_one_168 : decode cX5_one 168 = .ok (.iload 4, 2) := by decide +kernel
theorem dX5_one_170 : decode cX5_one 170 = .ok (.ifCond .eq 23, 3) := by decide +kernel
theorem dX5_one_173 : decode cX5_one 173 = .ok (.iload 6, 2) := by decide +kernel
theorem dX5_one_175 : decode cX5_one 175 = .ok (.ifCond .lt 18, 3) := by decide +kernel
theorem dX5_one_178 : decode cX5_one 178 = .ok (.iload 6, 2) := by decide +kernel
theorem dX5_one_180 : decode cX5_one 180 = .ok (.aload_n 0, 1) := by decide +kernel
theorem dX5_one_181 : decode cX5_one 181 = .ok (.getfield 29, 3) := by decide +kernel
theorem dX5_one_184 : decode cX5_one 184 = .ok (.iload_n 1, 1) := by decide +kernel
theorem dX5_one_185 : decode cX5_one 185 = .ok (.iaload, 1) := by decide +kernel
theorem dX5_one_186 : decode cX5_one 186 = .ok (.if_icmp .ge 7, 3) := by decide +kernel
theorem dX5_one_189 : decode cX5_one 189 = .ok (.iconst 1, 1) := by decide +kernel
theorem dX5_one_190 : decode cX5_one 190 = .ok (.goto 4, 3) := by decide +kernel
theorem dX5_one_193 : decode cX5_one 193 = .ok (.iconst 0, 1) := by decide +kernel
theorem dX5_one_194 : decode cX5_one 194 = .ok (.istore 4, 2) := by decide +kernel
theorem dX5_one_196 : decode cX5_one 196 = .ok (.iload 5, 2) := by decide +kernel
theorem dX5_one_198 : decode cX5_one 198 = .ok (.bipush 12, 2) := by decide +kernel
theorem dX5_one_200 : decode cX5_one 200 = .ok (.if_icmp .ne 24, 3) := by decide +kernel
theorem dX5_one_203 : decode cX5_one 203 = .ok (.iload 4, 2) := by decide +kernel
theorem dX5_one_205 : decode cX5_one 205 = .ok (.ifCond .eq 16, 3) := by decide +kernel
theorem dX5_one_208 : decode cX5_one 208 = .ok (.aload_n 0, 1) := by decide +kernel
theorem dX5_one_209 : decode cX5_one 209 = .ok (.getfield 97, 3) := by decide +kernel
theorem dX5_one_212 : decode cX5_one 212 = .ok (.bipush 40, 2) := by decide +kernel
theorem dX5_one_214 : decode cX5_one 214 = .ok (.if_icmp .ge 7, 3) := by decide +kernel
theorem dX5_one_217 : decode cX5_one 217 = .ok (.iconst 1, 1) := by decide +kernel
theorem dX5_one_218 : decode cX5_one 218 = .ok (.goto 4, 3) := by decide +kernel
theorem dX5_one_221 : decode cX5_one 221 = .ok (.iconst 0, 1) := by decide +kernel
theorem dX5_one_222 : decode cX5_one 222 = .ok (.istore 4, 2) := by decide +kernel
theorem dX5_one_224 : decode cX5_one 224 = .ok (.iload 4, 2) := by decide +kernel
theorem dX5_one_226 : decode cX5_one 226 = .ok (.ifCond .ne 9, 3) := by decide +kernel
theorem dX5_one_229 : decode cX5_one 229 = .ok (.aload_n 0, 1) := by decide +kernel
theorem dX5_one_230 : decode cX5_one 230 = .ok (.iconst 3, 1) := by decide +kernel
theorem dX5_one_231 : decode cX5_one 231 = .ok (.putfield 52, 3) := by decide +kernel
theorem dX5_one_234 : decode cX5_one 234 = .ok (.return_, 1) := by decide +kernel
theorem dX5_one_235 : decode cX5_one 235 = .ok (.iload 5, 2) := by decide +kernel
theorem dX5_one_237 : decode cX5_one 237 = .ok (.invokestatic 107, 3) := by decide +kernel
theorem dX5_one_240 : decode cX5_one 240 = .ok (.ifCond .le 10, 3) := by decide +kernel
theorem dX5_one_243 : decode cX5_one 243 = .ok (.aload_n 0, 1) := by decide +kernel
theorem dX5_one_244 : decode cX5_one 244 = .ok (.invokevirtual 110, 3) := by decide +kernel
theorem dX5_one_247 : decode cX5_one 247 = .ok (.goto 4, 3) := by decide +kernel
theorem dX5_one_250 : decode cX5_one 250 = .ok (.iconst 0, 1) := by decide +kernel
theorem dX5_one_251 : decode cX5_one 251 = .ok (.istore 7, 2) := by decide +kernel
theorem dX5_one_253 : decode cX5_one 253 = .ok (.iload 5, 2) := by decide +kernel
theorem dX5_one_255 : decode cX5_one 255 = .ok (.invokestatic 107, 3) := by decide +kernel
theorem dX5_one_258 : decode cX5_one 258 = .ok (.iconst 1, 1) := by decide +kernel
theorem dX5_one_259 : decode cX5_one 259 = .ok (.if_icmp .le 10, 3) := by decide +kernel
theorem dX5_one_262 : decode cX5_one 262 = .ok (.aload_n 0, 1) := by decide +kernel
theorem dX5_one_263 : decode cX5_one 263 = .ok (.invokevirtual 110, 3) := by decide +kernel
theorem dX5_one_266 : decode cX5_one 266 = .ok (.goto 4, 3) := by decide +kernel
theorem dX5_one_269 : decode cX5_one 269 = .ok (.iconst 0, 1) := by decide +kernel
theorem dX5_one_270 : decode cX5_one 270 = .ok (.istore 8, 2) := by decide +kernel
theorem dX5_one_272 : decode cX5_one 272 = .ok (.aload_n 0, 1) := by decide +kernel
theorem dX5_one_273 : decode cX5_one 273 = .ok (.getfield 26, 3) := by decide +kernel
theorem dX5_one_276 : decode cX5_one 276 = .ok (.iload_n 1, 1) := by decide +kernel
theorem dX5_one_277 : decode cX5_one 277 = .ok (.iload_n 3, 1) := by decide +kernel
theorem dX5_one_278 : decode cX5_one 278 = .ok (.iload 5, 2) := by decide +kernel
theorem dX5_one_280 : decode cX5_one 280 = .ok (.invokestatic 104, 3) := by decide +kernel
theorem dX5_one_283 : decode cX5_one 283 = .ok (.iadd, 1) := by decide +kernel
theorem dX5_one_284 : decode cX5_one 284 = .ok (.iastore, 1) := by decide +kernel
theorem dX5_one_285 : decode cX5_one 285 = .ok (.iload 5, 2) := by decide +kernel
theorem dX5_one_287 : decode cX5_one 287 = .ok (.tableswitch 224 0 12 #[65, 73, 73, 113, 224, 224, 224, 224, 130, 153, 167, 191, 200], 65) := by decide +kernel
theorem dX5_one_352 : decode cX5_one 352 = .ok (.aload_n 0, 1) := by decide +kernel
theorem dX5_one_353 : decode cX5_one 353 = .ok (.iconst 2, 1) := by decide +kernel
theorem dX5_one_354 : decode cX5_one 354 = .ok (.putfield 52, 3) := by decide +kernel
theorem dX5_one_357 : decode cX5_one 357 = .ok (.goto 218, 3) := by decide +kernel
theorem dX5_one_360 : decode cX5_one 360 = .ok (.aload_n 0, 1) := by decide +kernel
theorem dX5_one_361 : decode cX5_one 361 = .ok (.iload 5, 2) := by decide +kernel
theorem dX5_one_363 : decode cX5_one 363 = .ok (.iconst 1, 1) := by decide +kernel
theorem dX5_one_364 : decode cX5_one 364 = .ok (.if_icmp .ne 8, 3) := by decide +kernel
theorem dX5_one_367 : decode cX5_one 367 = .ok (.iload 6, 2) := by decide +kernel
theorem dX5_one_369 : decode cX5_one 369 = .ok (.goto 15, 3) := by decide +kernel
theorem dX5_one_372 : decode cX5_one 372 = .ok (.aload_n 0, 1) := by decide +kernel
theorem dX5_one_373 : decode cX5_one 373 = .ok (.getfield 32, 3) := by decide +kernel
theorem dX5_one_376 : decode cX5_one 376 = .ok (.bipush 6, 2) := by decide +kernel
theorem dX5_one_378 : decode cX5_one 378 = .ok (.iload_n 1, 1) := by decide +kernel
theorem dX5_one_379 : decode cX5_one 379 = .ok (.imul, 1) := by decide +kernel
theorem dX5_one_380 : decode cX5_one 380 = .ok (.iload 6, 2) := by decide +kernel
theorem dX5_one_382 : decode cX5_one 382 = .ok (.iadd, 1) := by decide +kernel
theorem dX5_one_383 : decode cX5_one 383 = .ok (.iaload, 1) := by decide +kernel
theorem dX5_one_384 : decode cX5_one 384 = .ok (.invokevirtual 113, 3) := by decide +kernel
theorem dX5_one_387 : decode cX5_one 387 = .ok (.ifCond .ne 188, 3) := by decide +kernel
theorem dX5_one_390 : decode cX5_one 390 = .ok (.aload_n 0, 1) := by decide +kernel
theorem dX5_one_391 : decode cX5_one 391 = .ok (.getfield 26, 3) := by decide +kernel
theorem dX5_one_394 : decode cX5_one 394 = .ok (.iload_n 1, 1) := by decide +kernel
theorem dX5_one_395 : decode cX5_one 395 = .ok (.iload_n 3, 1) := by decide +kernel
theorem dX5_one_396 : decode cX5_one 396 = .ok (.iastore, 1) := by decide +kernel
theorem dX5_one_397 : decode cX5_one 397 = .ok (.goto 178, 3) := by decide +kernel
theorem dX5_one_400 : decode cX5_one 400 = .ok (.aload_n 0, 1) := by decide +kernel
theorem dX5_one_401 : decode cX5_one 401 = .ok (.getfield 32, 3) := by decide +kernel
theorem dX5_one_404 : decode cX5_one 404 = .ok (.bipush 6, 2) := by decide +kernel
theorem dX5_one_406 : decode cX5_one 406 = .ok (.iload_n 1, 1) := by decide +kernel
theorem dX5_one_407 : decode cX5_one 407 = .ok (.imul, 1) := by decide +kernel
theorem dX5_one_408 : decode cX5_one 408 = .ok (.iload 6, 2) := by decide +kernel
theorem dX5_one_410 : decode cX5_one 410 = .ok (.iadd, 1) := by decide +kernel
theorem dX5_one_411 : decode cX5_one 411 = .ok (.iload 7, 2) := by decide +kernel
theorem dX5_one_413 : decode cX5_one 413 = .ok (.iastore, 1) := by decide +kernel
theorem dX5_one_414 : decode cX5_one 414 = .ok (.goto 161, 3) := by decide +kernel
theorem dX5_one_417 : decode cX5_one 417 = .ok (.aload_n 0, 1) := by decide +kernel
theorem dX5_one_418 : decode cX5_one 418 = .ok (.getfield 26, 3) := by decide +kernel
theorem dX5_one_421 : decode cX5_one 421 = .ok (.iload_n 1, 1) := by decide +kernel
theorem dX5_one_422 : decode cX5_one 422 = .ok (.dup2, 1) := by decide +kernel
theorem dX5_one_423 : decode cX5_one 423 = .ok (.iaload, 1) := by decide +kernel
theorem dX5_one_424 : decode cX5_one 424 = .ok (.iload 7, 2) := by decide +kernel
theorem dX5_one_426 : decode cX5_one 426 = .ok (.ifCond .ne 8, 3) := by decide +kernel
theorem dX5_one_429 : decode cX5_one 429 = .ok (.iload 6, 2) := by decide +kernel
theorem dX5_one_431 : decode cX5_one 431 = .ok (.goto 4, 3) := by decide +kernel
theorem dX5_one_434 : decode cX5_one 434 = .ok (.iconst 0, 1) := by decide +kernel
theorem dX5_one_435 : decode cX5_one 435 = .ok (.iadd, 1) := by decide +kernel
theorem dX5_one_436 : decode cX5_one 436 = .ok (.iastore, 1) := by decide +kernel
theorem dX5_one_437 : decode cX5_one 437 = .ok (.goto 138, 3) := by decide +kernel
theorem dX5_one_440 : decode cX5_one 440 = .ok (.aload_n 0, 1) := by decide +kernel
theorem dX5_one_441 : decode cX5_one 441 = .ok (.getfield 26, 3) := by decide +kernel
theorem dX5_one_444 : decode cX5_one 444 = .ok (.iload_n 1, 1) := by decide +kernel
theorem dX5_one_445 : decode cX5_one 445 = .ok (.dup2, 1) := by decide +kernel
theorem dX5_one_446 : decode cX5_one 446 = .ok (.iaload, 1) := by decide +kernel
theorem dX5_one_447 : decode cX5_one 447 = .ok (.iload 6, 2) := by decide +kernel
theorem dX5_one_449 : decode cX5_one 449 = .ok (.iadd, 1) := by decide +kernel
theorem dX5_one_450 : decode cX5_one 450 = .ok (.iastore, 1) := by decide +kernel
theorem dX5_one_451 : decode cX5_one 451 = .ok (.goto 124, 3) := by decide +kernel
theorem dX5_one_454 : decode cX5_one 454 = .ok (.aload_n 0, 1) := by decide +kernel
theorem dX5_one_455 : decode cX5_one 455 = .ok (.iload 6, 2) := by decide +kernel
theorem dX5_one_457 : decode cX5_one 457 = .ok (.aload_n 0, 1) := by decide +kernel
theorem dX5_one_458 : decode cX5_one 458 = .ok (.getfield 7, 3) := by decide +kernel
theorem dX5_one_461 : decode cX5_one 461 = .ok (.bipush 80, 2) := by decide +kernel
theorem dX5_one_463 : decode cX5_one 463 = .ok (.iload_n 2, 1) := by decide +kernel
theorem dX5_one_464 : decode cX5_one 464 = .ok (.imul, 1) := by decide +kernel
theorem dX5_one_465 : decode cX5_one 465 = .ok (.iload_n 3, 1) := by decide +kernel
theorem dX5_one_466 : decode cX5_one 466 = .ok (.iadd, 1) := by decide +kernel
theorem dX5_one_467 : decode cX5_one 467 = .ok (.iconst 2, 1) := by decide +kernel
theorem dX5_one_468 : decode cX5_one 468 = .ok (.iadd, 1) := by decide +kernel
theorem dX5_one_469 : decode cX5_one 469 = .ok (.iaload, 1) := by decide +kernel
theorem dX5_one_470 : decode cX5_one 470 = .ok (.iload 7, 2) := by decide +kernel
theorem dX5_one_472 : decode cX5_one 472 = .ok (.invokevirtual 100, 3) := by decide +kernel
theorem dX5_one_475 : decode cX5_one 475 = .ok (.goto 100, 3) := by decide +kernel
theorem dX5_one_478 : decode cX5_one 478 = .ok (.aload_n 0, 1) := by decide +kernel
theorem dX5_one_479 : decode cX5_one 479 = .ok (.iload 7, 2) := by decide +kernel
theorem dX5_one_481 : decode cX5_one 481 = .ok (.invokevirtual 116, 3) := by decide +kernel
theorem dX5_one_484 : decode cX5_one 484 = .ok (.goto 91, 3) := by decide +kernel
theorem dX5_one_487 : decode cX5_one 487 = .ok (.aload_n 0, 1) := by decide +kernel
theorem dX5_one_488 : decode cX5_one 488 = .ok (.getfield 41, 3) := by decide +kernel
theorem dX5_one_491 : decode cX5_one 491 = .ok (.aload_n 0, 1) := by decide +kernel
theorem dX5_one_492 : decode cX5_one 492 = .ok (.getfield 97, 3) := by decide +kernel
theorem dX5_one_495 : decode cX5_one 495 = .ok (.iload 7, 2) := by decide +kernel
theorem dX5_one_497 : decode cX5_one 497 = .ok (.iastore, 1) := by decide +kernel
theorem dX5_one_498 : decode cX5_one 498 = .ok (.aload_n 0, 1) := by decide +kernel
theorem dX5_one_499 : decode cX5_one 499 = .ok (.dup, 1) := by decide +kernel
theorem dX5_one_500 : decode cX5_one 500 = .ok (.getfield 97, 3) := by decide +kernel
theorem dX5_one_503 : decode cX5_one 503 = .ok (.iconst 1, 1) := by decide +kernel
theorem dX5_one_504 : decode cX5_one 504 = .ok (.iadd, 1) := by decide +kernel
theorem dX5_one_505 : decode cX5_one 505 = .ok (.putfield 97, 3) := by decide +kernel
theorem dX5_one_508 : decode cX5_one 508 = .ok (.goto 67, 3) := by decide +kernel
theorem dX5_one_511 : decode cX5_one 511 = .ok (.aload_n 0, 1) := by decide +kernel
theorem dX5_one_512 : decode cX5_one 512 = .ok (.iload 5, 2) := by decide +kernel
theorem dX5_one_514 : decode cX5_one 514 = .ok (.iconst 4, 1) := by decide +kernel
theorem dX5_one_515 : decode cX5_one 515 = .ok (.if_icmp .ne 11, 3) := by decide +kernel
theorem dX5_one_518 : decode cX5_one 518 = .ok (.iload 8, 2) := by decide +kernel
theorem dX5_one_520 : decode cX5_one 520 = .ok (.iload 7, 2) := by decide +kernel
theorem dX5_one_522 : decode cX5_one 522 = .ok (.iadd, 1) := by decide +kernel
theorem dX5_one_523 : decode cX5_one 523 = .ok (.goto 44, 3) := by decide +kernel
theorem dX5_one_526 : decode cX5_one 526 = .ok (.iload 5, 2) := by decide +kernel
theorem dX5_one_528 : decode cX5_one 528 = .ok (.iconst 5, 1) := by decide +kernel
theorem dX5_one_529 : decode cX5_one 529 = .ok (.if_icmp .ne 11, 3) := by decide +kernel
theorem dX5_one_532 : decode cX5_one 532 = .ok (.iload 8, 2) := by decide +kernel
theorem dX5_one_534 : decode cX5_one 534 = .ok (.iload 7, 2) := by decide +kernel
theorem dX5_one_536 : decode cX5_one 536 = .ok (.isub, 1) := by decide +kernel
theorem dX5_one_537 : decode cX5_one 537 = .ok (.goto 30, 3) := by decide +kernel
theorem dX5_one_540 : decode cX5_one 540 = .ok (.iload 5, 2) := by decide +kernel
theorem dX5_one_542 : decode cX5_one 542 = .ok (.bipush 7, 2) := by decide +kernel
theorem dX5_one_544 : decode cX5_one 544 = .ok (.if_icmp .ne 11, 3) := by decide +kernel
theorem dX5_one_547 : decode cX5_one 547 = .ok (.iload 8, 2) := by decide +kernel
theorem dX5_one_549 : decode cX5_one 549 = .ok (.iload 7, 2) := by decide +kernel
theorem dX5_one_551 : decode cX5_one 551 = .ok (.imul, 1) := by decide +kernel
theorem dX5_one_552 : decode cX5_one 552 = .ok (.goto 15, 3) := by decide +kernel
theorem dX5_one_555 : decode cX5_one 555 = .ok (.iload 8, 2) := by decide +kernel
theorem dX5_one_557 : decode cX5_one 557 = .ok (.iload 7, 2) := by decide +kernel
theorem dX5_one_559 : decode cX5_one 559 = .ok (.if_icmp .ge 7, 3) := by decide +kernel
theorem dX5_one_562 : decode cX5_one 562 = .ok (.iconst 1, 1) := by decide +kernel
theorem dX5_one_563 : decode cX5_one 563 = .ok (.goto 4, 3) := by decide +kernel
theorem dX5_one_566 : decode cX5_one 566 = .ok (.iconst 0, 1) := by decide +kernel
theorem dX5_one_567 : decode cX5_one 567 = .ok (.invokevirtual 113, 3) := by decide +kernel
theorem dX5_one_570 : decode cX5_one 570 = .ok (.istore 9, 2) := by decide +kernel
theorem dX5_one_572 : decode cX5_one 572 = .ok (.goto 3, 3) := by decide +kernel
theorem dX5_one_575 : decode cX5_one 575 = .ok (.aload_n 0, 1) := by decide +kernel
theorem dX5_one_576 : decode cX5_one 576 = .ok (.getfield 52, 3) := by decide +kernel
theorem dX5_one_579 : decode cX5_one 579 = .ok (.iconst 1, 1) := by decide +kernel
theorem dX5_one_580 : decode cX5_one 580 = .ok (.if_icmp .le 18, 3) := by decide +kernel
theorem dX5_one_583 : decode cX5_one 583 = .ok (.aload_n 0, 1) := by decide +kernel
theorem dX5_one_584 : decode cX5_one 584 = .ok (.getfield 62, 3) := by decide +kernel
theorem dX5_one_587 : decode cX5_one 587 = .ok (.iload_n 1, 1) := by decide +kernel
theorem dX5_one_588 : decode cX5_one 588 = .ok (.if_icmp .le 10, 3) := by decide +kernel
theorem dX5_one_591 : decode cX5_one 591 = .ok (.aload_n 0, 1) := by decide +kernel
theorem dX5_one_592 : decode cX5_one 592 = .ok (.getfield 26, 3) := by decide +kernel
theorem dX5_one_595 : decode cX5_one 595 = .ok (.iload_n 1, 1) := by decide +kernel
theorem dX5_one_596 : decode cX5_one 596 = .ok (.iload_n 3, 1) := by decide +kernel
theorem dX5_one_597 : decode cX5_one 597 = .ok (.iastore, 1) := by decide +kernel
theorem dX5_one_598 : decode cX5_one 598 = .ok (.return_, 1) := by decide +kernel
theorem dX5_back_0 : decode cX5_back 0 = .ok (.aload_n 0, 1) := by decide +kernel
theorem dX5_back_1 : decode cX5_back 1 = .ok (.getfield 62, 3) := by decide +kernel
theorem dX5_back_4 : decode cX5_back 4 = .ok (.iconst 1, 1) := by decide +kernel
theorem dX5_back_5 : decode cX5_back 5 = .ok (.if_icmp .ne 14, 3) := by decide +kernel
theorem dX5_back_8 : decode cX5_back 8 = .ok (.aload_n 0, 1) := by decide +kernel
theorem dX5_back_9 : decode cX5_back 9 = .ok (.iload_n 1, 1) := by decide +kernel
theorem dX5_back_10 : decode cX5_back 10 = .ok (.putfield 94, 3) := by decide +kernel
theorem dX5_back_13 : decode cX5_back 13 = .ok (.aload_n 0, 1) := by decide +kernel
theorem dX5_back_14 : decode cX5_back 14 = .ok (.iconst 2, 1) := by decide +kernel
theorem dX5_back_15 : decode cX5_back 15 = .ok (.putfield 52, 3) := by decide +kernel
theorem dX5_back_18 : decode cX5_back 18 = .ok (.return_, 1) := by decide +kernel
theorem dX5_back_19 : decode cX5_back 19 = .ok (.aload_n 0, 1) := by decide +kernel
theorem dX5_back_20 : decode cX5_back 20 = .ok (.dup, 1) := by decide +kernel
theorem dX5_back_21 : decode cX5_back 21 = .ok (.getfield 62, 3) := by decide +kernel
theorem dX5_back_24 : decode cX5_back 24 = .ok (.iconst 1, 1) := by decide +kernel
theorem dX5_back_25 : decode cX5_back 25 = .ok (.isub, 1) := by decide +kernel
theorem dX5_back_26 : decode cX5_back 26 = .ok (.putfield 62, 3) := by decide +kernel
theorem dX5_back_29 : decode cX5_back 29 = .ok (.aload_n 0, 1) := by decide +kernel
theorem dX5_back_30 : decode cX5_back 30 = .ok (.aload_n 0, 1) := by decide +kernel
theorem dX5_back_31 : decode cX5_back 31 = .ok (.getfield 35, 3) := by decide +kernel
theorem dX5_back_34 : decode cX5_back 34 = .ok (.aload_n 0, 1) := by decide +kernel
theorem dX5_back_35 : decode cX5_back 35 = .ok (.getfield 62, 3) := by decide +kernel
theorem dX5_back_38 : decode cX5_back 38 = .ok (.iaload, 1) := by decide +kernel
theorem dX5_back_39 : decode cX5_back 39 = .ok (.putfield 59, 3) := by decide +kernel
theorem dX5_back_42 : decode cX5_back 42 = .ok (.aload_n 0, 1) := by decide +kernel
theorem dX5_back_43 : decode cX5_back 43 = .ok (.iload_n 1, 1) := by decide +kernel
theorem dX5_back_44 : decode cX5_back 44 = .ok (.invokevirtual 113, 3) := by decide +kernel
theorem dX5_back_47 : decode cX5_back 47 = .ok (.istore_n 2, 1) := by decide +kernel
theorem dX5_back_48 : decode cX5_back 48 = .ok (.return_, 1) := by decide +kernel
theorem dX5_step_0 : decode cX5_step 0 = .ok (.aload_n 0, 1) := by decide +kernel
theorem dX5_step_1 : decode cX5_step 1 = .ok (.aload_n 0, 1) := by decide +kernel
theorem dX5_step_2 : decode cX5_step 2 = .ok (.getfield 52, 3) := by decide +kernel
theorem dX5_step_5 : decode cX5_step 5 = .ok (.ifCond .ne 7, 3) := by decide +kernel
theorem dX5_step_8 : decode cX5_step 8 = .ok (.iconst 1, 1) := by decide +kernel
theorem dX5_step_9 : decode cX5_step 9 = .ok (.goto 19, 3) := by decide +kernel
theorem dX5_step_12 : decode cX5_step 12 = .ok (.iload_n 1, 1) := by decide +kernel
theorem dX5_step_13 : decode cX5_step 13 = .ok (.ifCond .lt 10, 3) := by decide +kernel
theorem dX5_step_16 : decode cX5_step 16 = .ok (.iload_n 1, 1) := by decide +kernel
theorem dX5_step_17 : decode cX5_step 17 = .ok (.sipush 2000, 3) := by decide +kernel
theorem dX5_step_20 : decode cX5_step 20 = .ok (.if_icmp .le 7, 3) := by decide +kernel
theorem dX5_step_23 : decode cX5_step 23 = .ok (.iconst 2, 1) := by decide +kernel
theorem dX5_step_24 : decode cX5_step 24 = .ok (.goto 4, 3) := by decide +kernel
theorem dX5_step_27 : decode cX5_step 27 = .ok (.iconst 0, 1) := by decide +kernel
theorem dX5_step_28 : decode cX5_step 28 = .ok (.putfield 44, 3) := by decide +kernel
theorem dX5_step_31 : decode cX5_step 31 = .ok (.iconst 0, 1) := by decide +kernel
theorem dX5_step_32 : decode cX5_step 32 = .ok (.istore_n 2, 1) := by decide +kernel
theorem dX5_step_33 : decode cX5_step 33 = .ok (.aload_n 0, 1) := by decide +kernel
theorem dX5_step_34 : decode cX5_step 34 = .ok (.getfield 44, 3) := by decide +kernel
theorem dX5_step_37 : decode cX5_step 37 = .ok (.ifCond .ne 26, 3) := by decide +kernel
theorem dX5_step_40 : decode cX5_step 40 = .ok (.iload_n 2, 1) := by decide +kernel
theorem dX5_step_41 : decode cX5_step 41 = .ok (.iload_n 1, 1) := by decide +kernel
theorem dX5_step_42 : decode cX5_step 42 = .ok (.if_icmp .ge 21, 3) := by decide +kernel
theorem dX5_step_45 : decode cX5_step 45 = .ok (.aload_n 0, 1) := by decide +kernel
theorem dX5_step_46 : decode cX5_step 46 = .ok (.getfield 52, 3) := by decide +kernel
theorem dX5_step_49 : decode cX5_step 49 = .ok (.iconst 1, 1) := by decide +kernel
theorem dX5_step_50 : decode cX5_step 50 = .ok (.if_icmp .ne 13, 3) := by decide +kernel
theorem dX5_step_53 : decode cX5_step 53 = .ok (.aload_n 0, 1) := by decide +kernel
theorem dX5_step_54 : decode cX5_step 54 = .ok (.invokevirtual 120, 3) := by decide +kernel
theorem dX5_step_57 : decode cX5_step 57 = .ok (.iinc 2 1, 3) := by decide +kernel
theorem dX5_step_60 : decode cX5_step 60 = .ok (.goto (-27), 3) := by decide +kernel
theorem dX5_step_63 : decode cX5_step 63 = .ok (.iload_n 2, 1) := by decide +kernel
theorem dX5_step_64 : decode cX5_step 64 = .ok (.ireturn, 1) := by decide +kernel
theorem dX5_look_0 : decode cX5_look 0 = .ok (.aload_n 0, 1) := by decide +kernel
theorem dX5_look_1 : decode cX5_look 1 = .ok (.iload_n 1, 1) := by decide +kernel
theorem dX5_look_2 : decode cX5_look 2 = .ok (.ifCond .lt 9, 3) := by decide +kernel
theorem dX5_look_5 : decode cX5_look 5 = .ok (.iload_n 1, 1) := by decide +kernel
theorem dX5_look_6 : decode cX5_look 6 = .ok (.bipush 10, 2) := by decide +kernel
theorem dX5_look_8 : decode cX5_look 8 = .ok (.if_icmp .le 7, 3) := by decide +kernel
theorem dX5_look_11 : decode cX5_look 11 = .ok (.iconst 1, 1) := by decide +kernel
theorem dX5_look_12 : decode cX5_look 12 = .ok (.goto 4, 3) := by decide +kernel
theorem dX5_look_15 : decode cX5_look 15 = .ok (.iconst 0, 1) := by decide +kernel
theorem dX5_look_16 : decode cX5_look 16 = .ok (.putfield 44, 3) := by decide +kernel
theorem dX5_look_19 : decode cX5_look 19 = .ok (.aload_n 0, 1) := by decide +kernel
theorem dX5_look_20 : decode cX5_look 20 = .ok (.getfield 44, 3) := by decide +kernel
theorem dX5_look_23 : decode cX5_look 23 = .ok (.ifCond .le 5, 3) := by decide +kernel
theorem dX5_look_26 : decode cX5_look 26 = .ok (.iconst 0, 1) := by decide +kernel
theorem dX5_look_27 : decode cX5_look 27 = .ok (.ireturn, 1) := by decide +kernel
theorem dX5_look_28 : decode cX5_look 28 = .ok (.iload_n 1, 1) := by decide +kernel
theorem dX5_look_29 : decode cX5_look 29 = .ok (.bipush 6, 2) := by decide +kernel
theorem dX5_look_31 : decode cX5_look 31 = .ok (.if_icmp .eq 9, 3) := by decide +kernel
theorem dX5_look_34 : decode cX5_look 34 = .ok (.iload_n 1, 1) := by decide +kernel
theorem dX5_look_35 : decode cX5_look 35 = .ok (.bipush 7, 2) := by decide +kernel
