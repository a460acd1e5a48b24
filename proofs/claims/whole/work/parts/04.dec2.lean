theorem dX3_fact_0 : decode cX3_fact 0 = .ok (.iload_n 1, 1) := by decide +kernel
theorem dX3_fact_1 : decode cX3_fact 1 = .ok (.tableswitch 129 0 9 #[55, 60, 68, 76, 84, 92, 100, 108, 116, 124], 55) := by decide +kernel
theorem dX3_fact_56 : decode cX3_fact 56 = .ok (.aload_n 0, 1) := by decide +kernel
theorem dX3_fact_57 : decode cX3_fact 57 = .ok (.getfield 54, 3) := by decide +kernel
theorem dX3_fact_60 : decode cX3_fact 60 = .ok (.ireturn, 1) := by decide +kernel
theorem dX3_fact_61 : decode cX3_fact 61 = .ok (.aload_n 0, 1) := by decide +kernel
theorem dX3_fact_62 : decode cX3_fact 62 = .ok (.getfield 12, 3) := by decide +kernel
theorem dX3_fact_65 : decode cX3_fact 65 = .ok (.invokevirtual 68, 3) := by decide +kernel
theorem dX3_fact_68 : decode cX3_fact 68 = .ok (.ireturn, 1) := by decide +kernel
theorem dX3_fact_69 : decode cX3_fact 69 = .ok (.aload_n 0, 1) := by decide +kernel
theorem dX3_fact_70 : decode cX3_fact 70 = .ok (.getfield 12, 3) := by decide +kernel
theorem dX3_fact_73 : decode cX3_fact 73 = .ok (.invokevirtual 72, 3) := by decide +kernel
theorem dX3_fact_76 : decode cX3_fact 76 = .ok (.ireturn, 1) := by decide +kernel
theorem dX3_fact_77 : decode cX3_fact 77 = .ok (.aload_n 0, 1) := by decide +kernel
theorem dX3_fact_78 : decode cX3_fact 78 = .ok (.getfield 12, 3) := by decide +kernel
theorem dX3_fact_81 : decode cX3_fact 81 = .ok (.invokevirtual 75, 3) := by decide +kernel
theorem dX3_fact_84 : decode cX3_fact 84 = .ok (.ireturn, 1) := by decide +kernel
theorem dX3_fact_85 : decode cX3_fact 85 = .ok (.aload_n 0, 1) := by decide +kernel
theorem dX3_fact_86 : decode cX3_fact 86 = .ok (.getfield 12, 3) := by decide +kernel
theorem dX3_fact_89 : decode cX3_fact 89 = .ok (.invokevirtual 78, 3) := by decide +kernel
theorem dX3_fact_92 : decode cX3_fact 92 = .ok (.ireturn, 1) := by decide +kernel
theorem dX3_fact_93 : decode cX3_fact 93 = .ok (.aload_n 0, 1) := by decide +kernel
theorem dX3_fact_94 : decode cX3_fact 94 = .ok (.getfield 21, 3) := by decide +kernel
theorem dX3_fact_97 : decode cX3_fact 97 = .ok (.invokevirtual 81, 3) := by decide +kernel
theorem dX3_fact_100 : decode cX3_fact 100 = .ok (.ireturn, 1) := by decide +kernel
theorem dX3_fact_101 : decode cX3_fact 101 = .ok (.aload_n 0, 1) := by decide +kernel
theorem dX3_fact_102 : decode cX3_fact 102 = .ok (.getfield 21, 3) := by decide +kernel
theorem dX3_fact_105 : decode cX3_fact 105 = .ok (.invokevirtual 84, 3) := by decide +kernel
theorem dX3_fact_108 : decode cX3_fact 108 = .ok (.ireturn, 1) := by decide +kernel
theorem dX3_fact_109 : decode cX3_fact 109 = .ok (.aload_n 0, 1) := by decide +kernel
theorem dX3_fact_110 : decode cX3_fact 110 = .ok (.getfield 21, 3) := by decide +kernel
theorem dX3_fact_113 : decode cX3_fact 113 = .ok (.invokevirtual 87, 3) := by decide +kernel
theorem dX3_fact_116 : decode cX3_fact 116 = .ok (.ireturn, 1) := by decide +kernel
theorem dX3_fact_117 : decode cX3_fact 117 = .ok (.aload_n 0, 1) := by decide +kernel
theorem dX3_fact_118 : decode cX3_fact 118 = .ok (.getfield 21, 3) := by decide +kernel
theorem dX3_fact_121 : decode cX3_fact 121 = .ok (.invokevirtual 90, 3) := by decide +kernel
theorem dX3_fact_124 : decode cX3_fact 124 = .ok (.ireturn, 1) := by decide +kernel
theorem dX3_fact_125 : decode cX3_fact 125 = .ok (.aload_n 0, 1) := by decide +kernel
theorem dX3_fact_126 : decode cX3_fact 126 = .ok (.getfield 51, 3) := by decide +kernel
theorem dX3_fact_129 : decode cX3_fact 129 = .ok (.ireturn, 1) := by decide +kernel
theorem dX3_fact_130 : decode cX3_fact 130 = .ok (.aload_n 0, 1) := by decide +kernel
theorem dX3_fact_131 : decode cX3_fact 131 = .ok (.getfield 47, 3) := by decide +kernel
theorem dX3_fact_134 : decode cX3_fact 134 = .ok (.ireturn, 1) := by decide +kernel
theorem dX3_doInstruction_0 : decode cX3_doInstruction 0 = .ok (.aload_n 0, 1) := by decide +kernel
theorem dX3_doInstruction_1 : decode cX3_doInstruction 1 = .ok (.getfield 21, 3) := by decide +kernel
theorem dX3_doInstruction_4 : decode cX3_doInstruction 4 = .ok (.invokevirtual 84, 3) := by decide +kernel
theorem dX3_doInstruction_7 : decode cX3_doInstruction 7 = .ok (.istore_n 1, 1) := by decide +kernel
theorem dX3_doInstruction_8 : decode cX3_doInstruction 8 = .ok (.aload_n 0, 1) := by decide +kernel
theorem dX3_doInstruction_9 : decode cX3_doInstruction 9 = .ok (.getfield 21, 3) := by decide +kernel
theorem dX3_doInstruction_12 : decode cX3_doInstruction 12 = .ok (.invokevirtual 87, 3) := by decide +kernel
theorem dX3_doInstruction_15 : decode cX3_doInstruction 15 = .ok (.istore_n 2, 1) := by decide +kernel
theorem dX3_doInstruction_16 : decode cX3_doInstruction 16 = .ok (.aload_n 0, 1) := by decide +kernel
theorem dX3_doInstruction_17 : decode cX3_doInstruction 17 = .ok (.iload_n 1, 1) := by decide +kernel
theorem dX3_doInstruction_18 : decode cX3_doInstruction 18 = .ok (.iload_n 2, 1) := by decide +kernel
theorem dX3_doInstruction_19 : decode cX3_doInstruction 19 = .ok (.invokevirtual 93, 3) := by decide +kernel
theorem dX3_doInstruction_22 : decode cX3_doInstruction 22 = .ok (.istore_n 3, 1) := by decide +kernel
theorem dX3_doInstruction_23 : decode cX3_doInstruction 23 = .ok (.iload_n 3, 1) := by decide +kernel
theorem dX3_doInstruction_24 : decode cX3_doInstruction 24 = .ok (.iconst (-1), 1) := by decide +kernel
theorem dX3_doInstruction_25 : decode cX3_doInstruction 25 = .ok (.if_icmp .eq 18, 3) := by decide +kernel
theorem dX3_doInstruction_28 : decode cX3_doInstruction 28 = .ok (.aload_n 0, 1) := by decide +kernel
theorem dX3_doInstruction_29 : decode cX3_doInstruction 29 = .ok (.getfield 21, 3) := by decide +kernel
theorem dX3_doInstruction_32 : decode cX3_doInstruction 32 = .ok (.invokevirtual 90, 3) := by decide +kernel
theorem dX3_doInstruction_35 : decode cX3_doInstruction 35 = .ok (.getstatic 96, 3) := by decide +kernel
theorem dX3_doInstruction_38 : decode cX3_doInstruction 38 = .ok (.iload_n 3, 1) := by decide +kernel
theorem dX3_doInstruction_39 : decode cX3_doInstruction 39 = .ok (.iaload, 1) := by decide +kernel
theorem dX3_doInstruction_40 : decode cX3_doInstruction 40 = .ok (.if_icmp .ge 9, 3) := by decide +kernel
theorem dX3_doInstruction_43 : decode cX3_doInstruction 43 = .ok (.aload_n 0, 1) := by decide +kernel
theorem dX3_doInstruction_44 : decode cX3_doInstruction 44 = .ok (.iconst 3, 1) := by decide +kernel
theorem dX3_doInstruction_45 : decode cX3_doInstruction 45 = .ok (.putfield 54, 3) := by decide +kernel
theorem dX3_doInstruction_48 : decode cX3_doInstruction 48 = .ok (.return_, 1) := by decide +kernel
theorem dX3_doInstruction_49 : decode cX3_doInstruction 49 = .ok (.aload_n 0, 1) := by decide +kernel
theorem dX3_doInstruction_50 : decode cX3_doInstruction 50 = .ok (.getfield 29, 3) := by decide +kernel
theorem dX3_doInstruction_53 : decode cX3_doInstruction 53 = .ok (.iload_n 1, 1) := by decide +kernel
theorem dX3_doInstruction_54 : decode cX3_doInstruction 54 = .ok (.iload_n 2, 1) := by decide +kernel
theorem dX3_doInstruction_55 : decode cX3_doInstruction 55 = .ok (.iconst 1, 1) := by decide +kernel
theorem dX3_doInstruction_56 : decode cX3_doInstruction 56 = .ok (.iadd, 1) := by decide +kernel
theorem dX3_doInstruction_57 : decode cX3_doInstruction 57 = .ok (.invokevirtual 99, 3) := by decide +kernel
theorem dX3_doInstruction_60 : decode cX3_doInstruction 60 = .ok (.istore 4, 2) := by decide +kernel
theorem dX3_doInstruction_62 : decode cX3_doInstruction 62 = .ok (.iload_n 2, 1) := by decide +kernel
theorem dX3_doInstruction_63 : decode cX3_doInstruction 63 = .ok (.getstatic 104, 3) := by decide +kernel
theorem dX3_doInstruction_66 : decode cX3_doInstruction 66 = .ok (.iload_n 3, 1) := by decide +kernel
theorem dX3_doInstruction_67 : decode cX3_doInstruction 67 = .ok (.iaload, 1) := by decide +kernel
theorem dX3_doInstruction_68 : decode cX3_doInstruction 68 = .ok (.iadd, 1) := by decide +kernel
theorem dX3_doInstruction_69 : decode cX3_doInstruction 69 = .ok (.istore 5, 2) := by decide +kernel
theorem dX3_doInstruction_71 : decode cX3_doInstruction 71 = .ok (.iload_n 3, 1) := by decide +kernel
theorem dX3_doInstruction_72 : decode cX3_doInstruction 72 = .ok (.tableswitch 189 0 12 #[68, 76, 87, 98, 189, 189, 189, 189, 109, 136, 151, 173, 180], 68) := by decide +kernel
theorem dX3_doInstruction_140 : decode cX3_doInstruction 140 = .ok (.aload_n 0, 1) := by decide +kernel
theorem dX3_doInstruction_141 : decode cX3_doInstruction 141 = .ok (.iconst 2, 1) := by decide +kernel
theorem dX3_doInstruction_142 : decode cX3_doInstruction 142 = .ok (.putfield 54, 3) := by decide +kernel
theorem dX3_doInstruction_145 : decode cX3_doInstruction 145 = .ok (.goto 123, 3) := by decide +kernel
theorem dX3_doInstruction_148 : decode cX3_doInstruction 148 = .ok (.aload_n 0, 1) := by decide +kernel
theorem dX3_doInstruction_149 : decode cX3_doInstruction 149 = .ok (.iload 4, 2) := by decide +kernel
theorem dX3_doInstruction_151 : decode cX3_doInstruction 151 = .ok (.iload 5, 2) := by decide +kernel
theorem dX3_doInstruction_153 : decode cX3_doInstruction 153 = .ok (.invokevirtual 107, 3) := by decide +kernel
theorem dX3_doInstruction_156 : decode cX3_doInstruction 156 = .ok (.goto 112, 3) := by decide +kernel
theorem dX3_doInstruction_159 : decode cX3_doInstruction 159 = .ok (.aload_n 0, 1) := by decide +kernel
theorem dX3_doInstruction_160 : decode cX3_doInstruction 160 = .ok (.iload 4, 2) := by decide +kernel
theorem dX3_doInstruction_162 : decode cX3_doInstruction 162 = .ok (.iload 5, 2) := by decide +kernel
theorem dX3_doInstruction_164 : decode cX3_doInstruction 164 = .ok (.invokevirtual 110, 3) := by decide +kernel
theorem dX3_doInstruction_167 : decode cX3_doInstruction 167 = .ok (.goto 101, 3) := by decide +kernel
theorem dX3_doInstruction_170 : decode cX3_doInstruction 170 = .ok (.aload_n 0, 1) := by decide +kernel
theorem dX3_doInstruction_171 : decode cX3_doInstruction 171 = .ok (.iload 4, 2) := by decide +kernel
theorem dX3_doInstruction_173 : decode cX3_doInstruction 173 = .ok (.iload 5, 2) := by decide +kernel
theorem dX3_doInstruction_175 : decode cX3_doInstruction 175 = .ok (.invokevirtual 113, 3) := by decide +kernel
theorem dX3_doInstruction_178 : decode cX3_doInstruction 178 = .ok (.goto 90, 3) := by decide +kernel
theorem dX3_doInstruction_181 : decode cX3_doInstruction 181 = .ok (.aload_n 0, 1) := by decide +kernel
theorem dX3_doInstruction_182 : decode cX3_doInstruction 182 = .ok (.getfield 21, 3) := by decide +kernel
theorem dX3_doInstruction_185 : decode cX3_doInstruction 185 = .ok (.aload_n 0, 1) := by decide +kernel
theorem dX3_doInstruction_186 : decode cX3_doInstruction 186 = .ok (.invokevirtual 116, 3) := by decide +kernel
theorem dX3_doInstruction_189 : decode cX3_doInstruction 189 = .ok (.ifCond .ne 11, 3) := by decide +kernel
theorem dX3_doInstruction_192 : decode cX3_doInstruction 192 = .ok (.iload 5, 2) := by decide +kernel
theorem dX3_doInstruction_194 : decode cX3_doInstruction 194 = .ok (.iload 4, 2) := by decide +kernel
theorem dX3_doInstruction_196 : decode cX3_doInstruction 196 = .ok (.iadd, 1) := by decide +kernel
theorem dX3_doInstruction_197 : decode cX3_doInstruction 197 = .ok (.goto 5, 3) := by decide +kernel
theorem dX3_doInstruction_200 : decode cX3_doInstruction 200 = .ok (.iload 5, 2) := by decide +kernel
theorem dX3_doInstruction_202 : decode cX3_doInstruction 202 = .ok (.invokevirtual 119, 3) := by decide +kernel
theorem dX3_doInstruction_205 : decode cX3_doInstruction 205 = .ok (.goto 63, 3) := by decide +kernel
theorem dX3_doInstruction_208 : decode cX3_doInstruction 208 = .ok (.aload_n 0, 1) := by decide +kernel
theorem dX3_doInstruction_209 : decode cX3_doInstruction 209 = .ok (.getfield 21, 3) := by decide +kernel
theorem dX3_doInstruction_212 : decode cX3_doInstruction 212 = .ok (.iload 5, 2) := by decide +kernel
theorem dX3_doInstruction_214 : decode cX3_doInstruction 214 = .ok (.iload 4, 2) := by decide +kernel
theorem dX3_doInstruction_216 : decode cX3_doInstruction 216 = .ok (.iadd, 1) := by decide +kernel
theorem dX3_doInstruction_217 : decode cX3_doInstruction 217 = .ok (.invokevirtual 119, 3) := by decide +kernel
theorem dX3_doInstruction_220 : decode cX3_doInstruction 220 = .ok (.goto 48, 3) := by decide +kernel
theorem dX3_doInstruction_223 : decode cX3_doInstruction 223 = .ok (.aload_n 0, 1) := by decide +kernel
theorem dX3_doInstruction_224 : decode cX3_doInstruction 224 = .ok (.iload 5, 2) := by decide +kernel
theorem dX3_doInstruction_226 : decode cX3_doInstruction 226 = .ok (.iload 4, 2) := by decide +kernel
theorem dX3_doInstruction_228 : decode cX3_doInstruction 228 = .ok (.aload_n 0, 1) := by decide +kernel
theorem dX3_doInstruction_229 : decode cX3_doInstruction 229 = .ok (.getfield 29, 3) := by decide +kernel
theorem dX3_doInstruction_232 : decode cX3_doInstruction 232 = .ok (.iload_n 1, 1) := by decide +kernel
theorem dX3_doInstruction_233 : decode cX3_doInstruction 233 = .ok (.iload_n 2, 1) := by decide +kernel
theorem dX3_doInstruction_234 : decode cX3_doInstruction 234 = .ok (.iconst 2, 1) := by decide +kernel
theorem dX3_doInstruction_235 : decode cX3_doInstruction 235 = .ok (.iadd, 1) := by decide +kernel
theorem dX3_doInstruction_236 : decode cX3_doInstruction 236 = .ok (.invokevirtual 99, 3) := by decide +kernel
theorem dX3_doInstruction_239 : decode cX3_doInstruction 239 = .ok (.invokevirtual 122, 3) := by decide +kernel
theorem dX3_doInstruction_242 : decode cX3_doInstruction 242 = .ok (.goto 26, 3) := by decide +kernel
theorem dX3_doInstruction_245 : decode cX3_doInstruction 245 = .ok (.aload_n 0, 1) := by decide +kernel
theorem dX3_doInstruction_246 : decode cX3_doInstruction 246 = .ok (.invokevirtual 126, 3) := by decide +kernel
theorem dX3_doInstruction_249 : decode cX3_doInstruction 249 = .ok (.goto 19, 3) := by decide +kernel
theorem dX3_doInstruction_252 : decode cX3_doInstruction 252 = .ok (.aload_n 0, 1) := by decide +kernel
theorem dX3_doInstruction_253 : decode cX3_doInstruction 253 = .ok (.iload 5, 2) := by decide +kernel
theorem dX3_doInstruction_255 : decode cX3_doInstruction 255 = .ok (.invokevirtual 129, 3) := by decide +kernel
theorem dX3_doInstruction_258 : decode cX3_doInstruction 258 = .ok (.goto 10, 3) := by decide +kernel
theorem dX3_doInstruction_261 : decode cX3_doInstruction 261 = .ok (.aload_n 0, 1) := by decide +kernel
theorem dX3_doInstruction_262 : decode cX3_doInstruction 262 = .ok (.iload_n 3, 1) := by decide +kernel
theorem dX3_doInstruction_263 : decode cX3_doInstruction 263 = .ok (.iload 5, 2) := by decide +kernel
theorem dX3_doInstruction_265 : decode cX3_doInstruction 265 = .ok (.invokevirtual 132, 3) := by decide +kernel
theorem dX3_doInstruction_268 : decode cX3_doInstruction 268 = .ok (.return_, 1) := by decide +kernel
theorem dX3_kindAt_0 : decode cX3_kindAt 0 = .ok (.aload_n 0, 1) := by decide +kernel
theorem dX3_kindAt_1 : decode cX3_kindAt 1 = .ok (.getfield 29, 3) := by decide +kernel
theorem dX3_kindAt_4 : decode cX3_kindAt 4 = .ok (.iload_n 1, 1) := by decide +kernel
theorem dX3_kindAt_5 : decode cX3_kindAt 5 = .ok (.invokevirtual 135, 3) := by decide +kernel
theorem dX3_kindAt_8 : decode cX3_kindAt 8 = .ok (.istore_n 3, 1) := by decide +kernel
theorem dX3_kindAt_9 : decode cX3_kindAt 9 = .ok (.iload_n 2, 1) := by decide +kernel
theorem dX3_kindAt_10 : decode cX3_kindAt 10 = .ok (.ifCond .lt 8, 3) := by decide +kernel
theorem dX3_kindAt_13 : decode cX3_kindAt 13 = .ok (.iload_n 2, 1) := by decide +kernel
theorem dX3_kindAt_14 : decode cX3_kindAt 14 = .ok (.iload_n 3, 1) := by decide +kernel
theorem dX3_kindAt_15 : decode cX3_kindAt 15 = .ok (.if_icmp .lt 5, 3) := by decide +kernel
theorem dX3_kindAt_18 : decode cX3_kindAt 18 = .ok (.iconst (-1), 1) := by decide +kernel
theorem dX3_kindAt_19 : decode cX3_kindAt 19 = .ok (.ireturn, 1) := by decide +kernel
theorem dX3_kindAt_20 : decode cX3_kindAt 20 = .ok (.aload_n 0, 1) := by decide +kernel
theorem dX3_kindAt_21 : decode cX3_kindAt 21 = .ok (.getfield 29, 3) := by decide +kernel
theorem dX3_kindAt_24 : decode cX3_kindAt 24 = .ok (.iload_n 1, 1) := by decide +kernel
theorem dX3_kindAt_25 : decode cX3_kindAt 25 = .ok (.iload_n 2, 1) := by decide +kernel
theorem dX3_kindAt_26 : decode cX3_kindAt 26 = .ok (.invokevirtual 99, 3) := by decide +kernel
theorem dX3_kindAt_29 : decode cX3_kindAt 29 = .ok (.istore 4, 2) := by decide +kernel
theorem dX3_kindAt_31 : decode cX3_kindAt 31 = .ok (.iload 4, 2) := by decide +kernel
theorem dX3_kindAt_33 : decode cX3_kindAt 33 = .ok (.ifCond .lt 24, 3) := by decide +kernel
theorem dX3_kindAt_36 : decode cX3_kindAt 36 = .ok (.iload 4, 2) := by decide +kernel
theorem dX3_kindAt_38 : decode cX3_kindAt 38 = .ok (.getstatic 104, 3) := by decide +kernel
theorem dX3_kindAt_41 : decode cX3_kindAt 41 = .ok (.arraylength, 1) := by decide +kernel
theorem dX3_kindAt_42 : decode cX3_kindAt 42 = .ok (.if_icmp .ge 15, 3) := by decide +kernel
theorem dX3_kindAt_45 : decode cX3_kindAt 45 = .ok (.iload_n 2, 1) := by decide +kernel
theorem dX3_kindAt_46 : decode cX3_kindAt 46 = .ok (.getstatic 104, 3) := by decide +kernel
theorem dX3_kindAt_49 : decode cX3_kindAt 49 = .ok (.iload 4, 2) := by decide +kernel
theorem dX3_kindAt_51 : decode cX3_kindAt 51 = .ok (.iaload, 1) := by decide +kernel
theorem dX3_kindAt_52 : decode cX3_kindAt 52 = .ok (.iadd, 1) := by decide +kernel
theorem dX3_kindAt_53 : decode cX3_kindAt 53 = .ok (.iload_n 3, 1) := by decide +kernel
theorem dX3_kindAt_54 : decode cX3_kindAt 54 = .ok (.if_icmp .le 5, 3) := by decide +kernel
theorem dX3_kindAt_57 : decode cX3_kindAt 57 = .ok (.iconst (-1), 1) := by decide +kernel
theorem dX3_kindAt_58 : decode cX3_kindAt 58 = .ok (.ireturn, 1) := by decide +kernel
theorem dX3_kindAt_59 : decode cX3_kindAt 59 = .ok (.iload 4, 2) := by decide +kernel
theorem dX3_kindAt_61 : decode cX3_kindAt 61 = .ok (.ireturn, 1) := by decide +kernel
theorem dX3_take_0 : decode cX3_take 0 = .ok (.aload_n 0, 1) := by decide +kernel
theorem dX3_take_1 : decode cX3_take 1 = .ok (.getfield 12, 3) := by decide +kernel
theorem dX3_take_4 : decode cX3_take 4 = .ok (.invokevirtual 139, 3) := by decide +kernel
theorem dX3_take_7 : decode cX3_take 7 = .ok (.aload_n 0, 1) := by decide +kernel
theorem dX3_take_8 : decode cX3_take 8 = .ok (.getfield 21, 3) := by decide +kernel
theorem dX3_take_11 : decode cX3_take 11 = .ok (.invokevirtual 142, 3) := by decide +kernel
theorem dX3_take_14 : decode cX3_take 14 = .ok (.ireturn, 1) := by decide +kernel
theorem dX3_push_0 : decode cX3_push 0 = .ok (.aload_n 0, 1) := by decide +kernel
theorem dX3_push_1 : decode cX3_push 1 = .ok (.getfield 12, 3) := by decide +kernel
theorem dX3_push_4 : decode cX3_push 4 = .ok (.iconst 4, 1) := by decide +kernel
theorem dX3_push_5 : decode cX3_push 5 = .ok (.iconst (-1), 1) := by decide +kernel
theorem dX3_push_6 : decode cX3_push 6 = .ok (.invokevirtual 145, 3) := by decide +kernel
theorem dX3_push_9 : decode cX3_push 9 = .ok (.ifCond .ne 10, 3) := by decide +kernel
theorem dX3_push_12 : decode cX3_push 12 = .ok (.aload_n 0, 1) := by decide +kernel
theorem dX3_push_13 : decode cX3_push 13 = .ok (.iconst 4, 1) := by decide +kernel
theorem dX3_push_14 : decode cX3_push 14 = .ok (.putfield 54, 3) := by decide +kernel
theorem dX3_push_17 : decode cX3_push 17 = .ok (.iconst 0, 1) := by decide +kernel
theorem dX3_push_18 : decode cX3_push 18 = .ok (.ireturn, 1) := by decide +kernel
theorem dX3_push_19 : decode cX3_push 19 = .ok (.aload_n 0, 1) := by decide +kernel
theorem dX3_push_20 : decode cX3_push 20 = .ok (.getfield 21, 3) := by decide +kernel
theorem dX3_push_23 : decode cX3_push 23 = .ok (.iload_n 1, 1) := by decide +kernel
theorem dX3_push_24 : decode cX3_push 24 = .ok (.invokevirtual 149, 3) := by decide +kernel
theorem dX3_push_27 : decode cX3_push 27 = .ok (.iconst 1, 1) := by decide +kernel
theorem dX3_push_28 : decode cX3_push 28 = .ok (.ireturn, 1) := by decide +kernel
theorem dX3_pushAndMove_0 : decode cX3_pushAndMove 0 = .ok (.aload_n 0, 1) := by decide +kernel
theorem dX3_pushAndMove_1 : decode cX3_pushAndMove 1 = .ok (.iload_n 1, 1) := by decide +kernel
theorem dX3_pushAndMove_2 : decode cX3_pushAndMove 2 = .ok (.invokevirtual 152, 3) := by decide +kernel
theorem dX3_pushAndMove_5 : decode cX3_pushAndMove 5 = .ok (.ifCond .eq 11, 3) := by decide +kernel
theorem dX3_pushAndMove_8 : decode cX3_pushAndMove 8 = .ok (.aload_n 0, 1) := by decide +kernel
theorem dX3_pushAndMove_9 : decode cX3_pushAndMove 9 = .ok (.getfield 21, 3) := by decide +kernel
theorem dX3_pushAndMove_12 : decode cX3_pushAndMove 12 = .ok (.iload_n 2, 1) := by decide +kernel
theorem dX3_pushAndMove_13 : decode cX3_pushAndMove 13 = .ok (.invokevirtual 119, 3) := by decide +kernel
theorem dX3_pushAndMove_16 : decode cX3_pushAndMove 16 = .ok (.return_, 1) := by decide +kernel
theorem dX3_getLocal_0 : decode cX3_getLocal 0 = .ok (.aload_n 0, 1) := by decide +kernel
theorem dX3_getLocal_1 : decode cX3_getLocal 1 = .ok (.getfield 21, 3) := by decide +kernel
theorem dX3_getLocal_4 : decode cX3_getLocal 4 = .ok (.invokevirtual 81, 3) := by decide +kernel
theorem dX3_getLocal_7 : decode cX3_getLocal 7 = .ok (.iconst 1, 1) := by decide +kernel
theorem dX3_getLocal_8 : decode cX3_getLocal 8 = .ok (.isub, 1) := by decide +kernel
theorem dX3_getLocal_9 : decode cX3_getLocal 9 = .ok (.istore_n 3, 1) := by decide +kernel
theorem dX3_getLocal_10 : decode cX3_getLocal 10 = .ok (.aload_n 0, 1) := by decide +kernel
theorem dX3_getLocal_11 : decode cX3_getLocal 11 = .ok (.getfield 21, 3) := by decide +kernel
theorem dX3_getLocal_14 : decode cX3_getLocal 14 = .ok (.iload_n 3, 1) := by decide +kernel
theorem dX3_getLocal_15 : decode cX3_getLocal 15 = .ok (.iload_n 1, 1) := by decide +kernel
theorem dX3_getLocal_16 : decode cX3_getLocal 16 = .ok (.invokevirtual 154, 3) := by decide +kernel
theorem dX3_getLocal_19 : decode cX3_getLocal 19 = .ok (.ifCond .ne 9, 3) := by decide +kernel
theorem dX3_getLocal_22 : decode cX3_getLocal 22 = .ok (.aload_n 0, 1) := by decide +kernel
theorem dX3_getLocal_23 : decode cX3_getLocal 23 = .ok (.iconst 3, 1) := by decide +kernel
theorem dX3_getLocal_24 : decode cX3_getLocal 24 = .ok (.putfield 54, 3) := by decide +kernel
theorem dX3_getLocal_27 : decode cX3_getLocal 27 = .ok (.return_, 1) := by decide +kernel
theorem dX3_getLocal_28 : decode cX3_getLocal 28 = .ok (.aload_n 0, 1) := by decide +kernel
theorem dX3_getLocal_29 : decode cX3_getLocal 29 = .ok (.aload_n 0, 1) := by decide +kernel
theorem dX3_getLocal_30 : decode cX3_getLocal 30 = .ok (.getfield 21, 3) := by decide +kernel
theorem dX3_getLocal_33 : decode cX3_getLocal 33 = .ok (.iload_n 3, 1) := by decide +kernel
theorem dX3_getLocal_34 : decode cX3_getLocal 34 = .ok (.iload_n 1, 1) := by decide +kernel
theorem dX3_getLocal_35 : decode cX3_getLocal 35 = .ok (.invokevirtual 57, 3) := by decide +kernel
theorem dX3_getLocal_38 : decode cX3_getLocal 38 = .ok (.iload_n 2, 1) := by decide +kernel
theorem dX3_getLocal_39 : decode cX3_getLocal 39 = .ok (.invokevirtual 107, 3) := by decide +kernel
theorem dX3_getLocal_42 : decode cX3_getLocal 42 = .ok (.return_, 1) := by decide +kernel
theorem dX3_setLocal_0 : decode cX3_setLocal 0 = .ok (.aload_n 0, 1) := by decide +kernel
theorem dX3_setLocal_1 : decode cX3_setLocal 1 = .ok (.getfield 21, 3) := by decide +kernel
theorem dX3_setLocal_4 : decode cX3_setLocal 4 = .ok (.invokevirtual 81, 3) := by decide +kernel
theorem dX3_setLocal_7 : decode cX3_setLocal 7 = .ok (.iconst 1, 1) := by decide +kernel
theorem dX3_setLocal_8 : decode cX3_setLocal 8 = .ok (.isub, 1) := by decide +kernel
theorem dX3_setLocal_9 : decode cX3_setLocal 9 = .ok (.istore_n 3, 1) := by decide +kernel
theorem dX3_setLocal_10 : decode cX3_setLocal 10 = .ok (.aload_n 0, 1) := by decide +kernel
theorem dX3_setLocal_11 : decode cX3_setLocal 11 = .ok (.getfield 21, 3) := by decide +kernel
theorem dX3_setLocal_14 : decode cX3_setLocal 14 = .ok (.iload_n 3, 1) := by decide +kernel
theorem dX3_setLocal_15 : decode cX3_setLocal 15 = .ok (.iload_n 1, 1) := by decide +kernel
theorem dX3_setLocal_16 : decode cX3_setLocal 16 = .ok (.invokevirtual 154, 3) := by decide +kernel
theorem dX3_setLocal_19 : decode cX3_setLocal 19 = .ok (.ifCond .ne 9, 3) := by decide +kernel
theorem dX3_setLocal_22 : decode cX3_setLocal 22 = .ok (.aload_n 0, 1) := by decide +kernel
theorem dX3_setLocal_23 : decode cX3_setLocal 23 = .ok (.iconst 3, 1) := by decide +kernel
theorem dX3_setLocal_24 : decode cX3_setLocal 24 = .ok (.putfield 54, 3) := by decide +kernel
theorem dX3_setLocal_27 : decode cX3_setLocal 27 = .ok (.return_, 1) := by decide +kernel
theorem dX3_setLocal_28 : decode cX3_setLocal 28 = .ok (.aload_n 0, 1) := by decide +kernel
theorem dX3_setLocal_29 : decode cX3_setLocal 29 = .ok (.getfield 21, 3) := by decide +kernel
theorem dX3_setLocal_32 : decode cX3_setLocal 32 = .ok (.iload_n 3, 1) := by decide +kernel
theorem dX3_setLocal_33 : decode cX3_setLocal 33 = .ok (.iload_n 1, 1) := by decide +kernel
theorem dX3_setLocal_34 : decode cX3_setLocal 34 = .ok (.aload_n 0, 1) := by decide +kernel
theorem dX3_setLocal_35 : decode cX3_setLocal 35 = .ok (.invokevirtual 116, 3) := by decide +kernel
theorem dX3_setLocal_38 : decode cX3_setLocal 38 = .ok (.invokevirtual 157, 3) := by decide +kernel
theorem dX3_setLocal_41 : decode cX3_setLocal 41 = .ok (.aload_n 0, 1) := by decide +kernel
theorem dX3_setLocal_42 : decode cX3_setLocal 42 = .ok (.getfield 21, 3) := by decide +kernel
theorem dX3_setLocal_45 : decode cX3_setLocal 45 = .ok (.iload_n 2, 1) := by decide +kernel
theorem dX3_setLocal_46 : decode cX3_setLocal 46 = .ok (.invokevirtual 119, 3) := by decide +kernel
theorem dX3_setLocal_49 : decode cX3_setLocal 49 = .ok (.return_, 1) := by decide +kernel
theorem dX3_calculate_0 : decode cX3_calculate 0 = .ok (.aload_n 0, 1) := by decide +kernel
theorem dX3_calculate_1 : decode cX3_calculate 1 = .ok (.invokevirtual 116, 3) := by decide +kernel
theorem dX3_calculate_4 : decode cX3_calculate 4 = .ok (.istore_n 3, 1) := by decide +kernel
theorem dX3_calculate_5 : decode cX3_calculate 5 = .ok (.aload_n 0, 1) := by decide +kernel
theorem dX3_calculate_6 : decode cX3_calculate 6 = .ok (.invokevirtual 116, 3) := by decide +kernel
theorem dX3_calculate_9 : decode cX3_calculate 9 = .ok (.istore 4, 2) := by decide +kernel
theorem dX3_calculate_11 : decode cX3_calculate 11 = .ok (.aload_n 0, 1) := by decide +kernel
theorem dX3_calculate_12 : decode cX3_calculate 12 = .ok (.iload_n 1, 1) := by decide +kernel
theorem dX3_calculate_13 : decode cX3_calculate 13 = .ok (.iload 4, 2) := by decide +kernel
theorem dX3_calculate_15 : decode cX3_calculate 15 = .ok (.iload_n 3, 1) := by decide +kernel
theorem dX3_calculate_16 : decode cX3_calculate 16 = .ok (.invokestatic 159, 3) := by decide +kernel
theorem dX3_calculate_19 : decode cX3_calculate 19 = .ok (.iload_n 2, 1) := by decide +kernel
theorem dX3_calculate_20 : decode cX3_calculate 20 = .ok (.invokevirtual 107, 3) := by decide +kernel
theorem dX3_calculate_23 : decode cX3_calculate 23 = .ok (.return_, 1) := by decide +kernel
theorem dX3_valueOf_0 : decode cX3_valueOf 0 = .ok (.iload_n 0, 1) := by decide +kernel
theorem dX3_valueOf_1 : decode cX3_valueOf 1 = .ok (.tableswitch 54 4 7 #[31, 35, 39, 50], 31) := by decide +kernel
theorem dX3_valueOf_32 : decode cX3_valueOf 32 = .ok (.iload_n 1, 1) := by decide +kernel
theorem dX3_valueOf_33 : decode cX3_valueOf 33 = .ok (.iload_n 2, 1) := by decide +kernel
theorem dX3_valueOf_34 : decode cX3_valueOf 34 = .ok (.iadd, 1) := by decide +kernel
theorem dX3_valueOf_35 : decode cX3_valueOf 35 = .ok (.ireturn, 1) := by decide +kernel
theorem dX3_valueOf_36 : decode cX3_valueOf 36 = .ok (.iload_n 1, 1) := by decide +kernel
theorem dX3_valueOf_37 : decode cX3_valueOf 37 = .ok (.iload_n 2, 1) := by decide +kernel
theorem dX3_valueOf_38 : decode cX3_valueOf 38 = .ok (.isub, 1) := by decide +kernel
theorem dX3_valueOf_39 : decode cX3_valueOf 39 = .ok (.ireturn, 1) := by decide +kernel
theorem dX3_valueOf_40 : decode cX3_valueOf 40 = .ok (.iload_n 1, 1) := by decide +kernel
theorem dX3_valueOf_41 : decode cX3_valueOf 41 = .ok (.iload_n 2, 1) := by decide +kernel
theorem dX3_valueOf_42 : decode cX3_valueOf 42 = .ok (.if_icmp .ge 7, 3) := by decide +kernel
theorem dX3_valueOf_45 : decode cX3_valueOf 45 = .ok (.iconst 1, 1) := by decide +kernel
theorem dX3_valueOf_46 : decode cX3_valueOf 46 = .ok (.goto 4, 3) := by decide +kernel
theorem dX3_valueOf_49 : decode cX3_valueOf 49 = .ok (.iconst 0, 1) := by decide +kernel
theorem dX3_valueOf_50 : decode cX3_valueOf 50 = .ok (.ireturn, 1) := by decide +kernel
theorem dX3_valueOf_51 : decode cX3_valueOf 51 = .ok (.iload_n 1, 1) := by decide +kernel
theorem dX3_valueOf_52 : decode cX3_valueOf 52 = .ok (.iload_n 2, 1) := by decide +kernel
theorem dX3_valueOf_53 : decode cX3_valueOf 53 = .ok (.imul, 1) := by decide +kernel
theorem dX3_valueOf_54 : decode cX3_valueOf 54 = .ok (.ireturn, 1) := by decide +kernel
theorem dX3_valueOf_55 : decode cX3_valueOf 55 = .ok (.iconst 0, 1) := by decide +kernel
theorem dX3_valueOf_56 : decode cX3_valueOf 56 = .ok (.ireturn, 1) := by decide +kernel
theorem dX3_putOut_0 : decode cX3_putOut 0 = .ok (.aload_n 0, 1) := by decide +kernel
theorem dX3_putOut_1 : decode cX3_putOut 1 = .ok (.getfield 47, 3) := by decide +kernel
theorem dX3_putOut_4 : decode cX3_putOut 4 = .ok (.bipush 40, 2) := by decide +kernel
theorem dX3_putOut_6 : decode cX3_putOut 6 = .ok (.if_icmp .lt 9, 3) := by decide +kernel
theorem dX3_putOut_9 : decode cX3_putOut 9 = .ok (.aload_n 0, 1) := by decide +kernel
theorem dX3_putOut_10 : decode cX3_putOut 10 = .ok (.iconst 3, 1) := by decide +kernel
theorem dX3_putOut_11 : decode cX3_putOut 11 = .ok (.putfield 54, 3) := by decide +kernel
theorem dX3_putOut_14 : decode cX3_putOut 14 = .ok (.return_, 1) := by decide +kernel
theorem dX3_putOut_15 : decode cX3_putOut 15 = .ok (.aload_n 0, 1) := by decide +kernel
theorem dX3_putOut_16 : decode cX3_putOut 16 = .ok (.getfield 25, 3) := by decide +kernel
theorem dX3_putOut_19 : decode cX3_putOut 19 = .ok (.aload_n 0, 1) := by decide +kernel
theorem dX3_putOut_20 : decode cX3_putOut 20 = .ok (.getfield 47, 3) := by decide +kernel
theorem dX3_putOut_23 : decode cX3_putOut 23 = .ok (.aload_n 0, 1) := by decide +kernel
theorem dX3_putOut_24 : decode cX3_putOut 24 = .ok (.invokevirtual 116, 3) := by decide +kernel
theorem dX3_putOut_27 : decode cX3_putOut 27 = .ok (.iastore, 1) := by decide +kernel
theorem dX3_putOut_28 : decode cX3_putOut 28 = .ok (.aload_n 0, 1) := by decide +kernel
theorem dX3_putOut_29 : decode cX3_putOut 29 = .ok (.dup, 1) := by decide +kernel
theorem dX3_putOut_30 : decode cX3_putOut 30 = .ok (.getfield 47, 3) := by decide +kernel
theorem dX3_putOut_33 : decode cX3_putOut 33 = .ok (.iconst 1, 1) := by decide +kernel
theorem dX3_putOut_34 : decode cX3_putOut 34 = .ok (.iadd, 1) := by decide +kernel
theorem dX3_putOut_35 : decode cX3_putOut 35 = .ok (.putfield 47, 3) := by decide +kernel
theorem dX3_putOut_38 : decode cX3_putOut 38 = .ok (.aload_n 0, 1) := by decide +kernel
theorem dX3_putOut_39 : decode cX3_putOut 39 = .ok (.getfield 21, 3) := by decide +kernel
theorem dX3_putOut_42 : decode cX3_putOut 42 = .ok (.iload_n 1, 1) := by decide +kernel
theorem dX3_putOut_43 : decode cX3_putOut 43 = .ok (.invokevirtual 119, 3) := by decide +kernel
theorem dX3_putOut_46 : decode cX3_putOut 46 = .ok (.return_, 1) := by decide +kernel
theorem dX3_callFrom_0 : decode cX3_callFrom 0 = .ok (.aload_n 0, 1) := by decide +kernel
theorem dX3_callFrom_1 : decode cX3_callFrom 1 = .ok (.iload_n 2, 1) := by decide +kernel
theorem dX3_callFrom_2 : decode cX3_callFrom 2 = .ok (.iload_n 3, 1) := by decide +kernel
theorem dX3_callFrom_3 : decode cX3_callFrom 3 = .ok (.aload_n 0, 1) := by decide +kernel
theorem dX3_callFrom_4 : decode cX3_callFrom 4 = .ok (.invokevirtual 116, 3) := by decide +kernel
theorem dX3_callFrom_7 : decode cX3_callFrom 7 = .ok (.invokevirtual 37, 3) := by decide +kernel
theorem dX3_callFrom_10 : decode cX3_callFrom 10 = .ok (.ifCond .eq 11, 3) := by decide +kernel
theorem dX3_callFrom_13 : decode cX3_callFrom 13 = .ok (.aload_n 0, 1) := by decide +kernel
theorem dX3_callFrom_14 : decode cX3_callFrom 14 = .ok (.getfield 21, 3) := by decide +kernel
theorem dX3_callFrom_17 : decode cX3_callFrom 17 = .ok (.iload_n 1, 1) := by decide +kernel
theorem dX3_callFrom_18 : decode cX3_callFrom 18 = .ok (.invokevirtual 163, 3) := by decide +kernel
theorem dX3_callFrom_21 : decode cX3_callFrom 21 = .ok (.return_, 1) := by decide +kernel
theorem dX3_enter_0 : decode cX3_enter 0 = .ok (.aload_n 0, 1) := by decide +kernel
theorem dX3_enter_1 : decode cX3_enter 1 = .ok (.getfield 29, 3) := by decide +kernel
theorem dX3_enter_4 : decode cX3_enter 4 = .ok (.iload_n 1, 1) := by decide +kernel
theorem dX3_enter_5 : decode cX3_enter 5 = .ok (.iload_n 2, 1) := by decide +kernel
theorem dX3_enter_6 : decode cX3_enter 6 = .ok (.invokevirtual 166, 3) := by decide +kernel
theorem dX3_enter_9 : decode cX3_enter 9 = .ok (.istore 4, 2) := by decide +kernel
theorem dX3_enter_11 : decode cX3_enter 11 = .ok (.iload 4, 2) := by decide +kernel
theorem dX3_enter_13 : decode cX3_enter 13 = .ok (.iconst (-1), 1) := by decide +kernel
theorem dX3_enter_14 : decode cX3_enter 14 = .ok (.if_icmp .ne 10, 3) := by decide +kernel
theorem dX3_enter_17 : decode cX3_enter 17 = .ok (.aload_n 0, 1) := by decide +kernel
theorem dX3_enter_18 : decode cX3_enter 18 = .ok (.iconst 3, 1) := by decide +kernel
theorem dX3_enter_19 : decode cX3_enter 19 = .ok (.putfield 54, 3) := by decide +kernel
theorem dX3_enter_22 : decode cX3_enter 22 = .ok (.iconst 0, 1) := by decide +kernel
theorem dX3_enter_23 : decode cX3_enter 23 = .ok (.ireturn, 1) := by decide +kernel
theorem dX3_enter_24 : decode cX3_enter 24 = .ok (.aload_n 0, 1) := by decide +kernel
theorem dX3_enter_25 : decode cX3_enter 25 = .ok (.getfield 12, 3) := by decide +kernel
theorem dX3_enter_28 : decode cX3_enter 28 = .ok (.iload_n 1, 1) := by decide +kernel
theorem dX3_enter_29 : decode cX3_enter 29 = .ok (.aload_n 0, 1) := by decide +kernel
theorem dX3_enter_30 : decode cX3_enter 30 = .ok (.getfield 29, 3) := by decide +kernel
theorem dX3_enter_33 : decode cX3_enter 33 = .ok (.iload_n 1, 1) := by decide +kernel
theorem dX3_enter_34 : decode cX3_enter 34 = .ok (.invokevirtual 135, 3) := by decide +kernel
theorem dX3_enter_37 : decode cX3_enter 37 = .ok (.invokevirtual 169, 3) := by decide +kernel
theorem dX3_enter_40 : decode cX3_enter 40 = .ok (.ifCond .eq 23, 3) := by decide +kernel
theorem dX3_enter_43 : decode cX3_enter 43 = .ok (.aload_n 0, 1) := by decide +kernel
theorem dX3_enter_44 : decode cX3_enter 44 = .ok (.getfield 12, 3) := by decide +kernel
theorem dX3_enter_47 : decode cX3_enter 47 = .ok (.iload_n 1, 1) := by decide +kernel
theorem dX3_enter_48 : decode cX3_enter 48 = .ok (.iload 4, 2) := by decide +kernel
theorem dX3_enter_50 : decode cX3_enter 50 = .ok (.invokestatic 172, 3) := by decide +kernel
theorem dX3_enter_53 : decode cX3_enter 53 = .ok (.invokevirtual 175, 3) := by decide +kernel
theorem dX3_enter_56 : decode cX3_enter 56 = .ok (.ifCond .eq 7, 3) := by decide +kernel
theorem dX3_enter_59 : decode cX3_enter 59 = .ok (.iconst 1, 1) := by decide +kernel
theorem dX3_enter_60 : decode cX3_enter 60 = .ok (.goto 4, 3) := by decide +kernel
theorem dX3_enter_63 : decode cX3_enter 63 = .ok (.iconst 0, 1) := by decide +kernel
theorem dX3_enter_64 : decode cX3_enter 64 = .ok (.istore 5, 2) := by decide +kernel
theorem dX3_enter_66 : decode cX3_enter 66 = .ok (.iload 5, 2) := by decide +kernel
theorem dX3_enter_68 : decode cX3_enter 68 = .ok (.ifCond .ne 10, 3) := by decide +kernel
theorem dX3_enter_71 : decode cX3_enter 71 = .ok (.aload_n 0, 1) := by decide +kernel
theorem dX3_enter_72 : decode cX3_enter 72 = .ok (.iconst 4, 1) := by decide +kernel
theorem dX3_enter_73 : decode cX3_enter 73 = .ok (.putfield 54, 3) := by decide +kernel
theorem dX3_enter_76 : decode cX3_enter 76 = .ok (.iconst 0, 1) := by decide +kernel
theorem dX3_enter_77 : decode cX3_enter 77 = .ok (.ireturn, 1) := by decide +kernel
theorem dX3_enter_78 : decode cX3_enter 78 = .ok (.aload_n 0, 1) := by decide +kernel
theorem dX3_enter_79 : decode cX3_enter 79 = .ok (.getfield 21, 3) := by decide +kernel
theorem dX3_enter_82 : decode cX3_enter 82 = .ok (.iload_n 1, 1) := by decide +kernel
theorem dX3_enter_83 : decode cX3_enter 83 = .ok (.aload_n 0, 1) := by decide +kernel
theorem dX3_enter_84 : decode cX3_enter 84 = .ok (.getfield 29, 3) := by decide +kernel
theorem dX3_enter_87 : decode cX3_enter 87 = .ok (.iload_n 1, 1) := by decide +kernel
theorem dX3_enter_88 : decode cX3_enter 88 = .ok (.iload_n 2, 1) := by decide +kernel
theorem dX3_enter_89 : decode cX3_enter 89 = .ok (.invokevirtual 178, 3) := by decide +kernel
theorem dX3_enter_92 : decode cX3_enter 92 = .ok (.iconst 1, 1) := by decide +kernel
theorem dX3_enter_93 : decode cX3_enter 93 = .ok (.iadd, 1) := by decide +kernel
theorem dX3_enter_94 : decode cX3_enter 94 = .ok (.iload 4, 2) := by decide +kernel
theorem dX3_enter_96 : decode cX3_enter 96 = .ok (.iload_n 3, 1) := by decide +kernel
theorem dX3_enter_97 : decode cX3_enter 97 = .ok (.invokevirtual 181, 3) := by decide +kernel
theorem dX3_enter_100 : decode cX3_enter 100 = .ok (.iconst 1, 1) := by decide +kernel
theorem dX3_enter_101 : decode cX3_enter 101 = .ok (.ireturn, 1) := by decide +kernel
theorem dX3_giveBack_0 : decode cX3_giveBack 0 = .ok (.aload_n 0, 1) := by decide +kernel
theorem dX3_giveBack_1 : decode cX3_giveBack 1 = .ok (.invokevirtual 116, 3) := by decide +kernel
theorem dX3_giveBack_4 : decode cX3_giveBack 4 = .ok (.istore_n 1, 1) := by decide +kernel
theorem dX3_giveBack_5 : decode cX3_giveBack 5 = .ok (.aload_n 0, 1) := by decide +kernel
theorem dX3_giveBack_6 : decode cX3_giveBack 6 = .ok (.getfield 21, 3) := by decide +kernel
theorem dX3_giveBack_9 : decode cX3_giveBack 9 = .ok (.invokevirtual 81, 3) := by decide +kernel
theorem dX3_giveBack_12 : decode cX3_giveBack 12 = .ok (.iconst 1, 1) := by decide +kernel
theorem dX3_giveBack_13 : decode cX3_giveBack 13 = .ok (.if_icmp .ne 14, 3) := by decide +kernel
theorem dX3_giveBack_16 : decode cX3_giveBack 16 = .ok (.aload_n 0, 1) := by decide +kernel
theorem dX3_giveBack_17 : decode cX3_giveBack 17 = .ok (.iload_n 1, 1) := by decide +kernel
theorem dX3_giveBack_18 : decode cX3_giveBack 18 = .ok (.putfield 51, 3) := by decide +kernel
theorem dX3_giveBack_21 : decode cX3_giveBack 21 = .ok (.aload_n 0, 1) := by decide +kernel
theorem dX3_giveBack_22 : decode cX3_giveBack 22 = .ok (.iconst 2, 1) := by decide +kernel
theorem dX3_giveBack_23 : decode cX3_giveBack 23 = .ok (.putfield 54, 3) := by decide +kernel
theorem dX3_giveBack_26 : decode cX3_giveBack 26 = .ok (.return_, 1) := by decide +kernel
theorem dX3_giveBack_27 : decode cX3_giveBack 27 = .ok (.aload_n 0, 1) := by decide +kernel
theorem dX3_giveBack_28 : decode cX3_giveBack 28 = .ok (.getfield 21, 3) := by decide +kernel
theorem dX3_giveBack_31 : decode cX3_giveBack 31 = .ok (.invokevirtual 185, 3) := by decide +kernel
theorem dX3_giveBack_34 : decode cX3_giveBack 34 = .ok (.invokestatic 172, 3) := by decide +kernel
theorem dX3_giveBack_37 : decode cX3_giveBack 37 = .ok (.iconst 4, 1) := by decide +kernel
