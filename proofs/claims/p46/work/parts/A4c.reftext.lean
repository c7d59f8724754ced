theorem dX12_text_0 : decode cX12_text 0 = .ok (.iload_n 1, 1) := by decide +kernel
theorem dX12_text_1 : decode cX12_text 1 = .ok (.i2l, 1) := by decide +kernel
theorem dX12_text_2 : decode cX12_text 2 = .ok (.lconst 0, 1) := by decide +kernel
theorem dX12_text_3 : decode cX12_text 3 = .ok (.ldc2_w 322, 3) := by decide +kernel
theorem dX12_text_6 : decode cX12_text 6 = .ok (.invokestatic 112, 3) := by decide +kernel
theorem dX12_text_9 : decode cX12_text 9 = .ok (.ifCond .eq 16, 3) := by decide +kernel
theorem dX12_text_12 : decode cX12_text 12 = .ok (.aload_n 0, 1) := by decide +kernel
theorem dX12_text_13 : decode cX12_text 13 = .ok (.getfield 17, 3) := by decide +kernel
theorem dX12_text_16 : decode cX12_text 16 = .ok (.iload_n 1, 1) := by decide +kernel
theorem dX12_text_17 : decode cX12_text 17 = .ok (.iaload, 1) := by decide +kernel
theorem dX12_text_18 : decode cX12_text 18 = .ok (.iload_n 1, 1) := by decide +kernel
theorem dX12_text_19 : decode cX12_text 19 = .ok (.invokestatic 324, 3) := by decide +kernel
theorem dX12_text_22 : decode cX12_text 22 = .ok (.if_icmp .ne 5, 3) := by decide +kernel
theorem dX12_text_25 : decode cX12_text 25 = .ok (.iconst (-1), 1) := by decide +kernel
theorem dX12_text_26 : decode cX12_text 26 = .ok (.ireturn, 1) := by decide +kernel
theorem dX12_text_27 : decode cX12_text 27 = .ok (.aload_n 0, 1) := by decide +kernel
theorem dX12_text_28 : decode cX12_text 28 = .ok (.iload_n 1, 1) := by decide +kernel
theorem dX12_text_29 : decode cX12_text 29 = .ok (.invokestatic 327, 3) := by decide +kernel
theorem dX12_text_32 : decode cX12_text 32 = .ok (.aload_n 0, 1) := by decide +kernel
theorem dX12_text_33 : decode cX12_text 33 = .ok (.getfield 17, 3) := by decide +kernel
theorem dX12_text_36 : decode cX12_text 36 = .ok (.iload_n 1, 1) := by decide +kernel
theorem dX12_text_37 : decode cX12_text 37 = .ok (.iaload, 1) := by decide +kernel
theorem dX12_text_38 : decode cX12_text 38 = .ok (.iadd, 1) := by decide +kernel
theorem dX12_text_39 : decode cX12_text 39 = .ok (.putfield 191, 3) := by decide +kernel
theorem dX12_text_42 : decode cX12_text 42 = .ok (.aload_n 0, 1) := by decide +kernel
theorem dX12_text_43 : decode cX12_text 43 = .ok (.getfield 23, 3) := by decide +kernel
theorem dX12_text_46 : decode cX12_text 46 = .ok (.aload_n 0, 1) := by decide +kernel
theorem dX12_text_47 : decode cX12_text 47 = .ok (.getfield 191, 3) := by decide +kernel
theorem dX12_text_50 : decode cX12_text 50 = .ok (.iconst 0, 1) := by decide +kernel
theorem dX12_text_51 : decode cX12_text 51 = .ok (.iastore, 1) := by decide +kernel
theorem dX12_text_52 : decode cX12_text 52 = .ok (.aload_n 0, 1) := by decide +kernel
theorem dX12_text_53 : decode cX12_text 53 = .ok (.getfield 29, 3) := by decide +kernel
theorem dX12_text_56 : decode cX12_text 56 = .ok (.aload_n 0, 1) := by decide +kernel
theorem dX12_text_57 : decode cX12_text 57 = .ok (.getfield 191, 3) := by decide +kernel
theorem dX12_text_60 : decode cX12_text 60 = .ok (.iconst 0, 1) := by decide +kernel
theorem dX12_text_61 : decode cX12_text 61 = .ok (.iastore, 1) := by decide +kernel
theorem dX12_text_62 : decode cX12_text 62 = .ok (.iload_n 1, 1) := by decide +kernel
theorem dX12_text_63 : decode cX12_text 63 = .ok (.ifCond .ne 13, 3) := by decide +kernel
theorem dX12_text_66 : decode cX12_text 66 = .ok (.aload_n 0, 1) := by decide +kernel
theorem dX12_text_67 : decode cX12_text 67 = .ok (.getfield 35, 3) := by decide +kernel
theorem dX12_text_70 : decode cX12_text 70 = .ok (.aload_n 0, 1) := by decide +kernel
theorem dX12_text_71 : decode cX12_text 71 = .ok (.getfield 191, 3) := by decide +kernel
theorem dX12_text_74 : decode cX12_text 74 = .ok (.iconst 0, 1) := by decide +kernel
theorem dX12_text_75 : decode cX12_text 75 = .ok (.iastore, 1) := by decide +kernel
theorem dX12_text_76 : decode cX12_text 76 = .ok (.aload_n 0, 1) := by decide +kernel
theorem dX12_text_77 : decode cX12_text 77 = .ok (.getfield 38, 3) := by decide +kernel
theorem dX12_text_80 : decode cX12_text 80 = .ok (.aload_n 0, 1) := by decide +kernel
theorem dX12_text_81 : decode cX12_text 81 = .ok (.getfield 191, 3) := by decide +kernel
theorem dX12_text_84 : decode cX12_text 84 = .ok (.iconst (-1), 1) := by decide +kernel
theorem dX12_text_85 : decode cX12_text 85 = .ok (.iastore, 1) := by decide +kernel
theorem dX12_text_86 : decode cX12_text 86 = .ok (.aload_n 0, 1) := by decide +kernel
theorem dX12_text_87 : decode cX12_text 87 = .ok (.getfield 44, 3) := by decide +kernel
theorem dX12_text_90 : decode cX12_text 90 = .ok (.aload_n 0, 1) := by decide +kernel
theorem dX12_text_91 : decode cX12_text 91 = .ok (.getfield 191, 3) := by decide +kernel
theorem dX12_text_94 : decode cX12_text 94 = .ok (.iconst (-1), 1) := by decide +kernel
theorem dX12_text_95 : decode cX12_text 95 = .ok (.iastore, 1) := by decide +kernel
theorem dX12_text_96 : decode cX12_text 96 = .ok (.aload_n 0, 1) := by decide +kernel
theorem dX12_text_97 : decode cX12_text 97 = .ok (.getfield 47, 3) := by decide +kernel
theorem dX12_text_100 : decode cX12_text 100 = .ok (.aload_n 0, 1) := by decide +kernel
theorem dX12_text_101 : decode cX12_text 101 = .ok (.getfield 191, 3) := by decide +kernel
theorem dX12_text_104 : decode cX12_text 104 = .ok (.iconst (-1), 1) := by decide +kernel
theorem dX12_text_105 : decode cX12_text 105 = .ok (.iastore, 1) := by decide +kernel
theorem dX12_text_106 : decode cX12_text 106 = .ok (.aload_n 0, 1) := by decide +kernel
theorem dX12_text_107 : decode cX12_text 107 = .ok (.getfield 50, 3) := by decide +kernel
theorem dX12_text_110 : decode cX12_text 110 = .ok (.aload_n 0, 1) := by decide +kernel
theorem dX12_text_111 : decode cX12_text 111 = .ok (.getfield 191, 3) := by decide +kernel
theorem dX12_text_114 : decode cX12_text 114 = .ok (.iconst (-1), 1) := by decide +kernel
theorem dX12_text_115 : decode cX12_text 115 = .ok (.iastore, 1) := by decide +kernel
theorem dX12_text_116 : decode cX12_text 116 = .ok (.aload_n 0, 1) := by decide +kernel
theorem dX12_text_117 : decode cX12_text 117 = .ok (.getfield 56, 3) := by decide +kernel
theorem dX12_text_120 : decode cX12_text 120 = .ok (.aload_n 0, 1) := by decide +kernel
theorem dX12_text_121 : decode cX12_text 121 = .ok (.getfield 191, 3) := by decide +kernel
theorem dX12_text_124 : decode cX12_text 124 = .ok (.iconst (-1), 1) := by decide +kernel
theorem dX12_text_125 : decode cX12_text 125 = .ok (.iastore, 1) := by decide +kernel
theorem dX12_text_126 : decode cX12_text 126 = .ok (.aload_n 0, 1) := by decide +kernel
theorem dX12_text_127 : decode cX12_text 127 = .ok (.iconst 0, 1) := by decide +kernel
theorem dX12_text_128 : decode cX12_text 128 = .ok (.putfield 306, 3) := by decide +kernel
theorem dX12_text_131 : decode cX12_text 131 = .ok (.aload_n 0, 1) := by decide +kernel
theorem dX12_text_132 : decode cX12_text 132 = .ok (.iconst 0, 1) := by decide +kernel
theorem dX12_text_133 : decode cX12_text 133 = .ok (.putfield 164, 3) := by decide +kernel
theorem dX12_text_136 : decode cX12_text 136 = .ok (.aload_n 0, 1) := by decide +kernel
theorem dX12_text_137 : decode cX12_text 137 = .ok (.iconst 0, 1) := by decide +kernel
theorem dX12_text_138 : decode cX12_text 138 = .ok (.putfield 161, 3) := by decide +kernel
theorem dX12_text_141 : decode cX12_text 141 = .ok (.aload_n 0, 1) := by decide +kernel
theorem dX12_text_142 : decode cX12_text 142 = .ok (.iconst 0, 1) := by decide +kernel
theorem dX12_text_143 : decode cX12_text 143 = .ok (.putfield 216, 3) := by decide +kernel
theorem dX12_text_146 : decode cX12_text 146 = .ok (.aload_n 0, 1) := by decide +kernel
theorem dX12_text_147 : decode cX12_text 147 = .ok (.invokevirtual 330, 3) := by decide +kernel
theorem dX12_text_150 : decode cX12_text 150 = .ok (.istore_n 2, 1) := by decide +kernel
theorem dX12_text_151 : decode cX12_text 151 = .ok (.iload_n 2, 1) := by decide +kernel
theorem dX12_text_152 : decode cX12_text 152 = .ok (.ifCond .eq 30, 3) := by decide +kernel
theorem dX12_text_155 : decode cX12_text 155 = .ok (.aload_n 0, 1) := by decide +kernel
theorem dX12_text_156 : decode cX12_text 156 = .ok (.invokevirtual 167, 3) := by decide +kernel
theorem dX12_text_159 : decode cX12_text 159 = .ok (.bipush 59, 2) := by decide +kernel
theorem dX12_text_161 : decode cX12_text 161 = .ok (.if_icmp .ne 21, 3) := by decide +kernel
theorem dX12_text_164 : decode cX12_text 164 = .ok (.aload_n 0, 1) := by decide +kernel
theorem dX12_text_165 : decode cX12_text 165 = .ok (.dup, 1) := by decide +kernel
theorem dX12_text_166 : decode cX12_text 166 = .ok (.getfield 164, 3) := by decide +kernel
theorem dX12_text_169 : decode cX12_text 169 = .ok (.iconst 1, 1) := by decide +kernel
theorem dX12_text_170 : decode cX12_text 170 = .ok (.iadd, 1) := by decide +kernel
theorem dX12_text_171 : decode cX12_text 171 = .ok (.putfield 164, 3) := by decide +kernel
theorem dX12_text_174 : decode cX12_text 174 = .ok (.aload_n 0, 1) := by decide +kernel
theorem dX12_text_175 : decode cX12_text 175 = .ok (.invokevirtual 330, 3) := by decide +kernel
theorem dX12_text_178 : decode cX12_text 178 = .ok (.istore_n 2, 1) := by decide +kernel
theorem dX12_text_179 : decode cX12_text 179 = .ok (.goto (-28), 3) := by decide +kernel
theorem dX12_text_182 : decode cX12_text 182 = .ok (.iload_n 2, 1) := by decide +kernel
theorem dX12_text_183 : decode cX12_text 183 = .ok (.ifCond .eq 21, 3) := by decide +kernel
theorem dX12_text_186 : decode cX12_text 186 = .ok (.aload_n 0, 1) := by decide +kernel
theorem dX12_text_187 : decode cX12_text 187 = .ok (.invokevirtual 167, 3) := by decide +kernel
theorem dX12_text_190 : decode cX12_text 190 = .ok (.iconst (-1), 1) := by decide +kernel
theorem dX12_text_191 : decode cX12_text 191 = .ok (.if_icmp .eq 13, 3) := by decide +kernel
theorem dX12_text_194 : decode cX12_text 194 = .ok (.aload_n 0, 1) := by decide +kernel
theorem dX12_text_195 : decode cX12_text 195 = .ok (.iconst 0, 1) := by decide +kernel
theorem dX12_text_196 : decode cX12_text 196 = .ok (.aload_n 0, 1) := by decide +kernel
theorem dX12_text_197 : decode cX12_text 197 = .ok (.getfield 164, 3) := by decide +kernel
theorem dX12_text_200 : decode cX12_text 200 = .ok (.invokevirtual 184, 3) := by decide +kernel
theorem dX12_text_203 : decode cX12_text 203 = .ok (.pop, 1) := by decide +kernel
theorem dX12_text_204 : decode cX12_text 204 = .ok (.aload_n 0, 1) := by decide +kernel
theorem dX12_text_205 : decode cX12_text 205 = .ok (.iconst 0, 1) := by decide +kernel
theorem dX12_text_206 : decode cX12_text 206 = .ok (.putfield 153, 3) := by decide +kernel
theorem dX12_text_209 : decode cX12_text 209 = .ok (.aload_n 0, 1) := by decide +kernel
theorem dX12_text_210 : decode cX12_text 210 = .ok (.getfield 161, 3) := by decide +kernel
theorem dX12_text_213 : decode cX12_text 213 = .ok (.ifCond .le 11, 3) := by decide +kernel
theorem dX12_text_216 : decode cX12_text 216 = .ok (.bipush (-2), 2) := by decide +kernel
theorem dX12_text_218 : decode cX12_text 218 = .ok (.aload_n 0, 1) := by decide +kernel
theorem dX12_text_219 : decode cX12_text 219 = .ok (.getfield 161, 3) := by decide +kernel
theorem dX12_text_222 : decode cX12_text 222 = .ok (.isub, 1) := by decide +kernel
theorem dX12_text_223 : decode cX12_text 223 = .ok (.ireturn, 1) := by decide +kernel
theorem dX12_text_224 : decode cX12_text 224 = .ok (.aload_n 0, 1) := by decide +kernel
theorem dX12_text_225 : decode cX12_text 225 = .ok (.getfield 44, 3) := by decide +kernel
theorem dX12_text_228 : decode cX12_text 228 = .ok (.aload_n 0, 1) := by decide +kernel
theorem dX12_text_229 : decode cX12_text 229 = .ok (.getfield 191, 3) := by decide +kernel
theorem dX12_text_232 : decode cX12_text 232 = .ok (.iaload, 1) := by decide +kernel
theorem dX12_text_233 : decode cX12_text 233 = .ok (.ifCond .ge 13, 3) := by decide +kernel
theorem dX12_text_236 : decode cX12_text 236 = .ok (.aload_n 0, 1) := by decide +kernel
theorem dX12_text_237 : decode cX12_text 237 = .ok (.getfield 44, 3) := by decide +kernel
theorem dX12_text_240 : decode cX12_text 240 = .ok (.aload_n 0, 1) := by decide +kernel
theorem dX12_text_241 : decode cX12_text 241 = .ok (.getfield 191, 3) := by decide +kernel
theorem dX12_text_244 : decode cX12_text 244 = .ok (.iconst 0, 1) := by decide +kernel
theorem dX12_text_245 : decode cX12_text 245 = .ok (.iastore, 1) := by decide +kernel
theorem dX12_text_246 : decode cX12_text 246 = .ok (.aload_n 0, 1) := by decide +kernel
theorem dX12_text_247 : decode cX12_text 247 = .ok (.getfield 47, 3) := by decide +kernel
theorem dX12_text_250 : decode cX12_text 250 = .ok (.aload_n 0, 1) := by decide +kernel
theorem dX12_text_251 : decode cX12_text 251 = .ok (.getfield 191, 3) := by decide +kernel
theorem dX12_text_254 : decode cX12_text 254 = .ok (.iaload, 1) := by decide +kernel
theorem dX12_text_255 : decode cX12_text 255 = .ok (.ifCond .ge 14, 3) := by decide +kernel
theorem dX12_text_258 : decode cX12_text 258 = .ok (.aload_n 0, 1) := by decide +kernel
theorem dX12_text_259 : decode cX12_text 259 = .ok (.getfield 47, 3) := by decide +kernel
theorem dX12_text_262 : decode cX12_text 262 = .ok (.aload_n 0, 1) := by decide +kernel
theorem dX12_text_263 : decode cX12_text 263 = .ok (.getfield 191, 3) := by decide +kernel
theorem dX12_text_266 : decode cX12_text 266 = .ok (.bipush 12, 2) := by decide +kernel
theorem dX12_text_268 : decode cX12_text 268 = .ok (.iastore, 1) := by decide +kernel
theorem dX12_text_269 : decode cX12_text 269 = .ok (.aload_n 0, 1) := by decide +kernel
theorem dX12_text_270 : decode cX12_text 270 = .ok (.getfield 50, 3) := by decide +kernel
theorem dX12_text_273 : decode cX12_text 273 = .ok (.aload_n 0, 1) := by decide +kernel
theorem dX12_text_274 : decode cX12_text 274 = .ok (.getfield 191, 3) := by decide +kernel
theorem dX12_text_277 : decode cX12_text 277 = .ok (.iaload, 1) := by decide +kernel
theorem dX12_text_278 : decode cX12_text 278 = .ok (.ifCond .ge 27, 3) := by decide +kernel
theorem dX12_text_281 : decode cX12_text 281 = .ok (.aload_n 0, 1) := by decide +kernel
theorem dX12_text_282 : decode cX12_text 282 = .ok (.getfield 50, 3) := by decide +kernel
theorem dX12_text_285 : decode cX12_text 285 = .ok (.aload_n 0, 1) := by decide +kernel
theorem dX12_text_286 : decode cX12_text 286 = .ok (.getfield 191, 3) := by decide +kernel
theorem dX12_text_289 : decode cX12_text 289 = .ok (.sipush 140, 3) := by decide +kernel
theorem dX12_text_292 : decode cX12_text 292 = .ok (.iastore, 1) := by decide +kernel
theorem dX12_text_293 : decode cX12_text 293 = .ok (.aload_n 0, 1) := by decide +kernel
theorem dX12_text_294 : decode cX12_text 294 = .ok (.getfield 53, 3) := by decide +kernel
theorem dX12_text_297 : decode cX12_text 297 = .ok (.aload_n 0, 1) := by decide +kernel
theorem dX12_text_298 : decode cX12_text 298 = .ok (.getfield 191, 3) := by decide +kernel
theorem dX12_text_301 : decode cX12_text 301 = .ok (.sipush 159, 3) := by decide +kernel
theorem dX12_text_304 : decode cX12_text 304 = .ok (.iastore, 1) := by decide +kernel
theorem dX12_text_305 : decode cX12_text 305 = .ok (.aload_n 0, 1) := by decide +kernel
theorem dX12_text_306 : decode cX12_text 306 = .ok (.getfield 56, 3) := by decide +kernel
theorem dX12_text_309 : decode cX12_text 309 = .ok (.aload_n 0, 1) := by decide +kernel
theorem dX12_text_310 : decode cX12_text 310 = .ok (.getfield 191, 3) := by decide +kernel
theorem dX12_text_313 : decode cX12_text 313 = .ok (.iaload, 1) := by decide +kernel
theorem dX12_text_314 : decode cX12_text 314 = .ok (.ifCond .ge 13, 3) := by decide +kernel
theorem dX12_text_317 : decode cX12_text 317 = .ok (.aload_n 0, 1) := by decide +kernel
theorem dX12_text_318 : decode cX12_text 318 = .ok (.getfield 56, 3) := by decide +kernel
theorem dX12_text_321 : decode cX12_text 321 = .ok (.aload_n 0, 1) := by decide +kernel
theorem dX12_text_322 : decode cX12_text 322 = .ok (.getfield 191, 3) := by decide +kernel
theorem dX12_text_325 : decode cX12_text 325 = .ok (.iconst 3, 1) := by decide +kernel
theorem dX12_text_326 : decode cX12_text 326 = .ok (.iastore, 1) := by decide +kernel
theorem dX12_text_327 : decode cX12_text 327 = .ok (.aload_n 0, 1) := by decide +kernel
theorem dX12_text_328 : decode cX12_text 328 = .ok (.getfield 17, 3) := by decide +kernel
theorem dX12_text_331 : decode cX12_text 331 = .ok (.iload_n 1, 1) := by decide +kernel
theorem dX12_text_332 : decode cX12_text 332 = .ok (.dup2, 1) := by decide +kernel
theorem dX12_text_333 : decode cX12_text 333 = .ok (.iaload, 1) := by decide +kernel
theorem dX12_text_334 : decode cX12_text 334 = .ok (.iconst 1, 1) := by decide +kernel
theorem dX12_text_335 : decode cX12_text 335 = .ok (.iadd, 1) := by decide +kernel
theorem dX12_text_336 : decode cX12_text 336 = .ok (.iastore, 1) := by decide +kernel
theorem dX12_text_337 : decode cX12_text 337 = .ok (.aload_n 0, 1) := by decide +kernel
theorem dX12_text_338 : decode cX12_text 338 = .ok (.getfield 17, 3) := by decide +kernel
theorem dX12_text_341 : decode cX12_text 341 = .ok (.iload_n 1, 1) := by decide +kernel
theorem dX12_text_342 : decode cX12_text 342 = .ok (.iaload, 1) := by decide +kernel
theorem dX12_text_343 : decode cX12_text 343 = .ok (.iconst 1, 1) := by decide +kernel
theorem dX12_text_344 : decode cX12_text 344 = .ok (.isub, 1) := by decide +kernel
theorem dX12_text_345 : decode cX12_text 345 = .ok (.ireturn, 1) := by decide +kernel
theorem wk_542 : Cond.methodLink RX12 324 yX12_mostOf ∈ tl_L := List.mem_filter.mpr ⟨lw_m7 (i := 54) rfl, rfl⟩
theorem wk_543 : Cond.static yX12_mostOf ∈ tl_L := List.mem_filter.mpr ⟨lw_m7 (i := 55) rfl, rfl⟩
theorem wk_544 : Cond.code yX12_mostOf cX12_mostOf 1 (some .int) ∈ tl_L := List.mem_filter.mpr ⟨lw_m7 (i := 56) rfl, rfl⟩
theorem wk_545 : Cond.methodLink RX12 327 yX12_firstOf ∈ tl_L := List.mem_filter.mpr ⟨lw_m7 (i := 57) rfl, rfl⟩
theorem wk_546 : Cond.static yX12_firstOf ∈ tl_L := List.mem_filter.mpr ⟨lw_m7 (i := 58) rfl, rfl⟩
theorem wk_547 : Cond.code yX12_firstOf cX12_firstOf 1 (some .int) ∈ tl_L := List.mem_filter.mpr ⟨lw_m7 (i := 59) rfl, rfl⟩
theorem wk_548 : Cond.methodLink RX12 330 yX12_clauseHere ∈ tl_L := List.mem_filter.mpr ⟨lw_m7 (i := 60) rfl, rfl⟩
theorem wk_549 : Cond.instanceMethod yX12_clauseHere ∈ tl_L := List.mem_filter.mpr ⟨lw_m7 (i := 62) rfl, rfl⟩
theorem wk_550 : Cond.selects RX12 yX12_clauseHere yX12_clauseHere ∈ tl_L := List.mem_filter.mpr ⟨lw_s7 (i := 14) (q := (yX12_clauseHere, 49)) rfl, rfl⟩
theorem wk_551 : Cond.code yX12_clauseHere cX12_clauseHere 4 (some .boolean) ∈ tl_L := List.mem_filter.mpr ⟨lw_m7 (i := 63) rfl, rfl⟩
theorem lk_X12_324 : tl_kS RX12 324 yX12_mostOf cX12_mostOf 1 (some .int) 1 := ⟨wk_544, wk_542, wk_543, wk_5, ⟨by decide +kernel, by decide +kernel, by decide +kernel⟩⟩
theorem lk_X12_327 : tl_kS RX12 327 yX12_firstOf cX12_firstOf 1 (some .int) 1 := ⟨wk_547, wk_545, wk_546, wk_5, ⟨by decide +kernel, by decide +kernel, by decide +kernel⟩⟩
theorem lk_X12_330 : tl_kV RX12 330 RX12 yX12_clauseHere cX12_clauseHere 4 (some .boolean) 0 := ⟨wk_551, wk_548, wk_549, wk_550, wk_5, ⟨by decide +kernel, by decide +kernel, by decide +kernel⟩⟩
/-! ===== texts that stand, over a reading ===== -/
theorem rg_tx {G G2 : tk_G} {k n w j : Nat} {t v : Int} (e : G2 = tg G (k, n, w) j v) (hk : k ∉ [43, 45, 46, 47, 48, 49, 50, 51]) : rg G G2 t := by
  subst e
  have g : ∀ k2 : Nat, k2 ∈ [43, 45, 46, 47, 48, 49, 50, 51] → k2 ≠ k := fun k2 h q => hk (q ▸ h)
  exact ⟨fun i _ => tg_r (g _ (by decide)), fun i _ => tg_r (g _ (by decide)), fun j _ => ⟨tg_r (g _ (by decide)), tg_r (g _ (by decide)), tg_r (g _ (by decide)), tg_r (g _ (by decide)), tg_r (g _ (by decide)), tg_r (g _ (by decide))⟩⟩
theorem rb_tx {G G2 : tk_G} {k n w j : Nat} {t v : Int} (h : rb G t) (e : G2 = tg G (k, n, w) j v) (hk : k ∉ [43, 45, 46, 47, 48, 49, 50, 51]) : rb G2 t := by
  subst e
  have g : ∀ k2 : Nat, k2 ∈ [43, 45, 46, 47, 48, 49, 50, 51] → k2 ≠ k := fun k2 h q => hk (q ▸ h)
  unfold rb
  rw [tg_rf (g 43 (by decide)), tg_rf (g 45 (by decide)), tg_rf (g 46 (by decide)), tg_rf (g 47 (by decide)), tg_rf (g 48 (by decide)), tg_rf (g 49 (by decide)), tg_rf (g 50 (by decide)), tg_rf (g 51 (by decide))]
  exact h
def tx_p (tx : Nat → Int) (p t : Int) : Prop := (p = 0 ∧ tx p.toNat = tx 0 ∧ t = tx 0 ∧ tx 0 < 6) ∨ (p = 1 ∧ tx p.toNat = tx 1 ∧ t = 6 + tx 1 ∧ tx 1 < 8) ∨ (p = 2 ∧ tx p.toNat = tx 2 ∧ t = 14 + tx 2 ∧ tx 2 < 8)
/-- a text that stands is as it was -/
theorem tx_old {Γ G : tk_G} {t u : Int} (h : tx_t (Γ (43, 8800, 0)) (Γ (45, 1056, 0)) (Γ (46, 22, 0)) (Γ (47, 6, 0)) (Γ (48, 22, 0)) (Γ (49, 22, 0)) (Γ (50, 22, 0)) (Γ (51, 22, 0)) u) (hg : rg Γ G t) (hu : 0 ≤ u) (hne : ¬ u = t) : tx_t (G (43, 8800, 0)) (G (45, 1056, 0)) (G (46, 22, 0)) (G (47, 6, 0)) (G (48, 22, 0)) (G (49, 22, 0)) (G (50, 22, 0)) (G (51, 22, 0)) u := by
  obtain ⟨a1, a2, a3, a4, a5, a6, a7⟩ := h
  obtain ⟨g1, g2, g3⟩ := hg
  obtain ⟨e1, e2, e3, e4, e5, e6⟩ := g3 u.toNat (by omega)
  have em : ∀ (c : Nat) (k : Int), (c : Int) < Γ (46, 22, 0) u.toNat → 0 ≤ k → k ≤ 3 → G (45, 1056, 0) (48 * u + 4 * (c : Int) + k).toNat = Γ (45, 1056, 0) (48 * u + 4 * (c : Int) + k).toNat := fun c k hc h1 h2 => g2 _ (by omega)
  have er : ∀ x y : Int, (0 ≤ x ∧ x ≤ y ∧ y ≤ 400 ∧ rp (Γ (43, 8800, 0)) (400 * u + x).toNat (y - x).toNat 1) → (0 ≤ x ∧ x ≤ y ∧ y ≤ 400 ∧ rp (G (43, 8800, 0)) (400 * u + x).toNat (y - x).toNat 1) := fun x y q => ⟨q.1, q.2.1, q.2.2.1, q.2.2.2.ext (fun j hj => g1 _ (by omega))⟩
  unfold tx_t
  rw [e1, e2, e3, e4, e5, e6]
  refine ⟨a1, fun c hc => ?_, fun hs c hc => ?_, a4, a5, a6, a7⟩
  · rw [em c 2 hc (by omega) (by omega), em c 3 hc (by omega) (by omega)]
    exact (a2 c hc).imp id (er _ _)
  · rw [em c 0 hc (by omega) (by omega), em c 1 hc (by omega) (by omega)]
    exact er _ _ (a3 hs c hc)
theorem tx_keep {Γ G : tk_G} {p t : Int} (h : tx_ok (Γ (43, 8800, 0)) (Γ (45, 1056, 0)) (Γ (46, 22, 0)) (Γ (47, 6, 0)) (Γ (48, 22, 0)) (Γ (49, 22, 0)) (Γ (50, 22, 0)) (Γ (51, 22, 0)) (Γ (42, 3, 0))) (hg : rg Γ G t) (hb : rb G t) (hp : tx_p (Γ (42, 3, 0)) p t) : tx_ok (G (43, 8800, 0)) (G (45, 1056, 0)) (G (46, 22, 0)) (G (47, 6, 0)) (G (48, 22, 0)) (G (49, 22, 0)) (G (50, 22, 0)) (G (51, 22, 0)) (Γ (42, 3, 0)) := by
  obtain ⟨⟨b0, b1, b2, b3⟩, h2⟩ := h
  refine ⟨⟨b0, b1, b2, fun j hj => ?_⟩, fun u hu => ?_⟩
  · by_cases e : (j : Int) = t
    · have q := hb.2.2.2.2.2.1
      rw [show t.toNat = j from by omega] at q
      exact q
    · rw [(hg.2.2 j e).2.2.2.2.1]; exact b3 j hj
  · refine tx_old (h2 u hu) hg (by omega) ?_
    intro q
    unfold tx_p at hp
    omega
theorem tx_add {Γ G : tk_G} {p t : Int} (h : tx_ok (Γ (43, 8800, 0)) (Γ (45, 1056, 0)) (Γ (46, 22, 0)) (Γ (47, 6, 0)) (Γ (48, 22, 0)) (Γ (49, 22, 0)) (Γ (50, 22, 0)) (Γ (51, 22, 0)) (Γ (42, 3, 0))) (hg : rg Γ G t) (hb : rb G t) (hs : 0 ≤ G (48, 22, 0) t.toNat ∧ 0 ≤ G (49, 22, 0) t.toNat ∧ 0 ≤ G (51, 22, 0) t.toNat) (hp : tx_p (Γ (42, 3, 0)) p t) : tx_ok (G (43, 8800, 0)) (G (45, 1056, 0)) (G (46, 22, 0)) (G (47, 6, 0)) (G (48, 22, 0)) (G (49, 22, 0)) (G (50, 22, 0)) (G (51, 22, 0)) (tgu (Γ (42, 3, 0)) p.toNat (Γ (42, 3, 0) p.toNat + 1)) := by
  have hk := tx_keep h hg hb hp
  obtain ⟨⟨b0, b1, b2, b3⟩, h2⟩ := hk
  have ht : tx_t (G (43, 8800, 0)) (G (45, 1056, 0)) (G (46, 22, 0)) (G (47, 6, 0)) (G (48, 22, 0)) (G (49, 22, 0)) (G (50, 22, 0)) (G (51, 22, 0)) t := by
    obtain ⟨a1, a2, a3, a4, a5, a6, a7⟩ := hb
    exact ⟨a1, fun c hc => (a2 c hc).1, fun q c hc => (a2 c hc).2 q, a3, ⟨hs.1, a4.2⟩, ⟨⟨hs.2.1, a5.2⟩, a6⟩, ⟨hs.2.2, a7.2⟩⟩
  unfold tx_p at hp
  rcases hp with ⟨rfl, hp1, hp2, hp3⟩ | ⟨rfl, hp1, hp2, hp3⟩ | ⟨rfl, hp1, hp2, hp3⟩
  · have w0 : tgu (Γ (42, 3, 0)) (0 : Int).toNat (Γ (42, 3, 0) (0 : Int).toNat + 1) 0 = Γ (42, 3, 0) 0 + 1 := tgu_s
    have w1 : tgu (Γ (42, 3, 0)) (0 : Int).toNat (Γ (42, 3, 0) (0 : Int).toNat + 1) 1 = Γ (42, 3, 0) 1 := tgu_n (by decide)
    have w2 : tgu (Γ (42, 3, 0)) (0 : Int).toNat (Γ (42, 3, 0) (0 : Int).toNat + 1) 2 = Γ (42, 3, 0) 2 := tgu_n (by decide)
    unfold tx_ok
    rw [w0, w1, w2]
    refine ⟨⟨by omega, b1, b2, b3⟩, fun u hu => ?_⟩
    by_cases e : u = t
    · rw [e]; exact ht
    · exact h2 u (by omega)
  · have w0 : tgu (Γ (42, 3, 0)) (1 : Int).toNat (Γ (42, 3, 0) (1 : Int).toNat + 1) 0 = Γ (42, 3, 0) 0 := tgu_n (by decide)
    have w1 : tgu (Γ (42, 3, 0)) (1 : Int).toNat (Γ (42, 3, 0) (1 : Int).toNat + 1) 1 = Γ (42, 3, 0) 1 + 1 := tgu_s
    have w2 : tgu (Γ (42, 3, 0)) (1 : Int).toNat (Γ (42, 3, 0) (1 : Int).toNat + 1) 2 = Γ (42, 3, 0) 2 := tgu_n (by decide)
    unfold tx_ok
    rw [w0, w1, w2]
    refine ⟨⟨b0, by omega, b2, b3⟩, fun u hu => ?_⟩
    by_cases e : u = t
    · rw [e]; exact ht
    · exact h2 u (by omega)
  · have w0 : tgu (Γ (42, 3, 0)) (2 : Int).toNat (Γ (42, 3, 0) (2 : Int).toNat + 1) 0 = Γ (42, 3, 0) 0 := tgu_n (by decide)
    have w1 : tgu (Γ (42, 3, 0)) (2 : Int).toNat (Γ (42, 3, 0) (2 : Int).toNat + 1) 1 = Γ (42, 3, 0) 1 := tgu_n (by decide)
    have w2 : tgu (Γ (42, 3, 0)) (2 : Int).toNat (Γ (42, 3, 0) (2 : Int).toNat + 1) 2 = Γ (42, 3, 0) 2 + 1 := tgu_s
    unfold tx_ok
    rw [w0, w1, w2]
    refine ⟨⟨b0, b1, by omega, b3⟩, fun u hu => ?_⟩
    by_cases e : u = t
    · rw [e]; exact ht
    · exact h2 u (by omega)
theorem tx_grow {Γ : tk_G} {p t : Int} (hp : tx_p (Γ (42, 3, 0)) p t) : Γ (42, 3, 0) 1 ≤ tgu (Γ (42, 3, 0)) p.toNat (Γ (42, 3, 0) p.toNat + 1) 1 := by
  unfold tx_p at hp
  rcases hp with ⟨rfl, _⟩ | ⟨rfl, hp1, _⟩ | ⟨rfl, _⟩
  · exact Int.le_of_eq (tgu_n (by decide)).symm
  · rw [show (1 : Int).toNat = 1 from rfl, tgu_s]; omega
  · exact Int.le_of_eq (tgu_n (by decide)).symm
set_option maxHeartbeats 4000000 in
set_option maxRecDepth 100000 in
theorem r_X12_text (l : Launch) (D : va_G) (cy : Nat → ClassId) (sz : Nat) (L : List Nat) (K : Nat → tk_K) (Γ : tk_G) (f : Nat → va_E) (o : Nat) (p0 : Int32) (ho : tp_r L K 39 (0) 0 o) (htx : tx_ok (Γ (43, 8800, 0)) (Γ (45, 1056, 0)) (Γ (46, 22, 0)) (Γ (47, 6, 0)) (Γ (48, 22, 0)) (Γ (49, 22, 0)) (Γ (50, 22, 0)) (Γ (51, 22, 0)) (Γ (42, 3, 0))) (h0 : 0 ≤ Γ (39, 0, 0) 0 ∧ Γ (39, 0, 0) 0 ≤ 400) : Met l yX12_text (tl_w yX12_text cX12_text 3 (some .int)) ({ frames := 11, cells := 0, slots := 0, locals := 243 }) (va_Pc [.ref o, .int p0] (tp_P D cy L K Γ f sz)) (va_Qi (fun (r : Int32) (u : (Nat → va_E) × tk_G) => tx_ok (u.2 (43, 8800, 0)) (u.2 (45, 1056, 0)) (u.2 (46, 22, 0)) (u.2 (47, 6, 0)) (u.2 (48, 22, 0)) (u.2 (49, 22, 0)) (u.2 (50, 22, 0)) (u.2 (51, 22, 0)) (u.2 (42, 3, 0)) ∧ (0 ≤ u.2 (39, 0, 0) 0 ∧ u.2 (39, 0, 0) 0 ≤ 400) ∧ Γ (42, 3, 0) 1 ≤ u.2 (42, 3, 0) 1) (tp_BG D cy L K Γ f [39, 42, 43, 44, 52, 45, 46, 53, 47, 54, 55, 56, 48, 49, 50, 51]) (tp_A L sz)) 0 0 (tp_A L sz) := by
  refine Met.ofW (cc := cX12_text) (maxL := 3) (ret := (some .int)) (by decide) rfl ?_
  intro p e s m args below meth c s₁ B hml hv
  obtain ⟨rfl, hsz, hP, hK, hL, hI, hN, hU⟩ := hv
  have hx := B.exec
  have hb := B.bytes
  have hr := B.returns
  have hta := tl_hta (atoms_spec (ws := tl_w yX12_text cX12_text 3 (some .int)) B.pre)
  have hown : s.vm.findClass RX12 = some m.cls := findClass_of_methodNamed B.named
  have hlocks := B.notSynchronized
  subst hsz
  have hI0 := hI
  generalize hAe : tp_A L s.heap.size = A
  have hA : ∀ q : Nat, s.heap.size ≤ q → A q := fun q h => by rw [← hAe]; exact Or.inr h
  have hAL : ∀ q ∈ L, A q := fun q h => by rw [← hAe]; exact Or.inl h
  have hAf : ∀ (H : Heap), s.heap.size ≤ H.size → ∀ q, tp_A L H.size q → A q := fun H h q hq => hq.elim (hAL q) (fun h2 => hA q (Nat.le_trans h h2))
  have hS : va_S A s.heap s.heap [] := va_S.rf
  have hD : va_D A (va_pl L f) := tp_D hL hAL
  have hfr : ∀ b, (K b).1 ∉ ([39, 42, 43, 44, 52, 45, 46, 53, 47, 54, 55, 56, 48, 49, 50, 51] : List Nat) → f b = f b := fun _ _ => rfl
  have hgr : ∀ κ : tk_K, κ.1 ∉ ([39, 42, 43, 44, 52, 45, 46, 53, 47, 54, 55, 56, 48, 49, 50, 51] : List Nat) → Γ κ = Γ κ := fun _ _ => rfl
  have hl := lv_entry ([.ref o, .int p0]) (n := 3) (Nat.le_of_ble_eq_true rfl)
  rw [lg_entry_eq]
  generalize (lg_sl ([.ref o, .int p0]) ++ List.replicate (3 - (lg_sl ([.ref o, .int p0])).length) Slot.unset).toArray = ls at hl ⊢
  have hl : lv_has ls 3 [(0, .ref o), (1, .int p0)] := hl
  obtain ⟨hb0, hb1, hb2, hbg⟩ := htx.1
  have ht : Γ (41, 400, 0) = Γ (41, 400, 0) := rfl
  refine lv_iload_n hx hb dX12_text_0 rfl (lv_at hl 1 rfl) ?_
  refine lv_i2l (v := p0.toInt64) hx hb dX12_text_1 (by first | rfl | decide) ?_
  refine lv_lconst (v := 0) hx hb dX12_text_2 (by decide) ?_
  refine lv_ldc2 (v := 2) hx hb hown (hta _ wk_536) dX12_text_3 ?_
  refine tl_si (tq_rS (As := [.long p0.toInt64, .long 0, .long 2]) (rest := []) ⟨hx, hb, hml, hown, hta⟩ (tp_P.pre hK hN hL hU hI hP) lk_X12_112 (r_X12_in l D cy s.heap.size L K Γ f p0.toInt64 0 2 ) rfl rfl ⟨Nat.le_of_ble_eq_true rfl, Nat.le_of_ble_eq_true rfl⟩ rfl hl.1 rfl (Nat.le_of_ble_eq_true rfl) dX12_text_6 ⟨Nat.le_of_ble_eq_true rfl, Nat.le_of_ble_eq_true rfl⟩) (fun r_2 hw_1 => ?_)
  simp only [Int32.toInt_toInt64] at hw_1
  have hw_1 : tl_E r_2 ((0 : Int) ≤ p0.toInt ∧ p0.toInt ≤ (2 : Int)) 1 0 := hw_1
  refine lv_if_eq (tgt := 25) hx hb dX12_text_9 (by decide) (fun c_3 => ?_) (fun c_3 => ?_)
  · have c_3 := hw_1.f c_3
    refine lv_iconst (v := (-1)) hx hb dX12_text_25 (by decide) ?_
    have hpo9 : tx_ok (Γ (43, 8800, 0)) (Γ (45, 1056, 0)) (Γ (46, 22, 0)) (Γ (47, 6, 0)) (Γ (48, 22, 0)) (Γ (49, 22, 0)) (Γ (50, 22, 0)) (Γ (51, 22, 0)) (Γ (42, 3, 0)) ∧ (0 ≤ Γ (39, 0, 0) 0 ∧ Γ (39, 0, 0) 0 ≤ 400) ∧ Γ (42, 3, 0) 1 ≤ Γ (42, 3, 0) 1 := ⟨htx, (by omega), (by omega)⟩
    exact W.iret (v := (-1)) hx hb hr (fun t ht hW => ⟨⟨_, (f, Γ), rfl, hpo9, by rw [ht]; exact hP, hI, hfr, hgr⟩, hS.F ht⟩) hS.2.2 dX12_text_26
  · have c_3 := hw_1.t c_3
    have hpc : (p0.toInt = 0 ∧ Γ (42, 3, 0) p0.toInt.toNat = Γ (42, 3, 0) 0) ∨ (p0.toInt = 1 ∧ Γ (42, 3, 0) p0.toInt.toNat = Γ (42, 3, 0) 1) ∨ (p0.toInt = 2 ∧ Γ (42, 3, 0) p0.toInt.toNat = Γ (42, 3, 0) 2) := by rcases (show p0.toInt = 0 ∨ p0.toInt = 1 ∨ p0.toInt = 2 from by omega) with q | q | q; (exact Or.inl ⟨q, congrArg _ (by omega)⟩); (exact Or.inr (Or.inl ⟨q, congrArg _ (by omega)⟩)); (exact Or.inr (Or.inr ⟨q, congrArg _ (by omega)⟩))
    refine lv_aload_n hx hb dX12_text_12 rfl (lv_at hl 0 rfl) ?_
    obtain ⟨r_5, v_6, q_7, hf_4, hr_8, hv_9⟩ := (show tp_o_M L K 0 0 (Γ (39, 0, 0)) (f o) from hI.at ho)
    have hx_10 : (v_6 0).toInt = Γ (39, 0, 0) 0 := hv_9 0 (by decide)
    have hx_11 : (v_6 1).toInt = Γ (39, 0, 0) 1 := hv_9 1 (by decide)
    have hx_12 : (v_6 2).toInt = Γ (39, 0, 0) 2 := hv_9 2 (by decide)
    have hx_13 : (v_6 4).toInt = Γ (39, 0, 0) 4 := hv_9 4 (by decide)
    have hx_14 : (v_6 5).toInt = Γ (39, 0, 0) 5 := hv_9 5 (by decide)
    have hx_15 : (v_6 7).toInt = Γ (39, 0, 0) 7 := hv_9 7 (by decide)
    refine tp_get (cy := cy) (ci := 12) (v := .ref (r_5 2)) (C := RX12) (T := TX12) (N := 49) hx hb hta inlX12 hown hK hP ho.1 hf_4 rfl 3 (by decide) (hta _ wk_152) (fun _ h9 => h9) rfl dX12_text_13 ?_
    refine lv_iload_n hx hb dX12_text_16 rfl (lv_at hl 1 rfl) ?_
    obtain ⟨g_17, hf_16, hg_18⟩ := (show tp_gi cy (3) (Γ (42, 3, 0)) (f (r_5 2)) from hI.at (show tp_r L K 42 3 0 (r_5 2) from hr_8 2 (by decide)))
    have hn_19 : vp_in p0 (3) := tl_in (by omega) (by omega)
    refine tp_iald (cy := cy) hx hb hK hP (show tp_r L K 42 3 0 (r_5 2) from hr_8 2 (by decide)).1 hf_16 hn_19 dX12_text_17 ?_
    refine lv_topi (fun z_20 ez_20 => ?_)
    have iz_20 : z_20.toInt = Γ (42, 3, 0) p0.toInt.toNat := by rw [ez_20]; exact hg_18 _ (tp_pin hn_19)
    refine lv_iload_n hx hb dX12_text_18 rfl (lv_at hl 1 rfl) ?_
    refine tl_si (tq_rS (As := [.int p0]) (rest := [.int z_20]) ⟨hx, hb, hml, hown, hta⟩ (tp_P.pre hK hN hL hU hI hP) lk_X12_324 (r_X12_mostOf l D cy s.heap.size L K Γ f p0 ) rfl rfl ⟨Nat.le_of_ble_eq_true rfl, Nat.le_of_ble_eq_true rfl⟩ rfl hl.1 rfl (Nat.le_of_ble_eq_true rfl) dX12_text_19 ⟨Nat.le_of_ble_eq_true rfl, Nat.le_of_ble_eq_true rfl⟩) (fun r_22 hw_21 => ?_)
    have hw_21 : (p0.toInt = 0 ∧ r_22.toInt = 6) ∨ (¬ p0.toInt = 0 ∧ r_22.toInt = 8) := hw_21
    refine lv_icmp_ne (tgt := 27) hx hb dX12_text_22 (by decide) (fun c_23 => ?_) (fun c_23 => ?_)
    · have c_23 : ¬ z_20.toInt = r_22.toInt := tl_neq c_23
      refine lv_aload_n hx hb dX12_text_27 rfl (lv_at hl 0 rfl) ?_
      refine lv_iload_n hx hb dX12_text_28 rfl (lv_at hl 1 rfl) ?_
      refine tl_si (tq_rS (As := [.int p0]) (rest := [.ref o]) ⟨hx, hb, hml, hown, hta⟩ (tp_P.pre hK hN hL hU hI hP) lk_X12_327 (r_X12_firstOf l D cy s.heap.size L K Γ f p0 ) rfl rfl ⟨Nat.le_of_ble_eq_true rfl, Nat.le_of_ble_eq_true rfl⟩ rfl hl.1 rfl (Nat.le_of_ble_eq_true rfl) dX12_text_29 ⟨Nat.le_of_ble_eq_true rfl, Nat.le_of_ble_eq_true rfl⟩) (fun r_25 hw_24 => ?_)
      have hw_24 : (p0.toInt = 0 ∧ r_25.toInt = 0) ∨ (p0.toInt = 1 ∧ r_25.toInt = 6) ∨ ((¬ p0.toInt = 0 ∧ ¬ p0.toInt = 1) ∧ r_25.toInt = 14) := hw_24
      refine lv_aload_n hx hb dX12_text_32 rfl (lv_at hl 0 rfl) ?_
      refine tp_get (cy := cy) (ci := 12) (v := .ref (r_5 2)) (C := RX12) (T := TX12) (N := 49) hx hb hta inlX12 hown hK hP ho.1 hf_4 rfl 3 (by decide) (hta _ wk_152) (fun _ h9 => h9) rfl dX12_text_33 ?_
      refine lv_iload_n hx hb dX12_text_36 rfl (lv_at hl 1 rfl) ?_
      have hn_26 : vp_in p0 (3) := tl_in (by omega) (by omega)
      refine tp_iald (cy := cy) hx hb hK hP (show tp_r L K 42 3 0 (r_5 2) from hr_8 2 (by decide)).1 hf_16 hn_26 dX12_text_37 ?_
      refine lv_topi (fun z_27 ez_27 => ?_)
      obtain rfl : z_20 = z_27 := ez_20.trans ez_27.symm
      refine lv_iadd hx hb dX12_text_38 ?_
      refine lv_topi (fun z_28 ez_28 => ?_)
      try have iz_28 : z_28.toInt = r_25.toInt + z_20.toInt := by rw [ez_28]; exact tl_addN r_25 z_20 rfl rfl (by omega) (by omega)
      obtain ⟨t0, ht0⟩ : ∃ y : Int, y = z_28.toInt := ⟨_, rfl⟩
      have hps : (p0.toInt = 0 ∧ Γ (42, 3, 0) p0.toInt.toNat = Γ (42, 3, 0) 0 ∧ t0 = Γ (42, 3, 0) 0 ∧ Γ (42, 3, 0) 0 < 6) ∨ (p0.toInt = 1 ∧ Γ (42, 3, 0) p0.toInt.toNat = Γ (42, 3, 0) 1 ∧ t0 = 6 + Γ (42, 3, 0) 1 ∧ Γ (42, 3, 0) 1 < 8) ∨ (p0.toInt = 2 ∧ Γ (42, 3, 0) p0.toInt.toNat = Γ (42, 3, 0) 2 ∧ t0 = 14 + Γ (42, 3, 0) 2 ∧ Γ (42, 3, 0) 2 < 8) := by rcases hpc with q | q | q; (exact Or.inl ⟨q.1, q.2, by omega, by omega⟩); (exact Or.inr (Or.inl ⟨q.1, q.2, by omega, by omega⟩)); (exact Or.inr (Or.inr ⟨q.1, q.2, by omega, by omega⟩))
      clear hpc
      clear hw_21 hw_24
      have ht21 : 0 ≤ t0 ∧ t0 ≤ 21 := by omega
      have hrg : rg Γ Γ t0 := rg.refl
      have htx9 : Γ (42, 3, 0) = Γ (42, 3, 0) := rfl
      obtain ⟨Γ_29, eΓ_29⟩ : ∃ y : tk_G, y = tg Γ (39, 0, 0) 4 z_28.toInt := ⟨_, rfl⟩
      have hv_30 : ∀ i : Nat, i < 16 → ((upd v_6 4 z_28) i).toInt = Γ_29 (39, 0, 0) i := by rw [eΓ_29, tg_f]; exact tp_gi_upd hv_9
      have hI9 : tp_I cy L K Γ_29 (va_up f o (.inr (12, [.ref (r_5 0), .ref (r_5 1), .int (v_6 0), .ref (r_5 2), .ref (r_5 3), .ref (r_5 4), .ref (r_5 5), .ref (r_5 6), .ref (r_5 7), .ref (r_5 8), .ref (r_5 9), .ref (r_5 10), .ref (r_5 11), .ref (r_5 12), .ref (r_5 13), .ref (r_5 14), .ref (r_5 15), .int (v_6 1), .int (v_6 2), .int (v_6 3), .int z_28, .int (v_6 5), .int (v_6 6), .int (v_6 7), .ref (r_5 16), .int (v_6 8), .ref (r_5 17), .int (v_6 9), .ref (r_5 18), .long q_7, .ref (r_5 19), .ref (r_5 20), .int (v_6 10), .int (v_6 11), .int (v_6 12), .ref (r_5 21), .ref (r_5 22), .int (v_6 13), .ref (r_5 23), .int (v_6 14), .int (v_6 15), .ref (r_5 24), .ref (r_5 25), .ref (r_5 26), .ref (r_5 27), .ref (r_5 28), .ref (r_5 29), .ref (r_5 30), .ref (r_5 31)]))) := by have q9 := hv_30; rw [eΓ_29, tg_f] at q9; rw [eΓ_29]; exact hI.setg hU rfl ho (show tp_o_M L K 0 0 (tgu (Γ (39, 0, 0)) 4 z_28.toInt) _ from ⟨r_5, (upd v_6 4 z_28), q_7, rfl, hr_8, q9⟩)
      have hfr9 : ∀ b, (K b).1 ∉ ([39, 42, 43, 44, 52, 45, 46, 53, 47, 54, 55, 56, 48, 49, 50, 51] : List Nat) → va_up f o (.inr (12, [.ref (r_5 0), .ref (r_5 1), .int (v_6 0), .ref (r_5 2), .ref (r_5 3), .ref (r_5 4), .ref (r_5 5), .ref (r_5 6), .ref (r_5 7), .ref (r_5 8), .ref (r_5 9), .ref (r_5 10), .ref (r_5 11), .ref (r_5 12), .ref (r_5 13), .ref (r_5 14), .ref (r_5 15), .int (v_6 1), .int (v_6 2), .int (v_6 3), .int z_28, .int (v_6 5), .int (v_6 6), .int (v_6 7), .ref (r_5 16), .int (v_6 8), .ref (r_5 17), .int (v_6 9), .ref (r_5 18), .long q_7, .ref (r_5 19), .ref (r_5 20), .int (v_6 10), .int (v_6 11), .int (v_6 12), .ref (r_5 21), .ref (r_5 22), .int (v_6 13), .ref (r_5 23), .int (v_6 14), .int (v_6 15), .ref (r_5 24), .ref (r_5 25), .ref (r_5 26), .ref (r_5 27), .ref (r_5 28), .ref (r_5 29), .ref (r_5 30), .ref (r_5 31)])) b = f b := tp_fr hfr ho (by decide)
      refine tp_put (cy := cy) (ci := 12) (v := .int z_28) (ty := tyX12 20) (C := RX12) (T := TX12) (N := 49) hx hb hta inlX12 tyX12 tyX12_ok nmX12 hown hK hP hD hS ho.1 hf_4 rfl 20 (by decide) (hta _ wk_537) (fun _ h9 => h9) rfl (tyX12_ok 20 (by decide)) rfl rfl (Nat.le_of_ble_eq_true rfl) dX12_text_39 (fun H locs hP hD hS => ?_)
      have hP : va_P D vwCl (va_pl L (va_up f o (.inr (12, [.ref (r_5 0), .ref (r_5 1), .int (v_6 0), .ref (r_5 2), .ref (r_5 3), .ref (r_5 4), .ref (r_5 5), .ref (r_5 6), .ref (r_5 7), .ref (r_5 8), .ref (r_5 9), .ref (r_5 10), .ref (r_5 11), .ref (r_5 12), .ref (r_5 13), .ref (r_5 14), .ref (r_5 15), .int (v_6 1), .int (v_6 2), .int (v_6 3), .int z_28, .int (v_6 5), .int (v_6 6), .int (v_6 7), .ref (r_5 16), .int (v_6 8), .ref (r_5 17), .int (v_6 9), .ref (r_5 18), .long q_7, .ref (r_5 19), .ref (r_5 20), .int (v_6 10), .int (v_6 11), .int (v_6 12), .ref (r_5 21), .ref (r_5 22), .int (v_6 13), .ref (r_5 23), .int (v_6 14), .int (v_6 15), .ref (r_5 24), .ref (r_5 25), .ref (r_5 26), .ref (r_5 27), .ref (r_5 28), .ref (r_5 29), .ref (r_5 30), .ref (r_5 31)])))) H := hP
      generalize hfe : va_up f o (.inr (12, [.ref (r_5 0), .ref (r_5 1), .int (v_6 0), .ref (r_5 2), .ref (r_5 3), .ref (r_5 4), .ref (r_5 5), .ref (r_5 6), .ref (r_5 7), .ref (r_5 8), .ref (r_5 9), .ref (r_5 10), .ref (r_5 11), .ref (r_5 12), .ref (r_5 13), .ref (r_5 14), .ref (r_5 15), .int (v_6 1), .int (v_6 2), .int (v_6 3), .int z_28, .int (v_6 5), .int (v_6 6), .int (v_6 7), .ref (r_5 16), .int (v_6 8), .ref (r_5 17), .int (v_6 9), .ref (r_5 18), .long q_7, .ref (r_5 19), .ref (r_5 20), .int (v_6 10), .int (v_6 11), .int (v_6 12), .ref (r_5 21), .ref (r_5 22), .int (v_6 13), .ref (r_5 23), .int (v_6 14), .int (v_6 15), .ref (r_5 24), .ref (r_5 25), .ref (r_5 26), .ref (r_5 27), .ref (r_5 28), .ref (r_5 29), .ref (r_5 30), .ref (r_5 31)])) = f_31 at hP hI9 hfr9
      have hD : va_D A (va_pl L f_31) := tp_D hL hAL
      have hf_32 : f_31 o = .inr (12, [.ref (r_5 0), .ref (r_5 1), .int (v_6 0), .ref (r_5 2), .ref (r_5 3), .ref (r_5 4), .ref (r_5 5), .ref (r_5 6), .ref (r_5 7), .ref (r_5 8), .ref (r_5 9), .ref (r_5 10), .ref (r_5 11), .ref (r_5 12), .ref (r_5 13), .ref (r_5 14), .ref (r_5 15), .int (v_6 1), .int (v_6 2), .int (v_6 3), .int z_28, .int (v_6 5), .int (v_6 6), .int (v_6 7), .ref (r_5 16), .int (v_6 8), .ref (r_5 17), .int (v_6 9), .ref (r_5 18), .long q_7, .ref (r_5 19), .ref (r_5 20), .int (v_6 10), .int (v_6 11), .int (v_6 12), .ref (r_5 21), .ref (r_5 22), .int (v_6 13), .ref (r_5 23), .int (v_6 14), .int (v_6 15), .ref (r_5 24), .ref (r_5 25), .ref (r_5 26), .ref (r_5 27), .ref (r_5 28), .ref (r_5 29), .ref (r_5 30), .ref (r_5 31)]) := by rw [← hfe]; exact va_up_self _ _ _
      have hf_33 := (show f_31 (r_5 2) = _ from by rw [← hfe, va_up_ne _ _ (tp_ne (show tp_r L K 42 3 0 (r_5 2) from hr_8 2 (by decide)) ho (by decide))]).trans hf_16
      clear hfe
      have hI := hI9
      have hfr := hfr9
      clear hI9 hfr9
      have hgr : ∀ κ : tk_K, κ.1 ∉ ([39, 42, 43, 44, 52, 45, 46, 53, 47, 54, 55, 56, 48, 49, 50, 51] : List Nat) → Γ_29 κ = Γ κ := tg_fr hgr eΓ_29 (by decide)
      have hx_34 : (v_6 0).toInt = Γ_29 (39, 0, 0) 0 := hv_30 0 (by decide)
      have hx_35 : (v_6 1).toInt = Γ_29 (39, 0, 0) 1 := hv_30 1 (by decide)
      have hx_36 : (v_6 2).toInt = Γ_29 (39, 0, 0) 2 := hv_30 2 (by decide)
      have hx_37 : z_28.toInt = Γ_29 (39, 0, 0) 4 := hv_30 4 (by decide)
      have hx_38 : (v_6 5).toInt = Γ_29 (39, 0, 0) 5 := hv_30 5 (by decide)
      have hx_39 : (v_6 7).toInt = Γ_29 (39, 0, 0) 7 := hv_30 7 (by decide)
      have hg_40 : ∀ j : Nat, j < 3 → (g_17 j).toInt = Γ_29 (42, 3, 0) j := fun j hj => by rw [eΓ_29, tg_r (by decide)]; exact hg_18 j hj
      have wz_29_MLEN : Γ_29 (44, 22, 0) t0.toNat = Γ (44, 22, 0) t0.toNat := by rw [eΓ_29, tg_r (by decide)]
      have wz_29_MCLS : Γ_29 (46, 22, 0) t0.toNat = Γ (46, 22, 0) t0.toNat := by rw [eΓ_29, tg_r (by decide)]
      have wz_29_EATERS : Γ_29 (47, 6, 0) t0.toNat = Γ (47, 6, 0) t0.toNat := by rw [eΓ_29, tg_r (by decide)]
      have wz_29_MBENDS : Γ_29 (48, 22, 0) t0.toNat = Γ (48, 22, 0) t0.toNat := by rw [eΓ_29, tg_r (by decide)]
      have wz_29_GFROM : Γ_29 (49, 22, 0) t0.toNat = Γ (49, 22, 0) t0.toNat := by rw [eΓ_29, tg_r (by decide)]
      have wz_29_GTO : Γ_29 (50, 22, 0) t0.toNat = Γ (50, 22, 0) t0.toNat := by rw [eΓ_29, tg_r (by decide)]
      have wz_29_MWIDE : Γ_29 (51, 22, 0) t0.toNat = Γ (51, 22, 0) t0.toNat := by rw [eΓ_29, tg_r (by decide)]
      have hrg : rg Γ Γ_29 t0 := hrg.same (by rw [eΓ_29]; exact tg_M)
      have htx9 : Γ_29 (42, 3, 0) = Γ (42, 3, 0) := (show Γ_29 (42, 3, 0) = _ from by rw [eΓ_29, tg_rf (by decide)]).trans htx9
      have hgt9 := hbg t0.toNat (by omega)
      have hjn204 : ∀ (f_41 : Nat → va_E) (Γ_42 : tk_G) (H : Heap) (locs : List Loc) (ls : Array Slot), (rg Γ Γ_42 t0) → (rb Γ_42 t0) → (Γ_42 (42, 3, 0) = Γ (42, 3, 0)) → (Γ_42 (39, 0, 0) 4 = t0) → va_P D vwCl (va_pl L f_41) H → tp_I cy L K Γ_42 f_41 → (∀ b, (K b).1 ∉ ([39, 42, 43, 44, 52, 45, 46, 53, 47, 54, 55, 56, 48, 49, 50, 51] : List Nat) → f_41 b = f b) → (∀ κ : tk_K, κ.1 ∉ ([39, 42, 43, 44, 52, 45, 46, 53, 47, 54, 55, 56, 48, 49, 50, 51] : List Nat) → Γ_42 κ = Γ κ) → va_S A s.heap H locs → lv_has ls 3 [(0, .ref o), (1, .int p0)] → W p l e ((headSpec (tl_w yX12_text cX12_text 3 (some .int)) ({ frames := 11, cells := 0, slots := 0, locals := 243 })).room) s m #[.ref o, .int p0] below meth c H locs 0 0 (MQ below (va_Qi (fun (r : Int32) (u : (Nat → va_E) × tk_G) => tx_ok (u.2 (43, 8800, 0)) (u.2 (45, 1056, 0)) (u.2 (46, 22, 0)) (u.2 (47, 6, 0)) (u.2 (48, 22, 0)) (u.2 (49, 22, 0)) (u.2 (50, 22, 0)) (u.2 (51, 22, 0)) (u.2 (42, 3, 0)) ∧ (0 ≤ u.2 (39, 0, 0) 0 ∧ u.2 (39, 0, 0) 0 ≤ 400) ∧ Γ (42, 3, 0) 1 ≤ u.2 (42, 3, 0) 1) (tp_BG D cy L K Γ f [39, 42, 43, 44, 52, 45, 46, 53, 47, 54, 55, 56, 48, 49, 50, 51]) A) #[.ref o, .int p0] s 0 0 A) (F0 m 204 ls []) := by
        intro f_41 Γ_42  H locs ls hrg hrb htx9 q4 hP hI hfr hgr hS hl
        have hD : va_D A (va_pl L f_41) := tp_D hL hAL
        refine lv_aload_n hx hb dX12_text_204 rfl (lv_at hl 0 rfl) ?_
        refine lv_iconst (v := 0) hx hb dX12_text_205 (by decide) ?_
        obtain ⟨r_44, v_45, q_46, hf_43, hr_47, hv_48⟩ := (show tp_o_M L K 0 0 (Γ_42 (39, 0, 0)) (f_41 o) from hI.at ho)
        have hx_49 : (v_45 0).toInt = Γ_42 (39, 0, 0) 0 := hv_48 0 (by decide)
        have hx_50 : (v_45 1).toInt = Γ_42 (39, 0, 0) 1 := hv_48 1 (by decide)
        have hx_51 : (v_45 2).toInt = Γ_42 (39, 0, 0) 2 := hv_48 2 (by decide)
        have hx_52 : (v_45 4).toInt = Γ_42 (39, 0, 0) 4 := hv_48 4 (by decide)
        have hx_53 : (v_45 5).toInt = Γ_42 (39, 0, 0) 5 := hv_48 5 (by decide)
        have hx_54 : (v_45 7).toInt = Γ_42 (39, 0, 0) 7 := hv_48 7 (by decide)
        obtain ⟨Γ_55, eΓ_55⟩ : ∃ y : tk_G, y = tg Γ_42 (39, 0, 0) 0 (0 : Int) := ⟨_, rfl⟩
        have hv_56 : ∀ i : Nat, i < 16 → ((upd v_45 0 (0 : Int32)) i).toInt = Γ_55 (39, 0, 0) i := by rw [eΓ_55, tg_f]; exact tp_gi_upd hv_48
        have hI9 : tp_I cy L K Γ_55 (va_up f_41 o (.inr (12, [.ref (r_44 0), .ref (r_44 1), .int 0, .ref (r_44 2), .ref (r_44 3), .ref (r_44 4), .ref (r_44 5), .ref (r_44 6), .ref (r_44 7), .ref (r_44 8), .ref (r_44 9), .ref (r_44 10), .ref (r_44 11), .ref (r_44 12), .ref (r_44 13), .ref (r_44 14), .ref (r_44 15), .int (v_45 1), .int (v_45 2), .int (v_45 3), .int (v_45 4), .int (v_45 5), .int (v_45 6), .int (v_45 7), .ref (r_44 16), .int (v_45 8), .ref (r_44 17), .int (v_45 9), .ref (r_44 18), .long q_46, .ref (r_44 19), .ref (r_44 20), .int (v_45 10), .int (v_45 11), .int (v_45 12), .ref (r_44 21), .ref (r_44 22), .int (v_45 13), .ref (r_44 23), .int (v_45 14), .int (v_45 15), .ref (r_44 24), .ref (r_44 25), .ref (r_44 26), .ref (r_44 27), .ref (r_44 28), .ref (r_44 29), .ref (r_44 30), .ref (r_44 31)]))) := by have q9 := hv_56; rw [eΓ_55, tg_f] at q9; rw [eΓ_55]; exact hI.setg hU rfl ho (show tp_o_M L K 0 0 (tgu (Γ_42 (39, 0, 0)) 0 (0 : Int)) _ from ⟨r_44, (upd v_45 0 (0 : Int32)), q_46, rfl, hr_47, q9⟩)
        have hfr9 : ∀ b, (K b).1 ∉ ([39, 42, 43, 44, 52, 45, 46, 53, 47, 54, 55, 56, 48, 49, 50, 51] : List Nat) → va_up f_41 o (.inr (12, [.ref (r_44 0), .ref (r_44 1), .int 0, .ref (r_44 2), .ref (r_44 3), .ref (r_44 4), .ref (r_44 5), .ref (r_44 6), .ref (r_44 7), .ref (r_44 8), .ref (r_44 9), .ref (r_44 10), .ref (r_44 11), .ref (r_44 12), .ref (r_44 13), .ref (r_44 14), .ref (r_44 15), .int (v_45 1), .int (v_45 2), .int (v_45 3), .int (v_45 4), .int (v_45 5), .int (v_45 6), .int (v_45 7), .ref (r_44 16), .int (v_45 8), .ref (r_44 17), .int (v_45 9), .ref (r_44 18), .long q_46, .ref (r_44 19), .ref (r_44 20), .int (v_45 10), .int (v_45 11), .int (v_45 12), .ref (r_44 21), .ref (r_44 22), .int (v_45 13), .ref (r_44 23), .int (v_45 14), .int (v_45 15), .ref (r_44 24), .ref (r_44 25), .ref (r_44 26), .ref (r_44 27), .ref (r_44 28), .ref (r_44 29), .ref (r_44 30), .ref (r_44 31)])) b = f b := tp_fr hfr ho (by decide)
        refine tp_put (cy := cy) (ci := 12) (v := .int 0) (ty := tyX12 2) (C := RX12) (T := TX12) (N := 49) hx hb hta inlX12 tyX12 tyX12_ok nmX12 hown hK hP hD hS ho.1 hf_43 rfl 2 (by decide) (hta _ wk_347) (fun _ h9 => h9) rfl (tyX12_ok 2 (by decide)) rfl rfl (Nat.le_of_ble_eq_true rfl) dX12_text_206 (fun H locs hP hD hS => ?_)
        have hP : va_P D vwCl (va_pl L (va_up f_41 o (.inr (12, [.ref (r_44 0), .ref (r_44 1), .int 0, .ref (r_44 2), .ref (r_44 3), .ref (r_44 4), .ref (r_44 5), .ref (r_44 6), .ref (r_44 7), .ref (r_44 8), .ref (r_44 9), .ref (r_44 10), .ref (r_44 11), .ref (r_44 12), .ref (r_44 13), .ref (r_44 14), .ref (r_44 15), .int (v_45 1), .int (v_45 2), .int (v_45 3), .int (v_45 4), .int (v_45 5), .int (v_45 6), .int (v_45 7), .ref (r_44 16), .int (v_45 8), .ref (r_44 17), .int (v_45 9), .ref (r_44 18), .long q_46, .ref (r_44 19), .ref (r_44 20), .int (v_45 10), .int (v_45 11), .int (v_45 12), .ref (r_44 21), .ref (r_44 22), .int (v_45 13), .ref (r_44 23), .int (v_45 14), .int (v_45 15), .ref (r_44 24), .ref (r_44 25), .ref (r_44 26), .ref (r_44 27), .ref (r_44 28), .ref (r_44 29), .ref (r_44 30), .ref (r_44 31)])))) H := hP
        generalize hfe : va_up f_41 o (.inr (12, [.ref (r_44 0), .ref (r_44 1), .int 0, .ref (r_44 2), .ref (r_44 3), .ref (r_44 4), .ref (r_44 5), .ref (r_44 6), .ref (r_44 7), .ref (r_44 8), .ref (r_44 9), .ref (r_44 10), .ref (r_44 11), .ref (r_44 12), .ref (r_44 13), .ref (r_44 14), .ref (r_44 15), .int (v_45 1), .int (v_45 2), .int (v_45 3), .int (v_45 4), .int (v_45 5), .int (v_45 6), .int (v_45 7), .ref (r_44 16), .int (v_45 8), .ref (r_44 17), .int (v_45 9), .ref (r_44 18), .long q_46, .ref (r_44 19), .ref (r_44 20), .int (v_45 10), .int (v_45 11), .int (v_45 12), .ref (r_44 21), .ref (r_44 22), .int (v_45 13), .ref (r_44 23), .int (v_45 14), .int (v_45 15), .ref (r_44 24), .ref (r_44 25), .ref (r_44 26), .ref (r_44 27), .ref (r_44 28), .ref (r_44 29), .ref (r_44 30), .ref (r_44 31)])) = f_57 at hP hI9 hfr9
        have hD : va_D A (va_pl L f_57) := tp_D hL hAL
        have hf_58 : f_57 o = .inr (12, [.ref (r_44 0), .ref (r_44 1), .int 0, .ref (r_44 2), .ref (r_44 3), .ref (r_44 4), .ref (r_44 5), .ref (r_44 6), .ref (r_44 7), .ref (r_44 8), .ref (r_44 9), .ref (r_44 10), .ref (r_44 11), .ref (r_44 12), .ref (r_44 13), .ref (r_44 14), .ref (r_44 15), .int (v_45 1), .int (v_45 2), .int (v_45 3), .int (v_45 4), .int (v_45 5), .int (v_45 6), .int (v_45 7), .ref (r_44 16), .int (v_45 8), .ref (r_44 17), .int (v_45 9), .ref (r_44 18), .long q_46, .ref (r_44 19), .ref (r_44 20), .int (v_45 10), .int (v_45 11), .int (v_45 12), .ref (r_44 21), .ref (r_44 22), .int (v_45 13), .ref (r_44 23), .int (v_45 14), .int (v_45 15), .ref (r_44 24), .ref (r_44 25), .ref (r_44 26), .ref (r_44 27), .ref (r_44 28), .ref (r_44 29), .ref (r_44 30), .ref (r_44 31)]) := by rw [← hfe]; exact va_up_self _ _ _
        clear hfe
        have hI := hI9
        have hfr := hfr9
        clear hI9 hfr9
        have hgr : ∀ κ : tk_K, κ.1 ∉ ([39, 42, 43, 44, 52, 45, 46, 53, 47, 54, 55, 56, 48, 49, 50, 51] : List Nat) → Γ_55 κ = Γ κ := tg_fr hgr eΓ_55 (by decide)
        have hx_59 : (0 : Int) = Γ_55 (39, 0, 0) 0 := hv_56 0 (by decide)
        have hx_60 : (v_45 1).toInt = Γ_55 (39, 0, 0) 1 := hv_56 1 (by decide)
        have hx_61 : (v_45 2).toInt = Γ_55 (39, 0, 0) 2 := hv_56 2 (by decide)
        have hx_62 : (v_45 4).toInt = Γ_55 (39, 0, 0) 4 := hv_56 4 (by decide)
        have hx_63 : (v_45 5).toInt = Γ_55 (39, 0, 0) 5 := hv_56 5 (by decide)
        have hx_64 : (v_45 7).toInt = Γ_55 (39, 0, 0) 7 := hv_56 7 (by decide)
        have wz_55_MLEN : Γ_55 (44, 22, 0) t0.toNat = Γ_42 (44, 22, 0) t0.toNat := by rw [eΓ_55, tg_r (by decide)]
        have wz_55_MCLS : Γ_55 (46, 22, 0) t0.toNat = Γ_42 (46, 22, 0) t0.toNat := by rw [eΓ_55, tg_r (by decide)]
        have wz_55_EATERS : Γ_55 (47, 6, 0) t0.toNat = Γ_42 (47, 6, 0) t0.toNat := by rw [eΓ_55, tg_r (by decide)]
        have wz_55_MBENDS : Γ_55 (48, 22, 0) t0.toNat = Γ_42 (48, 22, 0) t0.toNat := by rw [eΓ_55, tg_r (by decide)]
        have wz_55_GFROM : Γ_55 (49, 22, 0) t0.toNat = Γ_42 (49, 22, 0) t0.toNat := by rw [eΓ_55, tg_r (by decide)]
        have wz_55_GTO : Γ_55 (50, 22, 0) t0.toNat = Γ_42 (50, 22, 0) t0.toNat := by rw [eΓ_55, tg_r (by decide)]
        have wz_55_MWIDE : Γ_55 (51, 22, 0) t0.toNat = Γ_42 (51, 22, 0) t0.toNat := by rw [eΓ_55, tg_r (by decide)]
        have hrg : rg Γ Γ_55 t0 := hrg.same (by rw [eΓ_55]; exact tg_M)
        have htx9 : Γ_55 (42, 3, 0) = Γ (42, 3, 0) := (show Γ_55 (42, 3, 0) = _ from by rw [eΓ_55, tg_rf (by decide)]).trans htx9
        have hrb : rb Γ_55 t0 := hrb.same (by rw [eΓ_55]; exact tg_M)
        refine lv_aload_n hx hb dX12_text_209 rfl (lv_at hl 0 rfl) ?_
        refine tp_get (cy := cy) (ci := 12) (v := .int (v_45 2)) (C := RX12) (T := TX12) (N := 49) hx hb hta inlX12 hown hK hP ho.1 hf_58 rfl 18 (by decide) (hta _ wk_540) (fun _ h9 => h9) rfl dX12_text_210 ?_
        refine lv_if_le (tgt := 224) hx hb dX12_text_213 (by decide) (fun c_65 => ?_) (fun c_65 => ?_)
        · have c_65 : (v_45 2).toInt ≤ (0 : Int) := tl_le c_65
          have hjn246 : ∀ (f_66 : Nat → va_E) (Γ_67 : tk_G) (H : Heap) (locs : List Loc) (ls : Array Slot), (rg Γ Γ_67 t0) → (rb Γ_67 t0) → (Γ_67 (42, 3, 0) = Γ (42, 3, 0)) → (Γ_67 (39, 0, 0) 4 = t0) → (Γ_67 (39, 0, 0) 0 = 0) → va_P D vwCl (va_pl L f_66) H → tp_I cy L K Γ_67 f_66 → (∀ b, (K b).1 ∉ ([39, 42, 43, 44, 52, 45, 46, 53, 47, 54, 55, 56, 48, 49, 50, 51] : List Nat) → f_66 b = f b) → (∀ κ : tk_K, κ.1 ∉ ([39, 42, 43, 44, 52, 45, 46, 53, 47, 54, 55, 56, 48, 49, 50, 51] : List Nat) → Γ_67 κ = Γ κ) → va_S A s.heap H locs → lv_has ls 3 [(0, .ref o), (1, .int p0)] → W p l e ((headSpec (tl_w yX12_text cX12_text 3 (some .int)) ({ frames := 11, cells := 0, slots := 0, locals := 243 })).room) s m #[.ref o, .int p0] below meth c H locs 0 0 (MQ below (va_Qi (fun (r : Int32) (u : (Nat → va_E) × tk_G) => tx_ok (u.2 (43, 8800, 0)) (u.2 (45, 1056, 0)) (u.2 (46, 22, 0)) (u.2 (47, 6, 0)) (u.2 (48, 22, 0)) (u.2 (49, 22, 0)) (u.2 (50, 22, 0)) (u.2 (51, 22, 0)) (u.2 (42, 3, 0)) ∧ (0 ≤ u.2 (39, 0, 0) 0 ∧ u.2 (39, 0, 0) 0 ≤ 400) ∧ Γ (42, 3, 0) 1 ≤ u.2 (42, 3, 0) 1) (tp_BG D cy L K Γ f [39, 42, 43, 44, 52, 45, 46, 53, 47, 54, 55, 56, 48, 49, 50, 51]) A) #[.ref o, .int p0] s 0 0 A) (F0 m 246 ls []) := by
            intro f_66 Γ_67  H locs ls hrg hrb htx9 q4 q00 hP hI hfr hgr hS hl
            have hD : va_D A (va_pl L f_66) := tp_D hL hAL
            have hjn269 : ∀ (f_68 : Nat → va_E) (Γ_69 : tk_G) (H : Heap) (locs : List Loc) (ls : Array Slot), (rg Γ Γ_69 t0) → (rb Γ_69 t0) → (Γ_69 (42, 3, 0) = Γ (42, 3, 0)) → (Γ_69 (39, 0, 0) 4 = t0) → (Γ_69 (39, 0, 0) 0 = 0) → (0 ≤ Γ_69 (48, 22, 0) t0.toNat) → va_P D vwCl (va_pl L f_68) H → tp_I cy L K Γ_69 f_68 → (∀ b, (K b).1 ∉ ([39, 42, 43, 44, 52, 45, 46, 53, 47, 54, 55, 56, 48, 49, 50, 51] : List Nat) → f_68 b = f b) → (∀ κ : tk_K, κ.1 ∉ ([39, 42, 43, 44, 52, 45, 46, 53, 47, 54, 55, 56, 48, 49, 50, 51] : List Nat) → Γ_69 κ = Γ κ) → va_S A s.heap H locs → lv_has ls 3 [(0, .ref o), (1, .int p0)] → W p l e ((headSpec (tl_w yX12_text cX12_text 3 (some .int)) ({ frames := 11, cells := 0, slots := 0, locals := 243 })).room) s m #[.ref o, .int p0] below meth c H locs 0 0 (MQ below (va_Qi (fun (r : Int32) (u : (Nat → va_E) × tk_G) => tx_ok (u.2 (43, 8800, 0)) (u.2 (45, 1056, 0)) (u.2 (46, 22, 0)) (u.2 (47, 6, 0)) (u.2 (48, 22, 0)) (u.2 (49, 22, 0)) (u.2 (50, 22, 0)) (u.2 (51, 22, 0)) (u.2 (42, 3, 0)) ∧ (0 ≤ u.2 (39, 0, 0) 0 ∧ u.2 (39, 0, 0) 0 ≤ 400) ∧ Γ (42, 3, 0) 1 ≤ u.2 (42, 3, 0) 1) (tp_BG D cy L K Γ f [39, 42, 43, 44, 52, 45, 46, 53, 47, 54, 55, 56, 48, 49, 50, 51]) A) #[.ref o, .int p0] s 0 0 A) (F0 m 269 ls []) := by
              intro f_68 Γ_69  H locs ls hrg hrb htx9 q4 q00 hsBE hP hI hfr hgr hS hl
              have hD : va_D A (va_pl L f_68) := tp_D hL hAL
              have hjn305 : ∀ (f_70 : Nat → va_E) (Γ_71 : tk_G) (H : Heap) (locs : List Loc) (ls : Array Slot), (rg Γ Γ_71 t0) → (rb Γ_71 t0) → (Γ_71 (42, 3, 0) = Γ (42, 3, 0)) → (Γ_71 (39, 0, 0) 4 = t0) → (Γ_71 (39, 0, 0) 0 = 0) → (0 ≤ Γ_71 (48, 22, 0) t0.toNat) → (0 ≤ Γ_71 (49, 22, 0) t0.toNat) → va_P D vwCl (va_pl L f_70) H → tp_I cy L K Γ_71 f_70 → (∀ b, (K b).1 ∉ ([39, 42, 43, 44, 52, 45, 46, 53, 47, 54, 55, 56, 48, 49, 50, 51] : List Nat) → f_70 b = f b) → (∀ κ : tk_K, κ.1 ∉ ([39, 42, 43, 44, 52, 45, 46, 53, 47, 54, 55, 56, 48, 49, 50, 51] : List Nat) → Γ_71 κ = Γ κ) → va_S A s.heap H locs → lv_has ls 3 [(0, .ref o), (1, .int p0)] → W p l e ((headSpec (tl_w yX12_text cX12_text 3 (some .int)) ({ frames := 11, cells := 0, slots := 0, locals := 243 })).room) s m #[.ref o, .int p0] below meth c H locs 0 0 (MQ below (va_Qi (fun (r : Int32) (u : (Nat → va_E) × tk_G) => tx_ok (u.2 (43, 8800, 0)) (u.2 (45, 1056, 0)) (u.2 (46, 22, 0)) (u.2 (47, 6, 0)) (u.2 (48, 22, 0)) (u.2 (49, 22, 0)) (u.2 (50, 22, 0)) (u.2 (51, 22, 0)) (u.2 (42, 3, 0)) ∧ (0 ≤ u.2 (39, 0, 0) 0 ∧ u.2 (39, 0, 0) 0 ≤ 400) ∧ Γ (42, 3, 0) 1 ≤ u.2 (42, 3, 0) 1) (tp_BG D cy L K Γ f [39, 42, 43, 44, 52, 45, 46, 53, 47, 54, 55, 56, 48, 49, 50, 51]) A) #[.ref o, .int p0] s 0 0 A) (F0 m 305 ls []) := by
                intro f_70 Γ_71  H locs ls hrg hrb htx9 q4 q00 hsBE hsGF hP hI hfr hgr hS hl
                have hD : va_D A (va_pl L f_70) := tp_D hL hAL
                have hjn327 : ∀ (f_72 : Nat → va_E) (Γ_73 : tk_G) (H : Heap) (locs : List Loc) (ls : Array Slot), (rg Γ Γ_73 t0) → (rb Γ_73 t0) → (Γ_73 (42, 3, 0) = Γ (42, 3, 0)) → (Γ_73 (39, 0, 0) 4 = t0) → (Γ_73 (39, 0, 0) 0 = 0) → (0 ≤ Γ_73 (48, 22, 0) t0.toNat) → (0 ≤ Γ_73 (49, 22, 0) t0.toNat) → (0 ≤ Γ_73 (51, 22, 0) t0.toNat) → va_P D vwCl (va_pl L f_72) H → tp_I cy L K Γ_73 f_72 → (∀ b, (K b).1 ∉ ([39, 42, 43, 44, 52, 45, 46, 53, 47, 54, 55, 56, 48, 49, 50, 51] : List Nat) → f_72 b = f b) → (∀ κ : tk_K, κ.1 ∉ ([39, 42, 43, 44, 52, 45, 46, 53, 47, 54, 55, 56, 48, 49, 50, 51] : List Nat) → Γ_73 κ = Γ κ) → va_S A s.heap H locs → lv_has ls 3 [(0, .ref o), (1, .int p0)] → W p l e ((headSpec (tl_w yX12_text cX12_text 3 (some .int)) ({ frames := 11, cells := 0, slots := 0, locals := 243 })).room) s m #[.ref o, .int p0] below meth c H locs 0 0 (MQ below (va_Qi (fun (r : Int32) (u : (Nat → va_E) × tk_G) => tx_ok (u.2 (43, 8800, 0)) (u.2 (45, 1056, 0)) (u.2 (46, 22, 0)) (u.2 (47, 6, 0)) (u.2 (48, 22, 0)) (u.2 (49, 22, 0)) (u.2 (50, 22, 0)) (u.2 (51, 22, 0)) (u.2 (42, 3, 0)) ∧ (0 ≤ u.2 (39, 0, 0) 0 ∧ u.2 (39, 0, 0) 0 ≤ 400) ∧ Γ (42, 3, 0) 1 ≤ u.2 (42, 3, 0) 1) (tp_BG D cy L K Γ f [39, 42, 43, 44, 52, 45, 46, 53, 47, 54, 55, 56, 48, 49, 50, 51]) A) #[.ref o, .int p0] s 0 0 A) (F0 m 327 ls []) := by
                  intro f_72 Γ_73  H locs ls hrg hrb htx9 q4 q00 hsBE hsGF hsWI hP hI hfr hgr hS hl
                  have hD : va_D A (va_pl L f_72) := tp_D hL hAL
                  have htv := congrFun htx9 p0.toInt.toNat
                  refine lv_aload_n hx hb dX12_text_327 rfl (lv_at hl 0 rfl) ?_
                  obtain ⟨r_75, v_76, q_77, hf_74, hr_78, hv_79⟩ := (show tp_o_M L K 0 0 (Γ_73 (39, 0, 0)) (f_72 o) from hI.at ho)
                  have hx_80 : (v_76 0).toInt = Γ_73 (39, 0, 0) 0 := hv_79 0 (by decide)
                  have hx_81 : (v_76 1).toInt = Γ_73 (39, 0, 0) 1 := hv_79 1 (by decide)
                  have hx_82 : (v_76 2).toInt = Γ_73 (39, 0, 0) 2 := hv_79 2 (by decide)
                  have hx_83 : (v_76 4).toInt = Γ_73 (39, 0, 0) 4 := hv_79 4 (by decide)
                  have hx_84 : (v_76 5).toInt = Γ_73 (39, 0, 0) 5 := hv_79 5 (by decide)
                  have hx_85 : (v_76 7).toInt = Γ_73 (39, 0, 0) 7 := hv_79 7 (by decide)
                  refine tp_get (cy := cy) (ci := 12) (v := .ref (r_75 2)) (C := RX12) (T := TX12) (N := 49) hx hb hta inlX12 hown hK hP ho.1 hf_74 rfl 3 (by decide) (hta _ wk_152) (fun _ h9 => h9) rfl dX12_text_328 ?_
                  refine lv_iload_n hx hb dX12_text_331 rfl (lv_at hl 1 rfl) ?_
                  refine lv_dup2_11 hx hb dX12_text_332 rfl rfl ?_
                  obtain ⟨g_87, hf_86, hg_88⟩ := (show tp_gi cy (3) (Γ_73 (42, 3, 0)) (f_72 (r_75 2)) from hI.at (show tp_r L K 42 3 0 (r_75 2) from hr_78 2 (by decide)))
                  have hn_89 : vp_in p0 (3) := tl_in (by omega) (by omega)
                  refine tp_iald (cy := cy) hx hb hK hP (show tp_r L K 42 3 0 (r_75 2) from hr_78 2 (by decide)).1 hf_86 hn_89 dX12_text_333 ?_
                  refine lv_topi (fun z_90 ez_90 => ?_)
                  have iz_90 : z_90.toInt = Γ_73 (42, 3, 0) p0.toInt.toNat := by rw [ez_90]; exact hg_88 _ (tp_pin hn_89)
                  refine lv_iconst (v := 1) hx hb dX12_text_334 (by decide) ?_
                  refine lv_iadd hx hb dX12_text_335 ?_
                  refine lv_topi (fun z_91 ez_91 => ?_)
                  try have iz_91 : z_91.toInt = z_90.toInt + (1 : Int) := by rw [ez_91]; exact tl_addN z_90 1 rfl rfl (by omega) (by omega)
                  have hn_92 : vp_in p0 (3) := tl_in (by omega) (by omega)
                  have hj_93 : p0.toNatClampNeg = p0.toInt.toNat := by show p0.toInt.toNat = _; omega
                  have hv_94 : z_91.toInt = Γ (42, 3, 0) p0.toInt.toNat + 1 := by omega
                  obtain ⟨Γ_95, eΓ_95⟩ : ∃ y : tk_G, y = tg Γ_73 (42, 3, 0) p0.toInt.toNat (Γ (42, 3, 0) p0.toInt.toNat + 1) := ⟨_, rfl⟩
                  have hI9 : tp_I cy L K Γ_95 (va_up f_72 (r_75 2) (.inl (cy 0, 3, .inl (upd g_87 p0.toNatClampNeg z_91)))) := by have q9 : tg Γ_73 (42, 3, 0) p0.toInt.toNat (Γ (42, 3, 0) p0.toInt.toNat + 1) = tg Γ_73 (42, 3, 0) p0.toNatClampNeg z_91.toInt := (by rw [hj_93, hv_94]); rw [eΓ_95, q9]; exact hI.setg hU rfl (show tp_r L K 42 3 0 (r_75 2) from hr_78 2 (by decide)) (show tp_gi cy (3) (tgu (Γ_73 (42, 3, 0)) _ _) _ from ⟨_, rfl, tp_gi_upd hg_88⟩)
                  have hfr9 : ∀ b, (K b).1 ∉ ([39, 42, 43, 44, 52, 45, 46, 53, 47, 54, 55, 56, 48, 49, 50, 51] : List Nat) → va_up f_72 (r_75 2) (.inl (cy 0, 3, .inl (upd g_87 p0.toNatClampNeg z_91))) b = f b := tp_fr hfr (show tp_r L K 42 3 0 (r_75 2) from hr_78 2 (by decide)) (by decide)
                  refine tp_iast (cy := cy) hx hb hK hP hD hS (show tp_r L K 42 3 0 (r_75 2) from hr_78 2 (by decide)).1 hf_86 hn_92 dX12_text_336 (fun H locs hP hD hS => ?_)
                  have hP : va_P D vwCl (va_pl L (va_up f_72 (r_75 2) (.inl (cy 0, 3, .inl (upd g_87 p0.toNatClampNeg z_91))))) H := hP
                  generalize hfe : va_up f_72 (r_75 2) (.inl (cy 0, 3, .inl (upd g_87 p0.toNatClampNeg z_91))) = f_96 at hP hI9 hfr9
                  have hD : va_D A (va_pl L f_96) := tp_D hL hAL
                  have hf_97 := (show f_96 o = _ from by rw [← hfe, va_up_ne _ _ (tp_ne ho (show tp_r L K 42 3 0 (r_75 2) from hr_78 2 (by decide)) (by decide))]).trans hf_74
                  have hf_98 : f_96 (r_75 2) = .inl (cy 0, 3, .inl (upd g_87 p0.toNatClampNeg z_91)) := by rw [← hfe]; exact va_up_self _ _ _
                  clear hfe
                  have hI := hI9
                  have hfr := hfr9
                  clear hI9 hfr9
                  clear hj_93 hv_94
                  have wxΓ_95_MLEN : Γ_95 (44, 22, 0) t0.toNat = Γ_73 (44, 22, 0) t0.toNat := by rw [eΓ_95, tg_r (by decide)]
                  have wxΓ_95_MCLS : Γ_95 (46, 22, 0) t0.toNat = Γ_73 (46, 22, 0) t0.toNat := by rw [eΓ_95, tg_r (by decide)]
                  have wxΓ_95_EATERS : Γ_95 (47, 6, 0) t0.toNat = Γ_73 (47, 6, 0) t0.toNat := by rw [eΓ_95, tg_r (by decide)]
                  have wxΓ_95_MBENDS : Γ_95 (48, 22, 0) t0.toNat = Γ_73 (48, 22, 0) t0.toNat := by rw [eΓ_95, tg_r (by decide)]
                  have wxΓ_95_GFROM : Γ_95 (49, 22, 0) t0.toNat = Γ_73 (49, 22, 0) t0.toNat := by rw [eΓ_95, tg_r (by decide)]
                  have wxΓ_95_GTO : Γ_95 (50, 22, 0) t0.toNat = Γ_73 (50, 22, 0) t0.toNat := by rw [eΓ_95, tg_r (by decide)]
                  have wxΓ_95_MWIDE : Γ_95 (51, 22, 0) t0.toNat = Γ_73 (51, 22, 0) t0.toNat := by rw [eΓ_95, tg_r (by decide)]
                  have wsΓ_95 : Γ_95 (42, 3, 0) p0.toInt.toNat = Γ (42, 3, 0) p0.toInt.toNat + 1 := by rw [eΓ_95]; exact tg_s
                  have hrg : rg Γ Γ_95 t0 := hrg.trans (rg_tx eΓ_95 (by decide))
                  have hrb : rb Γ_95 t0 := rb_tx hrb eΓ_95 (by decide)
                  have htx8 : Γ_95 (42, 3, 0) = tgu (Γ (42, 3, 0)) p0.toInt.toNat (Γ (42, 3, 0) p0.toInt.toNat + 1) := by rw [eΓ_95, tg_f, htx9]
                  have hgr : ∀ κ : tk_K, κ.1 ∉ ([39, 42, 43, 44, 52, 45, 46, 53, 47, 54, 55, 56, 48, 49, 50, 51] : List Nat) → Γ_95 κ = Γ κ := tg_fr hgr eΓ_95 (by decide)
                  have hv_99 : ∀ i : Nat, i < 16 → (v_76 i).toInt = Γ_95 (39, 0, 0) i := fun i hi => by rw [eΓ_95, tg_r (by decide)]; exact hv_79 i hi
                  have hx_100 : (v_76 0).toInt = Γ_95 (39, 0, 0) 0 := hv_99 0 (by decide)
                  have hx_101 : (v_76 1).toInt = Γ_95 (39, 0, 0) 1 := hv_99 1 (by decide)
                  have hx_102 : (v_76 2).toInt = Γ_95 (39, 0, 0) 2 := hv_99 2 (by decide)
                  have hx_103 : (v_76 4).toInt = Γ_95 (39, 0, 0) 4 := hv_99 4 (by decide)
                  have hx_104 : (v_76 5).toInt = Γ_95 (39, 0, 0) 5 := hv_99 5 (by decide)
                  have hx_105 : (v_76 7).toInt = Γ_95 (39, 0, 0) 7 := hv_99 7 (by decide)
                  refine lv_aload_n hx hb dX12_text_337 rfl (lv_at hl 0 rfl) ?_
                  refine tp_get (cy := cy) (ci := 12) (v := .ref (r_75 2)) (C := RX12) (T := TX12) (N := 49) hx hb hta inlX12 hown hK hP ho.1 hf_97 rfl 3 (by decide) (hta _ wk_152) (fun _ h9 => h9) rfl dX12_text_338 ?_
                  refine lv_iload_n hx hb dX12_text_341 rfl (lv_at hl 1 rfl) ?_
                  obtain ⟨g_107, hf_106, hg_108⟩ := (show tp_gi cy (3) (Γ_95 (42, 3, 0)) (f_96 (r_75 2)) from hI.at (show tp_r L K 42 3 0 (r_75 2) from hr_78 2 (by decide)))
                  have hn_109 : vp_in p0 (3) := tl_in (by omega) (by omega)
                  refine tp_iald (cy := cy) hx hb hK hP (show tp_r L K 42 3 0 (r_75 2) from hr_78 2 (by decide)).1 hf_106 hn_109 dX12_text_342 ?_
                  refine lv_topi (fun z_110 ez_110 => ?_)
                  have iz_110 : z_110.toInt = Γ_95 (42, 3, 0) p0.toInt.toNat := by rw [ez_110]; exact hg_108 _ (tp_pin hn_109)
                  refine lv_iconst (v := 1) hx hb dX12_text_343 (by decide) ?_
                  refine lv_isub hx hb dX12_text_344 ?_
                  refine lv_topi (fun z_111 ez_111 => ?_)
                  try have iz_111 : z_111.toInt = z_110.toInt - (1 : Int) := by rw [ez_111]; exact tl_subN z_110 1 rfl rfl (by omega) (by omega)
                  have hpo9 : tx_ok (Γ_95 (43, 8800, 0)) (Γ_95 (45, 1056, 0)) (Γ_95 (46, 22, 0)) (Γ_95 (47, 6, 0)) (Γ_95 (48, 22, 0)) (Γ_95 (49, 22, 0)) (Γ_95 (50, 22, 0)) (Γ_95 (51, 22, 0)) (Γ_95 (42, 3, 0)) ∧ (0 ≤ Γ_95 (39, 0, 0) 0 ∧ Γ_95 (39, 0, 0) 0 ≤ 400) ∧ Γ (42, 3, 0) 1 ≤ Γ_95 (42, 3, 0) 1 := ⟨(by rw [htx8]; exact tx_add htx hrg hrb ⟨by omega, by omega, by omega⟩ hps), (by omega), (by rw [htx8]; exact tx_grow hps)⟩
                  exact W.iret (v := z_111) hx hb hr (fun t ht hW => ⟨⟨_, (f_96, Γ_95), rfl, hpo9, by rw [ht]; exact hP, hI, hfr, hgr⟩, hS.F ht⟩) hS.2.2 dX12_text_345
                refine lv_aload_n hx hb dX12_text_305 rfl (lv_at hl 0 rfl) ?_
                obtain ⟨r_113, v_114, q_115, hf_112, hr_116, hv_117⟩ := (show tp_o_M L K 0 0 (Γ_71 (39, 0, 0)) (f_70 o) from hI.at ho)
                have hx_118 : (v_114 0).toInt = Γ_71 (39, 0, 0) 0 := hv_117 0 (by decide)
                have hx_119 : (v_114 1).toInt = Γ_71 (39, 0, 0) 1 := hv_117 1 (by decide)
                have hx_120 : (v_114 2).toInt = Γ_71 (39, 0, 0) 2 := hv_117 2 (by decide)
                have hx_121 : (v_114 4).toInt = Γ_71 (39, 0, 0) 4 := hv_117 4 (by decide)
                have hx_122 : (v_114 5).toInt = Γ_71 (39, 0, 0) 5 := hv_117 5 (by decide)
                have hx_123 : (v_114 7).toInt = Γ_71 (39, 0, 0) 7 := hv_117 7 (by decide)
                refine tp_get (cy := cy) (ci := 12) (v := .ref (r_113 15)) (C := RX12) (T := TX12) (N := 49) hx hb hta inlX12 hown hK hP ho.1 hf_112 rfl 16 (by decide) (hta _ wk_165) (fun _ h9 => h9) rfl dX12_text_306 ?_
                refine lv_aload_n hx hb dX12_text_309 rfl (lv_at hl 0 rfl) ?_
                refine tp_get (cy := cy) (ci := 12) (v := .int (v_114 4)) (C := RX12) (T := TX12) (N := 49) hx hb hta inlX12 hown hK hP ho.1 hf_112 rfl 20 (by decide) (hta _ wk_537) (fun _ h9 => h9) rfl dX12_text_310 ?_
                obtain ⟨g_125, hf_124, hg_126⟩ := (show tp_gi cy (22) (Γ_71 (51, 22, 0)) (f_70 (r_113 15)) from hI.at (show tp_r L K 51 22 0 (r_113 15) from hr_116 15 (by decide)))
                have hn_127 : vp_in (v_114 4) (22) := tl_in (by omega) (by omega)
                refine tp_iald (cy := cy) hx hb hK hP (show tp_r L K 51 22 0 (r_113 15) from hr_116 15 (by decide)).1 hf_124 hn_127 dX12_text_313 ?_
                refine lv_topi (fun z_128 ez_128 => ?_)
                have iz_128 : z_128.toInt = Γ_71 (51, 22, 0) (v_114 4).toInt.toNat := by rw [ez_128]; exact hg_126 _ (tp_pin hn_127)
                have jz_128 : z_128.toInt = Γ_71 (51, 22, 0) (Γ_71 (39, 0, 0) 4).toNat := by rw [← hx_121]; exact iz_128
                have kz_128 : z_128.toInt = Γ_71 (51, 22, 0) t0.toNat := iz_128.trans (congrArg _ (by omega))
                refine lv_if_ge (tgt := 327) hx hb dX12_text_314 (by decide) (fun c_129 => ?_) (fun c_129 => ?_)
                · have c_129 : (0 : Int) ≤ z_128.toInt := tl_le c_129
                  exact hjn327 f_70 Γ_71  H locs ls (show rg Γ Γ_71 t0 from hrg) (show rb Γ_71 t0 from hrb) (show Γ_71 (42, 3, 0) = Γ (42, 3, 0) from htx9) (show Γ_71 (39, 0, 0) 4 = t0 from (by omega)) (show Γ_71 (39, 0, 0) 0 = 0 from (by omega)) (show 0 ≤ Γ_71 (48, 22, 0) t0.toNat from (by omega)) (show 0 ≤ Γ_71 (49, 22, 0) t0.toNat from (by omega)) (show 0 ≤ Γ_71 (51, 22, 0) t0.toNat from (by omega)) hP hI hfr hgr hS (lv_sub hl [0, 1] rfl)
                · have c_129 : z_128.toInt < (0 : Int) := tl_nle c_129
                  refine lv_aload_n hx hb dX12_text_317 rfl (lv_at hl 0 rfl) ?_
                  refine tp_get (cy := cy) (ci := 12) (v := .ref (r_113 15)) (C := RX12) (T := TX12) (N := 49) hx hb hta inlX12 hown hK hP ho.1 hf_112 rfl 16 (by decide) (hta _ wk_165) (fun _ h9 => h9) rfl dX12_text_318 ?_
                  refine lv_aload_n hx hb dX12_text_321 rfl (lv_at hl 0 rfl) ?_
                  refine tp_get (cy := cy) (ci := 12) (v := .int (v_114 4)) (C := RX12) (T := TX12) (N := 49) hx hb hta inlX12 hown hK hP ho.1 hf_112 rfl 20 (by decide) (hta _ wk_537) (fun _ h9 => h9) rfl dX12_text_322 ?_
                  refine lv_iconst (v := 3) hx hb dX12_text_325 (by decide) ?_
                  have hn_130 : vp_in (v_114 4) (22) := tl_in (by omega) (by omega)
                  have hj_131 : (v_114 4).toNatClampNeg = t0.toNat := by show (v_114 4).toInt.toNat = _; omega
                  have hv_132 : (3 : Int32).toInt = (3 : Int) := by decide
                  obtain ⟨Γ_133, eΓ_133⟩ : ∃ y : tk_G, y = tg Γ_71 (51, 22, 0) t0.toNat (3 : Int) := ⟨_, rfl⟩
                  have hI9 : tp_I cy L K Γ_133 (va_up f_70 (r_113 15) (.inl (cy 0, 22, .inl (upd g_125 (v_114 4).toNatClampNeg 3)))) := by have q9 : tg Γ_71 (51, 22, 0) t0.toNat (3 : Int) = tg Γ_71 (51, 22, 0) (v_114 4).toNatClampNeg (3 : Int32).toInt := (by rw [hj_131, hv_132]); rw [eΓ_133, q9]; exact hI.setg hU rfl (show tp_r L K 51 22 0 (r_113 15) from hr_116 15 (by decide)) (show tp_gi cy (22) (tgu (Γ_71 (51, 22, 0)) _ _) _ from ⟨_, rfl, tp_gi_upd hg_126⟩)
                  have hfr9 : ∀ b, (K b).1 ∉ ([39, 42, 43, 44, 52, 45, 46, 53, 47, 54, 55, 56, 48, 49, 50, 51] : List Nat) → va_up f_70 (r_113 15) (.inl (cy 0, 22, .inl (upd g_125 (v_114 4).toNatClampNeg 3))) b = f b := tp_fr hfr (show tp_r L K 51 22 0 (r_113 15) from hr_116 15 (by decide)) (by decide)
                  refine tp_iast (cy := cy) hx hb hK hP hD hS (show tp_r L K 51 22 0 (r_113 15) from hr_116 15 (by decide)).1 hf_124 hn_130 dX12_text_326 (fun H locs hP hD hS => ?_)
                  have hP : va_P D vwCl (va_pl L (va_up f_70 (r_113 15) (.inl (cy 0, 22, .inl (upd g_125 (v_114 4).toNatClampNeg 3))))) H := hP
                  generalize hfe : va_up f_70 (r_113 15) (.inl (cy 0, 22, .inl (upd g_125 (v_114 4).toNatClampNeg 3))) = f_134 at hP hI9 hfr9
                  have hD : va_D A (va_pl L f_134) := tp_D hL hAL
                  have hf_135 := (show f_134 o = _ from by rw [← hfe, va_up_ne _ _ (tp_ne ho (show tp_r L K 51 22 0 (r_113 15) from hr_116 15 (by decide)) (by decide))]).trans hf_112
                  have hf_136 : f_134 (r_113 15) = .inl (cy 0, 22, .inl (upd g_125 (v_114 4).toNatClampNeg 3)) := by rw [← hfe]; exact va_up_self _ _ _
                  clear hfe
                  have hI := hI9
                  have hfr := hfr9
                  clear hI9 hfr9
                  clear hj_131 hv_132
                  have wxΓ_133_MLEN : Γ_133 (44, 22, 0) t0.toNat = Γ_71 (44, 22, 0) t0.toNat := by rw [eΓ_133, tg_r (by decide)]
                  have wxΓ_133_MCLS : Γ_133 (46, 22, 0) t0.toNat = Γ_71 (46, 22, 0) t0.toNat := by rw [eΓ_133, tg_r (by decide)]
                  have wxΓ_133_EATERS : Γ_133 (47, 6, 0) t0.toNat = Γ_71 (47, 6, 0) t0.toNat := by rw [eΓ_133, tg_r (by decide)]
                  have wxΓ_133_MBENDS : Γ_133 (48, 22, 0) t0.toNat = Γ_71 (48, 22, 0) t0.toNat := by rw [eΓ_133, tg_r (by decide)]
                  have wxΓ_133_GFROM : Γ_133 (49, 22, 0) t0.toNat = Γ_71 (49, 22, 0) t0.toNat := by rw [eΓ_133, tg_r (by decide)]
                  have wxΓ_133_GTO : Γ_133 (50, 22, 0) t0.toNat = Γ_71 (50, 22, 0) t0.toNat := by rw [eΓ_133, tg_r (by decide)]
                  have wsΓ_133 : Γ_133 (51, 22, 0) t0.toNat = (3 : Int) := by rw [eΓ_133]; exact tg_s
                  have hrg : rg Γ Γ_133 t0 := hrg.put (by omega) eΓ_133 (by decide) (by decide)
                  have htx9 : Γ_133 (42, 3, 0) = Γ (42, 3, 0) := (show Γ_133 (42, 3, 0) = _ from by rw [eΓ_133, tg_rf (by decide)]).trans htx9
                  have hrb : rb Γ_133 t0 := hrb.put eΓ_133 (by decide) (fun _ => by first | omega | contradiction) (fun _ => by first | omega | contradiction) (fun _ => by first | omega | contradiction) (fun _ => by first | omega | contradiction)
                  have hgr : ∀ κ : tk_K, κ.1 ∉ ([39, 42, 43, 44, 52, 45, 46, 53, 47, 54, 55, 56, 48, 49, 50, 51] : List Nat) → Γ_133 κ = Γ κ := tg_fr hgr eΓ_133 (by decide)
                  have hv_137 : ∀ i : Nat, i < 16 → (v_114 i).toInt = Γ_133 (39, 0, 0) i := fun i hi => by rw [eΓ_133, tg_r (by decide)]; exact hv_117 i hi
                  have hx_138 : (v_114 0).toInt = Γ_133 (39, 0, 0) 0 := hv_137 0 (by decide)
                  have hx_139 : (v_114 1).toInt = Γ_133 (39, 0, 0) 1 := hv_137 1 (by decide)
                  have hx_140 : (v_114 2).toInt = Γ_133 (39, 0, 0) 2 := hv_137 2 (by decide)
                  have hx_141 : (v_114 4).toInt = Γ_133 (39, 0, 0) 4 := hv_137 4 (by decide)
                  have hx_142 : (v_114 5).toInt = Γ_133 (39, 0, 0) 5 := hv_137 5 (by decide)
                  have hx_143 : (v_114 7).toInt = Γ_133 (39, 0, 0) 7 := hv_137 7 (by decide)
                  exact hjn327 f_134 Γ_133  H locs ls (show rg Γ Γ_133 t0 from hrg) (show rb Γ_133 t0 from hrb) (show Γ_133 (42, 3, 0) = Γ (42, 3, 0) from htx9) (show Γ_133 (39, 0, 0) 4 = t0 from (by omega)) (show Γ_133 (39, 0, 0) 0 = 0 from (by omega)) (show 0 ≤ Γ_133 (48, 22, 0) t0.toNat from (by omega)) (show 0 ≤ Γ_133 (49, 22, 0) t0.toNat from (by omega)) (show 0 ≤ Γ_133 (51, 22, 0) t0.toNat from (by omega)) hP hI hfr hgr hS (lv_sub hl [0, 1] rfl)
              refine lv_aload_n hx hb dX12_text_269 rfl (lv_at hl 0 rfl) ?_
              obtain ⟨r_145, v_146, q_147, hf_144, hr_148, hv_149⟩ := (show tp_o_M L K 0 0 (Γ_69 (39, 0, 0)) (f_68 o) from hI.at ho)
              have hx_150 : (v_146 0).toInt = Γ_69 (39, 0, 0) 0 := hv_149 0 (by decide)
              have hx_151 : (v_146 1).toInt = Γ_69 (39, 0, 0) 1 := hv_149 1 (by decide)
              have hx_152 : (v_146 2).toInt = Γ_69 (39, 0, 0) 2 := hv_149 2 (by decide)
              have hx_153 : (v_146 4).toInt = Γ_69 (39, 0, 0) 4 := hv_149 4 (by decide)
              have hx_154 : (v_146 5).toInt = Γ_69 (39, 0, 0) 5 := hv_149 5 (by decide)
              have hx_155 : (v_146 7).toInt = Γ_69 (39, 0, 0) 7 := hv_149 7 (by decide)
              refine tp_get (cy := cy) (ci := 12) (v := .ref (r_145 13)) (C := RX12) (T := TX12) (N := 49) hx hb hta inlX12 hown hK hP ho.1 hf_144 rfl 14 (by decide) (hta _ wk_163) (fun _ h9 => h9) rfl dX12_text_270 ?_
              refine lv_aload_n hx hb dX12_text_273 rfl (lv_at hl 0 rfl) ?_
              refine tp_get (cy := cy) (ci := 12) (v := .int (v_146 4)) (C := RX12) (T := TX12) (N := 49) hx hb hta inlX12 hown hK hP ho.1 hf_144 rfl 20 (by decide) (hta _ wk_537) (fun _ h9 => h9) rfl dX12_text_274 ?_
              obtain ⟨g_157, hf_156, hg_158⟩ := (show tp_gi cy (22) (Γ_69 (49, 22, 0)) (f_68 (r_145 13)) from hI.at (show tp_r L K 49 22 0 (r_145 13) from hr_148 13 (by decide)))
              have hn_159 : vp_in (v_146 4) (22) := tl_in (by omega) (by omega)
              refine tp_iald (cy := cy) hx hb hK hP (show tp_r L K 49 22 0 (r_145 13) from hr_148 13 (by decide)).1 hf_156 hn_159 dX12_text_277 ?_
              refine lv_topi (fun z_160 ez_160 => ?_)
              have iz_160 : z_160.toInt = Γ_69 (49, 22, 0) (v_146 4).toInt.toNat := by rw [ez_160]; exact hg_158 _ (tp_pin hn_159)
              have jz_160 : z_160.toInt = Γ_69 (49, 22, 0) (Γ_69 (39, 0, 0) 4).toNat := by rw [← hx_153]; exact iz_160
              have kz_160 : z_160.toInt = Γ_69 (49, 22, 0) t0.toNat := iz_160.trans (congrArg _ (by omega))
              refine lv_if_ge (tgt := 305) hx hb dX12_text_278 (by decide) (fun c_161 => ?_) (fun c_161 => ?_)
              · have c_161 : (0 : Int) ≤ z_160.toInt := tl_le c_161
                exact hjn305 f_68 Γ_69  H locs ls (show rg Γ Γ_69 t0 from hrg) (show rb Γ_69 t0 from hrb) (show Γ_69 (42, 3, 0) = Γ (42, 3, 0) from htx9) (show Γ_69 (39, 0, 0) 4 = t0 from (by omega)) (show Γ_69 (39, 0, 0) 0 = 0 from (by omega)) (show 0 ≤ Γ_69 (48, 22, 0) t0.toNat from (by omega)) (show 0 ≤ Γ_69 (49, 22, 0) t0.toNat from (by omega)) hP hI hfr hgr hS (lv_sub hl [0, 1] rfl)
              · have c_161 : z_160.toInt < (0 : Int) := tl_nle c_161
                refine lv_aload_n hx hb dX12_text_281 rfl (lv_at hl 0 rfl) ?_
                refine tp_get (cy := cy) (ci := 12) (v := .ref (r_145 13)) (C := RX12) (T := TX12) (N := 49) hx hb hta inlX12 hown hK hP ho.1 hf_144 rfl 14 (by decide) (hta _ wk_163) (fun _ h9 => h9) rfl dX12_text_282 ?_
                refine lv_aload_n hx hb dX12_text_285 rfl (lv_at hl 0 rfl) ?_
                refine tp_get (cy := cy) (ci := 12) (v := .int (v_146 4)) (C := RX12) (T := TX12) (N := 49) hx hb hta inlX12 hown hK hP ho.1 hf_144 rfl 20 (by decide) (hta _ wk_537) (fun _ h9 => h9) rfl dX12_text_286 ?_
                refine lv_sipush (v := 140) hx hb dX12_text_289 (by decide) ?_
                have hn_162 : vp_in (v_146 4) (22) := tl_in (by omega) (by omega)
                have hj_163 : (v_146 4).toNatClampNeg = t0.toNat := by show (v_146 4).toInt.toNat = _; omega
                have hv_164 : (140 : Int32).toInt = (140 : Int) := by decide
                obtain ⟨Γ_165, eΓ_165⟩ : ∃ y : tk_G, y = tg Γ_69 (49, 22, 0) t0.toNat (140 : Int) := ⟨_, rfl⟩
                have hI9 : tp_I cy L K Γ_165 (va_up f_68 (r_145 13) (.inl (cy 0, 22, .inl (upd g_157 (v_146 4).toNatClampNeg 140)))) := by have q9 : tg Γ_69 (49, 22, 0) t0.toNat (140 : Int) = tg Γ_69 (49, 22, 0) (v_146 4).toNatClampNeg (140 : Int32).toInt := (by rw [hj_163, hv_164]); rw [eΓ_165, q9]; exact hI.setg hU rfl (show tp_r L K 49 22 0 (r_145 13) from hr_148 13 (by decide)) (show tp_gi cy (22) (tgu (Γ_69 (49, 22, 0)) _ _) _ from ⟨_, rfl, tp_gi_upd hg_158⟩)
                have hfr9 : ∀ b, (K b).1 ∉ ([39, 42, 43, 44, 52, 45, 46, 53, 47, 54, 55, 56, 48, 49, 50, 51] : List Nat) → va_up f_68 (r_145 13) (.inl (cy 0, 22, .inl (upd g_157 (v_146 4).toNatClampNeg 140))) b = f b := tp_fr hfr (show tp_r L K 49 22 0 (r_145 13) from hr_148 13 (by decide)) (by decide)
                refine tp_iast (cy := cy) hx hb hK hP hD hS (show tp_r L K 49 22 0 (r_145 13) from hr_148 13 (by decide)).1 hf_156 hn_162 dX12_text_292 (fun H locs hP hD hS => ?_)
                have hP : va_P D vwCl (va_pl L (va_up f_68 (r_145 13) (.inl (cy 0, 22, .inl (upd g_157 (v_146 4).toNatClampNeg 140))))) H := hP
                generalize hfe : va_up f_68 (r_145 13) (.inl (cy 0, 22, .inl (upd g_157 (v_146 4).toNatClampNeg 140))) = f_166 at hP hI9 hfr9
                have hD : va_D A (va_pl L f_166) := tp_D hL hAL
                have hf_167 := (show f_166 o = _ from by rw [← hfe, va_up_ne _ _ (tp_ne ho (show tp_r L K 49 22 0 (r_145 13) from hr_148 13 (by decide)) (by decide))]).trans hf_144
                have hf_168 : f_166 (r_145 13) = .inl (cy 0, 22, .inl (upd g_157 (v_146 4).toNatClampNeg 140)) := by rw [← hfe]; exact va_up_self _ _ _
                clear hfe
                have hI := hI9
                have hfr := hfr9
                clear hI9 hfr9
                clear hj_163 hv_164
                have wxΓ_165_MLEN : Γ_165 (44, 22, 0) t0.toNat = Γ_69 (44, 22, 0) t0.toNat := by rw [eΓ_165, tg_r (by decide)]
                have wxΓ_165_MCLS : Γ_165 (46, 22, 0) t0.toNat = Γ_69 (46, 22, 0) t0.toNat := by rw [eΓ_165, tg_r (by decide)]
                have wxΓ_165_EATERS : Γ_165 (47, 6, 0) t0.toNat = Γ_69 (47, 6, 0) t0.toNat := by rw [eΓ_165, tg_r (by decide)]
                have wxΓ_165_MBENDS : Γ_165 (48, 22, 0) t0.toNat = Γ_69 (48, 22, 0) t0.toNat := by rw [eΓ_165, tg_r (by decide)]
                have wxΓ_165_GTO : Γ_165 (50, 22, 0) t0.toNat = Γ_69 (50, 22, 0) t0.toNat := by rw [eΓ_165, tg_r (by decide)]
                have wxΓ_165_MWIDE : Γ_165 (51, 22, 0) t0.toNat = Γ_69 (51, 22, 0) t0.toNat := by rw [eΓ_165, tg_r (by decide)]
                have wsΓ_165 : Γ_165 (49, 22, 0) t0.toNat = (140 : Int) := by rw [eΓ_165]; exact tg_s
                have hrg : rg Γ Γ_165 t0 := hrg.put (by omega) eΓ_165 (by decide) (by decide)
                have htx9 : Γ_165 (42, 3, 0) = Γ (42, 3, 0) := (show Γ_165 (42, 3, 0) = _ from by rw [eΓ_165, tg_rf (by decide)]).trans htx9
                have hrb : rb Γ_165 t0 := hrb.put eΓ_165 (by decide) (fun _ => by first | omega | contradiction) (fun _ => by first | omega | contradiction) (fun _ => by first | omega | contradiction) (fun _ => by first | omega | contradiction)
                have hgr : ∀ κ : tk_K, κ.1 ∉ ([39, 42, 43, 44, 52, 45, 46, 53, 47, 54, 55, 56, 48, 49, 50, 51] : List Nat) → Γ_165 κ = Γ κ := tg_fr hgr eΓ_165 (by decide)
                have hv_169 : ∀ i : Nat, i < 16 → (v_146 i).toInt = Γ_165 (39, 0, 0) i := fun i hi => by rw [eΓ_165, tg_r (by decide)]; exact hv_149 i hi
                have hx_170 : (v_146 0).toInt = Γ_165 (39, 0, 0) 0 := hv_169 0 (by decide)
                have hx_171 : (v_146 1).toInt = Γ_165 (39, 0, 0) 1 := hv_169 1 (by decide)
                have hx_172 : (v_146 2).toInt = Γ_165 (39, 0, 0) 2 := hv_169 2 (by decide)
                have hx_173 : (v_146 4).toInt = Γ_165 (39, 0, 0) 4 := hv_169 4 (by decide)
                have hx_174 : (v_146 5).toInt = Γ_165 (39, 0, 0) 5 := hv_169 5 (by decide)
                have hx_175 : (v_146 7).toInt = Γ_165 (39, 0, 0) 7 := hv_169 7 (by decide)
                refine lv_aload_n hx hb dX12_text_293 rfl (lv_at hl 0 rfl) ?_
                refine tp_get (cy := cy) (ci := 12) (v := .ref (r_145 14)) (C := RX12) (T := TX12) (N := 49) hx hb hta inlX12 hown hK hP ho.1 hf_167 rfl 15 (by decide) (hta _ wk_164) (fun _ h9 => h9) rfl dX12_text_294 ?_
                refine lv_aload_n hx hb dX12_text_297 rfl (lv_at hl 0 rfl) ?_
                refine tp_get (cy := cy) (ci := 12) (v := .int (v_146 4)) (C := RX12) (T := TX12) (N := 49) hx hb hta inlX12 hown hK hP ho.1 hf_167 rfl 20 (by decide) (hta _ wk_537) (fun _ h9 => h9) rfl dX12_text_298 ?_
                refine lv_sipush (v := 159) hx hb dX12_text_301 (by decide) ?_
                obtain ⟨g_177, hf_176, hg_178⟩ := (show tp_gi cy (22) (Γ_165 (50, 22, 0)) (f_166 (r_145 14)) from hI.at (show tp_r L K 50 22 0 (r_145 14) from hr_148 14 (by decide)))
                have hn_179 : vp_in (v_146 4) (22) := tl_in (by omega) (by omega)
                have hj_180 : (v_146 4).toNatClampNeg = t0.toNat := by show (v_146 4).toInt.toNat = _; omega
                have hv_181 : (159 : Int32).toInt = (159 : Int) := by decide
                obtain ⟨Γ_182, eΓ_182⟩ : ∃ y : tk_G, y = tg Γ_165 (50, 22, 0) t0.toNat (159 : Int) := ⟨_, rfl⟩
                have hI9 : tp_I cy L K Γ_182 (va_up f_166 (r_145 14) (.inl (cy 0, 22, .inl (upd g_177 (v_146 4).toNatClampNeg 159)))) := by have q9 : tg Γ_165 (50, 22, 0) t0.toNat (159 : Int) = tg Γ_165 (50, 22, 0) (v_146 4).toNatClampNeg (159 : Int32).toInt := (by rw [hj_180, hv_181]); rw [eΓ_182, q9]; exact hI.setg hU rfl (show tp_r L K 50 22 0 (r_145 14) from hr_148 14 (by decide)) (show tp_gi cy (22) (tgu (Γ_165 (50, 22, 0)) _ _) _ from ⟨_, rfl, tp_gi_upd hg_178⟩)
                have hfr9 : ∀ b, (K b).1 ∉ ([39, 42, 43, 44, 52, 45, 46, 53, 47, 54, 55, 56, 48, 49, 50, 51] : List Nat) → va_up f_166 (r_145 14) (.inl (cy 0, 22, .inl (upd g_177 (v_146 4).toNatClampNeg 159))) b = f b := tp_fr hfr (show tp_r L K 50 22 0 (r_145 14) from hr_148 14 (by decide)) (by decide)
                refine tp_iast (cy := cy) hx hb hK hP hD hS (show tp_r L K 50 22 0 (r_145 14) from hr_148 14 (by decide)).1 hf_176 hn_179 dX12_text_304 (fun H locs hP hD hS => ?_)
                have hP : va_P D vwCl (va_pl L (va_up f_166 (r_145 14) (.inl (cy 0, 22, .inl (upd g_177 (v_146 4).toNatClampNeg 159))))) H := hP
                generalize hfe : va_up f_166 (r_145 14) (.inl (cy 0, 22, .inl (upd g_177 (v_146 4).toNatClampNeg 159))) = f_183 at hP hI9 hfr9
                have hD : va_D A (va_pl L f_183) := tp_D hL hAL
                have hf_184 := (show f_183 o = _ from by rw [← hfe, va_up_ne _ _ (tp_ne ho (show tp_r L K 50 22 0 (r_145 14) from hr_148 14 (by decide)) (by decide))]).trans hf_167
                have hf_185 : f_183 (r_145 14) = .inl (cy 0, 22, .inl (upd g_177 (v_146 4).toNatClampNeg 159)) := by rw [← hfe]; exact va_up_self _ _ _
                clear hfe
                have hI := hI9
                have hfr := hfr9
                clear hI9 hfr9
                clear hj_180 hv_181
                have wxΓ_182_MLEN : Γ_182 (44, 22, 0) t0.toNat = Γ_165 (44, 22, 0) t0.toNat := by rw [eΓ_182, tg_r (by decide)]
                have wxΓ_182_MCLS : Γ_182 (46, 22, 0) t0.toNat = Γ_165 (46, 22, 0) t0.toNat := by rw [eΓ_182, tg_r (by decide)]
                have wxΓ_182_EATERS : Γ_182 (47, 6, 0) t0.toNat = Γ_165 (47, 6, 0) t0.toNat := by rw [eΓ_182, tg_r (by decide)]
                have wxΓ_182_MBENDS : Γ_182 (48, 22, 0) t0.toNat = Γ_165 (48, 22, 0) t0.toNat := by rw [eΓ_182, tg_r (by decide)]
                have wxΓ_182_GFROM : Γ_182 (49, 22, 0) t0.toNat = Γ_165 (49, 22, 0) t0.toNat := by rw [eΓ_182, tg_r (by decide)]
                have wxΓ_182_MWIDE : Γ_182 (51, 22, 0) t0.toNat = Γ_165 (51, 22, 0) t0.toNat := by rw [eΓ_182, tg_r (by decide)]
                have wsΓ_182 : Γ_182 (50, 22, 0) t0.toNat = (159 : Int) := by rw [eΓ_182]; exact tg_s
                have hrg : rg Γ Γ_182 t0 := hrg.put (by omega) eΓ_182 (by decide) (by decide)
                have htx9 : Γ_182 (42, 3, 0) = Γ (42, 3, 0) := (show Γ_182 (42, 3, 0) = _ from by rw [eΓ_182, tg_rf (by decide)]).trans htx9
                have hrb : rb Γ_182 t0 := hrb.put eΓ_182 (by decide) (fun _ => by first | omega | contradiction) (fun _ => by first | omega | contradiction) (fun _ => by first | omega | contradiction) (fun _ => by first | omega | contradiction)
                have hgr : ∀ κ : tk_K, κ.1 ∉ ([39, 42, 43, 44, 52, 45, 46, 53, 47, 54, 55, 56, 48, 49, 50, 51] : List Nat) → Γ_182 κ = Γ κ := tg_fr hgr eΓ_182 (by decide)
                have hv_186 : ∀ i : Nat, i < 16 → (v_146 i).toInt = Γ_182 (39, 0, 0) i := fun i hi => by rw [eΓ_182, tg_r (by decide)]; exact hv_169 i hi
                have hx_187 : (v_146 0).toInt = Γ_182 (39, 0, 0) 0 := hv_186 0 (by decide)
                have hx_188 : (v_146 1).toInt = Γ_182 (39, 0, 0) 1 := hv_186 1 (by decide)
                have hx_189 : (v_146 2).toInt = Γ_182 (39, 0, 0) 2 := hv_186 2 (by decide)
                have hx_190 : (v_146 4).toInt = Γ_182 (39, 0, 0) 4 := hv_186 4 (by decide)
                have hx_191 : (v_146 5).toInt = Γ_182 (39, 0, 0) 5 := hv_186 5 (by decide)
                have hx_192 : (v_146 7).toInt = Γ_182 (39, 0, 0) 7 := hv_186 7 (by decide)
                exact hjn305 f_183 Γ_182  H locs ls (show rg Γ Γ_182 t0 from hrg) (show rb Γ_182 t0 from hrb) (show Γ_182 (42, 3, 0) = Γ (42, 3, 0) from htx9) (show Γ_182 (39, 0, 0) 4 = t0 from (by omega)) (show Γ_182 (39, 0, 0) 0 = 0 from (by omega)) (show 0 ≤ Γ_182 (48, 22, 0) t0.toNat from (by omega)) (show 0 ≤ Γ_182 (49, 22, 0) t0.toNat from (by omega)) hP hI hfr hgr hS (lv_sub hl [0, 1] rfl)
            refine lv_aload_n hx hb dX12_text_246 rfl (lv_at hl 0 rfl) ?_
            obtain ⟨r_194, v_195, q_196, hf_193, hr_197, hv_198⟩ := (show tp_o_M L K 0 0 (Γ_67 (39, 0, 0)) (f_66 o) from hI.at ho)
            have hx_199 : (v_195 0).toInt = Γ_67 (39, 0, 0) 0 := hv_198 0 (by decide)
            have hx_200 : (v_195 1).toInt = Γ_67 (39, 0, 0) 1 := hv_198 1 (by decide)
            have hx_201 : (v_195 2).toInt = Γ_67 (39, 0, 0) 2 := hv_198 2 (by decide)
            have hx_202 : (v_195 4).toInt = Γ_67 (39, 0, 0) 4 := hv_198 4 (by decide)
            have hx_203 : (v_195 5).toInt = Γ_67 (39, 0, 0) 5 := hv_198 5 (by decide)
            have hx_204 : (v_195 7).toInt = Γ_67 (39, 0, 0) 7 := hv_198 7 (by decide)
            refine tp_get (cy := cy) (ci := 12) (v := .ref (r_194 12)) (C := RX12) (T := TX12) (N := 49) hx hb hta inlX12 hown hK hP ho.1 hf_193 rfl 13 (by decide) (hta _ wk_162) (fun _ h9 => h9) rfl dX12_text_247 ?_
            refine lv_aload_n hx hb dX12_text_250 rfl (lv_at hl 0 rfl) ?_
            refine tp_get (cy := cy) (ci := 12) (v := .int (v_195 4)) (C := RX12) (T := TX12) (N := 49) hx hb hta inlX12 hown hK hP ho.1 hf_193 rfl 20 (by decide) (hta _ wk_537) (fun _ h9 => h9) rfl dX12_text_251 ?_
            obtain ⟨g_206, hf_205, hg_207⟩ := (show tp_gi cy (22) (Γ_67 (48, 22, 0)) (f_66 (r_194 12)) from hI.at (show tp_r L K 48 22 0 (r_194 12) from hr_197 12 (by decide)))
            have hn_208 : vp_in (v_195 4) (22) := tl_in (by omega) (by omega)
            refine tp_iald (cy := cy) hx hb hK hP (show tp_r L K 48 22 0 (r_194 12) from hr_197 12 (by decide)).1 hf_205 hn_208 dX12_text_254 ?_
            refine lv_topi (fun z_209 ez_209 => ?_)
            have iz_209 : z_209.toInt = Γ_67 (48, 22, 0) (v_195 4).toInt.toNat := by rw [ez_209]; exact hg_207 _ (tp_pin hn_208)
            have jz_209 : z_209.toInt = Γ_67 (48, 22, 0) (Γ_67 (39, 0, 0) 4).toNat := by rw [← hx_202]; exact iz_209
            have kz_209 : z_209.toInt = Γ_67 (48, 22, 0) t0.toNat := iz_209.trans (congrArg _ (by omega))
            refine lv_if_ge (tgt := 269) hx hb dX12_text_255 (by decide) (fun c_210 => ?_) (fun c_210 => ?_)
            · have c_210 : (0 : Int) ≤ z_209.toInt := tl_le c_210
              exact hjn269 f_66 Γ_67  H locs ls (show rg Γ Γ_67 t0 from hrg) (show rb Γ_67 t0 from hrb) (show Γ_67 (42, 3, 0) = Γ (42, 3, 0) from htx9) (show Γ_67 (39, 0, 0) 4 = t0 from (by omega)) (show Γ_67 (39, 0, 0) 0 = 0 from (by omega)) (show 0 ≤ Γ_67 (48, 22, 0) t0.toNat from (by omega)) hP hI hfr hgr hS (lv_sub hl [0, 1] rfl)
            · have c_210 : z_209.toInt < (0 : Int) := tl_nle c_210
              refine lv_aload_n hx hb dX12_text_258 rfl (lv_at hl 0 rfl) ?_
              refine tp_get (cy := cy) (ci := 12) (v := .ref (r_194 12)) (C := RX12) (T := TX12) (N := 49) hx hb hta inlX12 hown hK hP ho.1 hf_193 rfl 13 (by decide) (hta _ wk_162) (fun _ h9 => h9) rfl dX12_text_259 ?_
              refine lv_aload_n hx hb dX12_text_262 rfl (lv_at hl 0 rfl) ?_
              refine tp_get (cy := cy) (ci := 12) (v := .int (v_195 4)) (C := RX12) (T := TX12) (N := 49) hx hb hta inlX12 hown hK hP ho.1 hf_193 rfl 20 (by decide) (hta _ wk_537) (fun _ h9 => h9) rfl dX12_text_263 ?_
              refine lv_bipush (v := 12) hx hb dX12_text_266 (by decide) ?_
              have hn_211 : vp_in (v_195 4) (22) := tl_in (by omega) (by omega)
              have hj_212 : (v_195 4).toNatClampNeg = t0.toNat := by show (v_195 4).toInt.toNat = _; omega
              have hv_213 : (12 : Int32).toInt = (12 : Int) := by decide
              obtain ⟨Γ_214, eΓ_214⟩ : ∃ y : tk_G, y = tg Γ_67 (48, 22, 0) t0.toNat (12 : Int) := ⟨_, rfl⟩
              have hI9 : tp_I cy L K Γ_214 (va_up f_66 (r_194 12) (.inl (cy 0, 22, .inl (upd g_206 (v_195 4).toNatClampNeg 12)))) := by have q9 : tg Γ_67 (48, 22, 0) t0.toNat (12 : Int) = tg Γ_67 (48, 22, 0) (v_195 4).toNatClampNeg (12 : Int32).toInt := (by rw [hj_212, hv_213]); rw [eΓ_214, q9]; exact hI.setg hU rfl (show tp_r L K 48 22 0 (r_194 12) from hr_197 12 (by decide)) (show tp_gi cy (22) (tgu (Γ_67 (48, 22, 0)) _ _) _ from ⟨_, rfl, tp_gi_upd hg_207⟩)
              have hfr9 : ∀ b, (K b).1 ∉ ([39, 42, 43, 44, 52, 45, 46, 53, 47, 54, 55, 56, 48, 49, 50, 51] : List Nat) → va_up f_66 (r_194 12) (.inl (cy 0, 22, .inl (upd g_206 (v_195 4).toNatClampNeg 12))) b = f b := tp_fr hfr (show tp_r L K 48 22 0 (r_194 12) from hr_197 12 (by decide)) (by decide)
              refine tp_iast (cy := cy) hx hb hK hP hD hS (show tp_r L K 48 22 0 (r_194 12) from hr_197 12 (by decide)).1 hf_205 hn_211 dX12_text_268 (fun H locs hP hD hS => ?_)
              have hP : va_P D vwCl (va_pl L (va_up f_66 (r_194 12) (.inl (cy 0, 22, .inl (upd g_206 (v_195 4).toNatClampNeg 12))))) H := hP
              generalize hfe : va_up f_66 (r_194 12) (.inl (cy 0, 22, .inl (upd g_206 (v_195 4).toNatClampNeg 12))) = f_215 at hP hI9 hfr9
              have hD : va_D A (va_pl L f_215) := tp_D hL hAL
              have hf_216 := (show f_215 o = _ from by rw [← hfe, va_up_ne _ _ (tp_ne ho (show tp_r L K 48 22 0 (r_194 12) from hr_197 12 (by decide)) (by decide))]).trans hf_193
              have hf_217 : f_215 (r_194 12) = .inl (cy 0, 22, .inl (upd g_206 (v_195 4).toNatClampNeg 12)) := by rw [← hfe]; exact va_up_self _ _ _
              clear hfe
              have hI := hI9
              have hfr := hfr9
              clear hI9 hfr9
              clear hj_212 hv_213
              have wxΓ_214_MLEN : Γ_214 (44, 22, 0) t0.toNat = Γ_67 (44, 22, 0) t0.toNat := by rw [eΓ_214, tg_r (by decide)]
              have wxΓ_214_MCLS : Γ_214 (46, 22, 0) t0.toNat = Γ_67 (46, 22, 0) t0.toNat := by rw [eΓ_214, tg_r (by decide)]
              have wxΓ_214_EATERS : Γ_214 (47, 6, 0) t0.toNat = Γ_67 (47, 6, 0) t0.toNat := by rw [eΓ_214, tg_r (by decide)]
              have wxΓ_214_GFROM : Γ_214 (49, 22, 0) t0.toNat = Γ_67 (49, 22, 0) t0.toNat := by rw [eΓ_214, tg_r (by decide)]
              have wxΓ_214_GTO : Γ_214 (50, 22, 0) t0.toNat = Γ_67 (50, 22, 0) t0.toNat := by rw [eΓ_214, tg_r (by decide)]
              have wxΓ_214_MWIDE : Γ_214 (51, 22, 0) t0.toNat = Γ_67 (51, 22, 0) t0.toNat := by rw [eΓ_214, tg_r (by decide)]
              have wsΓ_214 : Γ_214 (48, 22, 0) t0.toNat = (12 : Int) := by rw [eΓ_214]; exact tg_s
              have hrg : rg Γ Γ_214 t0 := hrg.put (by omega) eΓ_214 (by decide) (by decide)
              have htx9 : Γ_214 (42, 3, 0) = Γ (42, 3, 0) := (show Γ_214 (42, 3, 0) = _ from by rw [eΓ_214, tg_rf (by decide)]).trans htx9
              have hrb : rb Γ_214 t0 := hrb.put eΓ_214 (by decide) (fun _ => by first | omega | contradiction) (fun _ => by first | omega | contradiction) (fun _ => by first | omega | contradiction) (fun _ => by first | omega | contradiction)
              have hgr : ∀ κ : tk_K, κ.1 ∉ ([39, 42, 43, 44, 52, 45, 46, 53, 47, 54, 55, 56, 48, 49, 50, 51] : List Nat) → Γ_214 κ = Γ κ := tg_fr hgr eΓ_214 (by decide)
              have hv_218 : ∀ i : Nat, i < 16 → (v_195 i).toInt = Γ_214 (39, 0, 0) i := fun i hi => by rw [eΓ_214, tg_r (by decide)]; exact hv_198 i hi
              have hx_219 : (v_195 0).toInt = Γ_214 (39, 0, 0) 0 := hv_218 0 (by decide)
              have hx_220 : (v_195 1).toInt = Γ_214 (39, 0, 0) 1 := hv_218 1 (by decide)
              have hx_221 : (v_195 2).toInt = Γ_214 (39, 0, 0) 2 := hv_218 2 (by decide)
              have hx_222 : (v_195 4).toInt = Γ_214 (39, 0, 0) 4 := hv_218 4 (by decide)
              have hx_223 : (v_195 5).toInt = Γ_214 (39, 0, 0) 5 := hv_218 5 (by decide)
              have hx_224 : (v_195 7).toInt = Γ_214 (39, 0, 0) 7 := hv_218 7 (by decide)
              exact hjn269 f_215 Γ_214  H locs ls (show rg Γ Γ_214 t0 from hrg) (show rb Γ_214 t0 from hrb) (show Γ_214 (42, 3, 0) = Γ (42, 3, 0) from htx9) (show Γ_214 (39, 0, 0) 4 = t0 from (by omega)) (show Γ_214 (39, 0, 0) 0 = 0 from (by omega)) (show 0 ≤ Γ_214 (48, 22, 0) t0.toNat from (by omega)) hP hI hfr hgr hS (lv_sub hl [0, 1] rfl)
          refine lv_aload_n hx hb dX12_text_224 rfl (lv_at hl 0 rfl) ?_
          refine tp_get (cy := cy) (ci := 12) (v := .ref (r_44 11)) (C := RX12) (T := TX12) (N := 49) hx hb hta inlX12 hown hK hP ho.1 hf_58 rfl 12 (by decide) (hta _ wk_161) (fun _ h9 => h9) rfl dX12_text_225 ?_
          refine lv_aload_n hx hb dX12_text_228 rfl (lv_at hl 0 rfl) ?_
          refine tp_get (cy := cy) (ci := 12) (v := .int (v_45 4)) (C := RX12) (T := TX12) (N := 49) hx hb hta inlX12 hown hK hP ho.1 hf_58 rfl 20 (by decide) (hta _ wk_537) (fun _ h9 => h9) rfl dX12_text_229 ?_
          obtain ⟨g_226, hf_225, hg_227⟩ := (show tp_ai cy 56 (22) (f_57 (r_44 11)) from hI.at (show tp_r L K 56 22 0 (r_44 11) from hr_47 11 (by decide)))
          have hn_228 : vp_in (v_45 4) (22) := tl_in (by omega) (by omega)
          refine tp_iald (cy := cy) hx hb hK hP (show tp_r L K 56 22 0 (r_44 11) from hr_47 11 (by decide)).1 hf_225 hn_228 dX12_text_232 ?_
          refine lv_topi (fun z_229 ez_229 => ?_)
          refine lv_if_ge (tgt := 246) hx hb dX12_text_233 (by decide) (fun c_230 => ?_) (fun c_230 => ?_)
          · have c_230 : (0 : Int) ≤ z_229.toInt := tl_le c_230
            exact hjn246 f_57 Γ_55  H locs ls (show rg Γ Γ_55 t0 from hrg) (show rb Γ_55 t0 from hrb) (show Γ_55 (42, 3, 0) = Γ (42, 3, 0) from htx9) (show Γ_55 (39, 0, 0) 4 = t0 from (by omega)) (show Γ_55 (39, 0, 0) 0 = 0 from (by omega)) hP hI hfr hgr hS (lv_sub hl [0, 1] rfl)
          · have c_230 : z_229.toInt < (0 : Int) := tl_nle c_230
            refine lv_aload_n hx hb dX12_text_236 rfl (lv_at hl 0 rfl) ?_
            refine tp_get (cy := cy) (ci := 12) (v := .ref (r_44 11)) (C := RX12) (T := TX12) (N := 49) hx hb hta inlX12 hown hK hP ho.1 hf_58 rfl 12 (by decide) (hta _ wk_161) (fun _ h9 => h9) rfl dX12_text_237 ?_
            refine lv_aload_n hx hb dX12_text_240 rfl (lv_at hl 0 rfl) ?_
            refine tp_get (cy := cy) (ci := 12) (v := .int (v_45 4)) (C := RX12) (T := TX12) (N := 49) hx hb hta inlX12 hown hK hP ho.1 hf_58 rfl 20 (by decide) (hta _ wk_537) (fun _ h9 => h9) rfl dX12_text_241 ?_
            refine lv_iconst (v := 0) hx hb dX12_text_244 (by decide) ?_
            have hn_231 : vp_in (v_45 4) (22) := tl_in (by omega) (by omega)
            have hI9 : tp_I cy L K Γ_55 (va_up f_57 (r_44 11) (.inl (cy 0, 22, .inl (upd g_226 (v_45 4).toNatClampNeg 0)))) := hI.set (show tp_r L K 56 22 0 (r_44 11) from hr_47 11 (by decide)) (show tp_ai cy 56 (22) _ from ⟨_, rfl, tp_pi_upd hg_227 trivial⟩)
            have hfr9 : ∀ b, (K b).1 ∉ ([39, 42, 43, 44, 52, 45, 46, 53, 47, 54, 55, 56, 48, 49, 50, 51] : List Nat) → va_up f_57 (r_44 11) (.inl (cy 0, 22, .inl (upd g_226 (v_45 4).toNatClampNeg 0))) b = f b := tp_fr hfr (show tp_r L K 56 22 0 (r_44 11) from hr_47 11 (by decide)) (by decide)
            refine tp_iast (cy := cy) hx hb hK hP hD hS (show tp_r L K 56 22 0 (r_44 11) from hr_47 11 (by decide)).1 hf_225 hn_231 dX12_text_245 (fun H locs hP hD hS => ?_)
            have hP : va_P D vwCl (va_pl L (va_up f_57 (r_44 11) (.inl (cy 0, 22, .inl (upd g_226 (v_45 4).toNatClampNeg 0))))) H := hP
            generalize hfe : va_up f_57 (r_44 11) (.inl (cy 0, 22, .inl (upd g_226 (v_45 4).toNatClampNeg 0))) = f_232 at hP hI9 hfr9
            have hD : va_D A (va_pl L f_232) := tp_D hL hAL
            have hf_233 := (show f_232 o = _ from by rw [← hfe, va_up_ne _ _ (tp_ne ho (show tp_r L K 56 22 0 (r_44 11) from hr_47 11 (by decide)) (by decide))]).trans hf_58
            have hf_234 : f_232 (r_44 11) = .inl (cy 0, 22, .inl (upd g_226 (v_45 4).toNatClampNeg 0)) := by rw [← hfe]; exact va_up_self _ _ _
            clear hfe
            have hI := hI9
            have hfr := hfr9
            clear hI9 hfr9
            exact hjn246 f_232 Γ_55  H locs ls (show rg Γ Γ_55 t0 from hrg) (show rb Γ_55 t0 from hrb) (show Γ_55 (42, 3, 0) = Γ (42, 3, 0) from htx9) (show Γ_55 (39, 0, 0) 4 = t0 from (by omega)) (show Γ_55 (39, 0, 0) 0 = 0 from (by omega)) hP hI hfr hgr hS (lv_sub hl [0, 1] rfl)
        · have c_65 : (0 : Int) < (v_45 2).toInt := tl_nle c_65
          refine lv_bipush (v := (-2)) hx hb dX12_text_216 (by decide) ?_
          refine lv_aload_n hx hb dX12_text_218 rfl (lv_at hl 0 rfl) ?_
          refine tp_get (cy := cy) (ci := 12) (v := .int (v_45 2)) (C := RX12) (T := TX12) (N := 49) hx hb hta inlX12 hown hK hP ho.1 hf_58 rfl 18 (by decide) (hta _ wk_540) (fun _ h9 => h9) rfl dX12_text_219 ?_
          refine lv_isub hx hb dX12_text_222 ?_
          refine lv_topi (fun z_235 ez_235 => ?_)
          try have iz_235 : z_235.toInt = (-2 : Int) - (v_45 2).toInt := by rw [ez_235]; exact tl_subN (-2) (v_45 2) rfl rfl (by omega) (by omega)
          have hpo9 : tx_ok (Γ_55 (43, 8800, 0)) (Γ_55 (45, 1056, 0)) (Γ_55 (46, 22, 0)) (Γ_55 (47, 6, 0)) (Γ_55 (48, 22, 0)) (Γ_55 (49, 22, 0)) (Γ_55 (50, 22, 0)) (Γ_55 (51, 22, 0)) (Γ_55 (42, 3, 0)) ∧ (0 ≤ Γ_55 (39, 0, 0) 0 ∧ Γ_55 (39, 0, 0) 0 ≤ 400) ∧ Γ (42, 3, 0) 1 ≤ Γ_55 (42, 3, 0) 1 := ⟨(by rw [htx9]; exact tx_keep htx hrg hrb hps), (by omega), (by rw [htx9]; omega)⟩
          exact W.iret (v := z_235) hx hb hr (fun t ht hW => ⟨⟨_, (f_57, Γ_55), rfl, hpo9, by rw [ht]; exact hP, hI, hfr, hgr⟩, hS.F ht⟩) hS.2.2 dX12_text_223
      have hjn146 : ∀ (f_236 : Nat → va_E) (Γ_237 : tk_G) (H : Heap) (locs : List Loc) (ls : Array Slot), (rg Γ Γ_237 t0) → (Γ_237 (42, 3, 0) = Γ (42, 3, 0)) → (Γ_237 (39, 0, 0) 4 = t0) → (Γ_237 (39, 0, 0) 0 = Γ (39, 0, 0) 0) → (0 ≤ Γ_237 (39, 0, 0) 1 ∧ Γ_237 (39, 0, 0) 1 ≤ Γ (39, 0, 0) 0) → (rb Γ_237 t0) → (rq Γ_237 t0) → va_P D vwCl (va_pl L f_236) H → tp_I cy L K Γ_237 f_236 → (∀ b, (K b).1 ∉ ([39, 42, 43, 44, 52, 45, 46, 53, 47, 54, 55, 56, 48, 49, 50, 51] : List Nat) → f_236 b = f b) → (∀ κ : tk_K, κ.1 ∉ ([39, 42, 43, 44, 52, 45, 46, 53, 47, 54, 55, 56, 48, 49, 50, 51] : List Nat) → Γ_237 κ = Γ κ) → va_S A s.heap H locs → lv_has ls 3 [(0, .ref o), (1, .int p0)] → W p l e ((headSpec (tl_w yX12_text cX12_text 3 (some .int)) ({ frames := 11, cells := 0, slots := 0, locals := 243 })).room) s m #[.ref o, .int p0] below meth c H locs 0 0 (MQ below (va_Qi (fun (r : Int32) (u : (Nat → va_E) × tk_G) => tx_ok (u.2 (43, 8800, 0)) (u.2 (45, 1056, 0)) (u.2 (46, 22, 0)) (u.2 (47, 6, 0)) (u.2 (48, 22, 0)) (u.2 (49, 22, 0)) (u.2 (50, 22, 0)) (u.2 (51, 22, 0)) (u.2 (42, 3, 0)) ∧ (0 ≤ u.2 (39, 0, 0) 0 ∧ u.2 (39, 0, 0) 0 ≤ 400) ∧ Γ (42, 3, 0) 1 ≤ u.2 (42, 3, 0) 1) (tp_BG D cy L K Γ f [39, 42, 43, 44, 52, 45, 46, 53, 47, 54, 55, 56, 48, 49, 50, 51]) A) #[.ref o, .int p0] s 0 0 A) (F0 m 146 ls []) := by
        intro f_236 Γ_237  H locs ls hrg htx9 q4 q0 h1 hrb hrq hP hI hfr hgr hS hl
        have hD : va_D A (va_pl L f_236) := tp_D hL hAL
        refine lv_aload_n hx hb dX12_text_146 rfl (lv_at hl 0 rfl) ?_
        obtain ⟨r_239, v_240, q_241, hf_238, hr_242, hv_243⟩ := (show tp_o_M L K 0 0 (Γ_237 (39, 0, 0)) (f_236 o) from hI.at ho)
        refine tq_ciR hS (hAf _ hS.1) (tq_rV (As := []) (rest := []) ⟨hx, hb, hml, hown, hta⟩ (tp_P.pre hK hN hL hU hI hP) (tp_recv hK hP ho.1 hf_238 rfl) lk_X12_330 (r_X12_clauseHere l D cy H.size L K Γ_237 f_236 o (Γ (41, 400, 0)) (Γ (39, 0, 0) 0) t0 ho ((hgr _ (by decide)).trans ht) (by first | omega | (simp only [Int32.toInt_toInt64]; omega) | decide | assumption) (by first | omega | (simp only [Int32.toInt_toInt64]; omega) | decide | assumption) (by first | omega | (simp only [Int32.toInt_toInt64]; omega) | decide | assumption) (by first | omega | (simp only [Int32.toInt_toInt64]; omega) | decide | assumption) (by first | omega | (simp only [Int32.toInt_toInt64]; omega) | decide | assumption)) rfl rfl ⟨Nat.le_of_ble_eq_true rfl, Nat.le_of_ble_eq_true rfl⟩ rfl hl.1 rfl (Nat.le_of_ble_eq_true rfl) dX12_text_147 ⟨Nat.le_of_ble_eq_true rfl, Nat.le_of_ble_eq_true rfl⟩) (fun r_251 f_252 Γ_254 H locs hw_250 hP hI hc_253 hcg_255 hS => ?_)
        have hD : va_D A (va_pl L f_252) := tp_D hL hAL
        have hfr := tp_fr2 hfr hc_253 (by decide)
        have hgr : ∀ κ : tk_K, κ.1 ∉ ([39, 42, 43, 44, 52, 45, 46, 53, 47, 54, 55, 56, 48, 49, 50, 51] : List Nat) → Γ_254 κ = Γ κ := tg_fr2 hgr hcg_255 (by decide)
        obtain ⟨hE_256, hw_250⟩ := hw_250
        have hE_256 : tl_J r_251 (rq Γ_254 t0) := hE_256
        have hw_250 : Γ_254 (39, 0, 0) 0 = Γ_237 (39, 0, 0) 0 ∧ Γ_254 (39, 0, 0) 4 = Γ_237 (39, 0, 0) 4 ∧ Γ_237 (39, 0, 0) 1 ≤ Γ_254 (39, 0, 0) 1 ∧ Γ_254 (39, 0, 0) 1 ≤ (Γ (39, 0, 0) 0) ∧ rg Γ_237 Γ_254 t0 ∧ rb Γ_254 t0 := hw_250
        have htx9 : Γ_254 (42, 3, 0) = Γ (42, 3, 0) := (hcg_255 (42, 3, 0) (by decide)).trans htx9
        have hrg : rg Γ Γ_254 t0 := hrg.trans hw_250.2.2.2.2.1
        have hrb : rb Γ_254 t0 := hw_250.2.2.2.2.2
        refine lv_istore_n (lv' := [(2, .int r_251), (0, .ref o), (1, .int p0)]) hx hb dX12_text_150 rfl hl (by decide) rfl (fun ls hl => ?_)
        refine tl_ind (G := fun H locs ls => W p l e ((headSpec (tl_w yX12_text cX12_text 3 (some .int)) ({ frames := 11, cells := 0, slots := 0, locals := 243 })).room) s m #[.ref o, .int p0] below meth c H locs 0 0 (MQ below (va_Qi (fun (r : Int32) (u : (Nat → va_E) × tk_G) => tx_ok (u.2 (43, 8800, 0)) (u.2 (45, 1056, 0)) (u.2 (46, 22, 0)) (u.2 (47, 6, 0)) (u.2 (48, 22, 0)) (u.2 (49, 22, 0)) (u.2 (50, 22, 0)) (u.2 (51, 22, 0)) (u.2 (42, 3, 0)) ∧ (0 ≤ u.2 (39, 0, 0) 0 ∧ u.2 (39, 0, 0) 0 ≤ 400) ∧ Γ (42, 3, 0) 1 ≤ u.2 (42, 3, 0) 1) (tp_BG D cy L K Γ f [39, 42, 43, 44, 52, 45, 46, 53, 47, 54, 55, 56, 48, 49, 50, 51]) A) #[.ref o, .int p0] s 0 0 A) (F0 m 151 ls [])) (α := (Nat → va_E) × tk_G × Int32) (fun aq => (401 - aq.2.1 (39, 0, 0) 1).toNat) (fun aq H locs ls => (rg Γ aq.2.1 t0) ∧ (rb aq.2.1 t0) ∧ (aq.2.2.toInt = 1 → rq aq.2.1 t0) ∧ (aq.2.2.toInt = 0 ∨ aq.2.2.toInt = 1) ∧ (aq.2.1 (42, 3, 0) = Γ (42, 3, 0)) ∧ (aq.2.1 (39, 0, 0) 0 = Γ (39, 0, 0) 0) ∧ (aq.2.1 (39, 0, 0) 4 = t0) ∧ (0 ≤ aq.2.1 (39, 0, 0) 1 ∧ aq.2.1 (39, 0, 0) 1 ≤ Γ (39, 0, 0) 0) ∧ va_P D vwCl (va_pl L aq.1) H ∧ tp_I cy L K aq.2.1 aq.1 ∧ (∀ b, (K b).1 ∉ ([39, 42, 43, 44, 52, 45, 46, 53, 47, 54, 55, 56, 48, 49, 50, 51] : List Nat) → aq.1 b = f b) ∧ (∀ κ : tk_K, κ.1 ∉ ([39, 42, 43, 44, 52, 45, 46, 53, 47, 54, 55, 56, 48, 49, 50, 51] : List Nat) → aq.2.1 κ = Γ κ) ∧ va_S A s.heap H locs ∧ lv_has ls 3 [(2, .int aq.2.2), (0, .ref o), (1, .int p0)]) ?_ (f_252, Γ_254, r_251) H locs ls ⟨(show rg Γ Γ_254 t0 from hrg), (show rb Γ_254 t0 from hrb), (show r_251.toInt = 1 → rq Γ_254 t0 from (fun q9 => hE_256.t (fun q8 => by rw [q8] at q9; exact absurd q9 (by decide)))), (show r_251.toInt = 0 ∨ r_251.toInt = 1 from (by rcases hE_256 with ⟨q9, _⟩ | q9 <;> rw [q9] <;> decide)), (show Γ_254 (42, 3, 0) = Γ (42, 3, 0) from htx9), (show Γ_254 (39, 0, 0) 0 = Γ (39, 0, 0) 0 from (by omega)), (show Γ_254 (39, 0, 0) 4 = t0 from (by omega)), (show 0 ≤ Γ_254 (39, 0, 0) 1 ∧ Γ_254 (39, 0, 0) 1 ≤ Γ (39, 0, 0) 0 from (by omega)), hP, hI, hfr, hgr, hS, lv_sub hl [0, 1, 2] rfl⟩
        rintro ⟨f_257, Γ_258, v2⟩ H locs ls ⟨hrg, hrb, hrq, hv2, htx9, q0, q4, h1, hP, hI, hfr, hgr, hS, hl⟩ ih151
        have hgr : ∀ κ : tk_K, κ.1 ∉ ([39, 42, 43, 44, 52, 45, 46, 53, 47, 54, 55, 56, 48, 49, 50, 51] : List Nat) → Γ_258 κ = Γ κ := hgr
        have hP : va_P D vwCl (va_pl L f_257) H := hP
        have hI : tp_I cy L K Γ_258 f_257 := hI
        have hfr : ∀ b, (K b).1 ∉ ([39, 42, 43, 44, 52, 45, 46, 53, 47, 54, 55, 56, 48, 49, 50, 51] : List Nat) → f_257 b = f b := hfr
        have hD : va_D A (va_pl L f_257) := tp_D hL hAL
        have hrg : rg Γ Γ_258 t0 := hrg
        have hrb : rb Γ_258 t0 := hrb
        have hrq : v2.toInt = 1 → rq Γ_258 t0 := hrq
        have hv2 : v2.toInt = 0 ∨ v2.toInt = 1 := hv2
        have htx9 : Γ_258 (42, 3, 0) = Γ (42, 3, 0) := htx9
        have q0 : Γ_258 (39, 0, 0) 0 = Γ (39, 0, 0) 0 := q0
        have q4 : Γ_258 (39, 0, 0) 4 = t0 := q4
        have h1 : 0 ≤ Γ_258 (39, 0, 0) 1 ∧ Γ_258 (39, 0, 0) 1 ≤ Γ (39, 0, 0) 0 := h1
        have hl : lv_has ls 3 [(2, .int v2), (0, .ref o), (1, .int p0)] := hl
        refine lv_iload_n hx hb dX12_text_151 rfl (lv_at hl 0 rfl) ?_
        refine lv_if_eq (tgt := 182) hx hb dX12_text_152 (by decide) (fun c_259 => ?_) (fun c_259 => ?_)
        · have c_259 : v2.toInt = (0 : Int) := tl_eq c_259
          try clear hsee
          refine lv_iload_n hx hb dX12_text_182 rfl (lv_at hl 0 rfl) ?_
          refine lv_if_eq (tgt := 204) hx hb dX12_text_183 (by decide) (fun c_260 => ?_) (fun c_260 => ?_)
          · have c_260 : v2.toInt = (0 : Int) := tl_eq c_260
            exact hjn204 f_257 Γ_258  H locs ls (show rg Γ Γ_258 t0 from hrg) (show rb Γ_258 t0 from hrb) (show Γ_258 (42, 3, 0) = Γ (42, 3, 0) from htx9) (show Γ_258 (39, 0, 0) 4 = t0 from (by omega)) hP hI hfr hgr hS (lv_sub hl [1, 2] rfl)
          · have c_260 : ¬ v2.toInt = (0 : Int) := tl_neq c_260
            exfalso; omega
        · have c_259 : ¬ v2.toInt = (0 : Int) := tl_neq c_259
          have hrqL := hrq (by omega)
          have hgN : ∀ κ : tk_K, κ.1 ∉ ([39] : List Nat) → Γ_258 κ = Γ_258 κ := fun _ _ => rfl
          refine lv_aload_n hx hb dX12_text_155 rfl (lv_at hl 1 rfl) ?_
          obtain ⟨r_262, v_263, q_264, hf_261, hr_265, hv_266⟩ := (show tp_o_M L K 0 0 (Γ_258 (39, 0, 0)) (f_257 o) from hI.at ho)
          refine tq_ciR hS (hAf _ hS.1) (tq_rV (As := []) (rest := []) ⟨hx, hb, hml, hown, hta⟩ (tp_P.pre hK hN hL hU hI hP) (tp_recv hK hP ho.1 hf_261 rfl) lk_X12_167 (r_X12_see l D cy H.size L K Γ_258 f_257 o (Γ (41, 400, 0)) (Γ (39, 0, 0) 0) ho ((hgr _ (by decide)).trans ht) (by first | omega | (simp only [Int32.toInt_toInt64]; omega) | decide | assumption) (by first | omega | (simp only [Int32.toInt_toInt64]; omega) | decide | assumption)) rfl rfl ⟨Nat.le_of_ble_eq_true rfl, Nat.le_of_ble_eq_true rfl⟩ rfl hl.1 rfl (Nat.le_of_ble_eq_true rfl) dX12_text_156 ⟨Nat.le_of_ble_eq_true rfl, Nat.le_of_ble_eq_true rfl⟩) (fun r_274 f_275 Γ_277 H locs hw_273 hP hI hc_276 hcg_278 hS => ?_)
          have hD : va_D A (va_pl L f_275) := tp_D hL hAL
          have hfr := tp_fr2 hfr hc_276 (by decide)
          have hgr : ∀ κ : tk_K, κ.1 ∉ ([39, 42, 43, 44, 52, 45, 46, 53, 47, 54, 55, 56, 48, 49, 50, 51] : List Nat) → Γ_277 κ = Γ κ := tg_fr2 hgr hcg_278 (by decide)
          have wy_277_MLEN : Γ_277 (44, 22, 0) t0.toNat = Γ_258 (44, 22, 0) t0.toNat := congrFun (hcg_278 (44, 22, 0) (by decide)) _
          have wy_277_MCLS : Γ_277 (46, 22, 0) t0.toNat = Γ_258 (46, 22, 0) t0.toNat := congrFun (hcg_278 (46, 22, 0) (by decide)) _
          have wy_277_EATERS : Γ_277 (47, 6, 0) t0.toNat = Γ_258 (47, 6, 0) t0.toNat := congrFun (hcg_278 (47, 6, 0) (by decide)) _
          have wy_277_MBENDS : Γ_277 (48, 22, 0) t0.toNat = Γ_258 (48, 22, 0) t0.toNat := congrFun (hcg_278 (48, 22, 0) (by decide)) _
          have wy_277_GFROM : Γ_277 (49, 22, 0) t0.toNat = Γ_258 (49, 22, 0) t0.toNat := congrFun (hcg_278 (49, 22, 0) (by decide)) _
          have wy_277_GTO : Γ_277 (50, 22, 0) t0.toNat = Γ_258 (50, 22, 0) t0.toNat := congrFun (hcg_278 (50, 22, 0) (by decide)) _
          have wy_277_MWIDE : Γ_277 (51, 22, 0) t0.toNat = Γ_258 (51, 22, 0) t0.toNat := congrFun (hcg_278 (51, 22, 0) (by decide)) _
          have hw_273 : Γ_277 (39, 0, 0) 0 = Γ_258 (39, 0, 0) 0 ∧ Γ_277 (39, 0, 0) 3 = Γ_258 (39, 0, 0) 3 ∧ Γ_277 (39, 0, 0) 4 = Γ_258 (39, 0, 0) 4 ∧ Γ_277 (39, 0, 0) 5 = Γ_258 (39, 0, 0) 5 ∧ Γ_277 (39, 0, 0) 6 = Γ_258 (39, 0, 0) 6 ∧ Γ_277 (39, 0, 0) 7 = Γ_258 (39, 0, 0) 7 ∧ Γ_277 (39, 0, 0) 8 = Γ_258 (39, 0, 0) 8 ∧ Γ_258 (39, 0, 0) 1 ≤ Γ_277 (39, 0, 0) 1 ∧ Γ_277 (39, 0, 0) 1 ≤ (Γ (39, 0, 0) 0) ∧ (¬ (Γ (41, 400, 0)) (Γ_258 (39, 0, 0) 1).toNat = 32 → Γ_277 (39, 0, 0) 1 = Γ_258 (39, 0, 0) 1) ∧ ((r_274.toInt = -1 ∧ Γ_277 (39, 0, 0) 1 = (Γ (39, 0, 0) 0)) ∨ (0 ≤ r_274.toInt ∧ r_274.toInt ≤ 255 ∧ Γ_277 (39, 0, 0) 1 < (Γ (39, 0, 0) 0) ∧ ¬ (Γ (41, 400, 0)) (Γ_277 (39, 0, 0) 1).toNat = 32)) := hw_273
          obtain ⟨s0_hw_273, s1_hw_273, s2_hw_273, s3_hw_273, s4_hw_273, s5_hw_273, s6_hw_273, s7_hw_273, s8_hw_273, -, hsee⟩ := hw_273
          have htx9 : Γ_277 (42, 3, 0) = Γ (42, 3, 0) := (hcg_278 (42, 3, 0) (by decide)).trans htx9
          have hrg : rg Γ Γ_277 t0 := hrg.same hcg_278
          have hrb : rb Γ_277 t0 := hrb.same hcg_278
          have hgN : ∀ κ : tk_K, κ.1 ∉ ([39] : List Nat) → Γ_277 κ = Γ_258 κ := tg_fr2 hgN hcg_278 (by decide)
          refine lv_bipush (v := 59) hx hb dX12_text_159 (by decide) ?_
          refine lv_icmp_ne (tgt := 182) hx hb dX12_text_161 (by decide) (fun c_279 => ?_) (fun c_279 => ?_)
          · have c_279 : ¬ r_274.toInt = (59 : Int) := tl_neq c_279
            try clear hsee
            refine lv_iload_n hx hb dX12_text_182 rfl (lv_at hl 0 rfl) ?_
            refine lv_if_eq (tgt := 204) hx hb dX12_text_183 (by decide) (fun c_280 => ?_) (fun c_280 => ?_)
            · have c_280 : v2.toInt = (0 : Int) := tl_eq c_280
              exact hjn204 f_275 Γ_277  H locs ls (show rg Γ Γ_277 t0 from hrg) (show rb Γ_277 t0 from hrb) (show Γ_277 (42, 3, 0) = Γ (42, 3, 0) from htx9) (show Γ_277 (39, 0, 0) 4 = t0 from (by omega)) hP hI hfr hgr hS (lv_sub hl [1, 2] rfl)
            · have c_280 : ¬ v2.toInt = (0 : Int) := tl_neq c_280
              refine lv_aload_n hx hb dX12_text_186 rfl (lv_at hl 1 rfl) ?_
              obtain ⟨r_282, v_283, q_284, hf_281, hr_285, hv_286⟩ := (show tp_o_M L K 0 0 (Γ_277 (39, 0, 0)) (f_275 o) from hI.at ho)
              refine tq_ciR hS (hAf _ hS.1) (tq_rV (As := []) (rest := []) ⟨hx, hb, hml, hown, hta⟩ (tp_P.pre hK hN hL hU hI hP) (tp_recv hK hP ho.1 hf_281 rfl) lk_X12_167 (r_X12_see l D cy H.size L K Γ_277 f_275 o (Γ (41, 400, 0)) (Γ (39, 0, 0) 0) ho ((hgr _ (by decide)).trans ht) (by first | omega | (simp only [Int32.toInt_toInt64]; omega) | decide | assumption) (by first | omega | (simp only [Int32.toInt_toInt64]; omega) | decide | assumption)) rfl rfl ⟨Nat.le_of_ble_eq_true rfl, Nat.le_of_ble_eq_true rfl⟩ rfl hl.1 rfl (Nat.le_of_ble_eq_true rfl) dX12_text_187 ⟨Nat.le_of_ble_eq_true rfl, Nat.le_of_ble_eq_true rfl⟩) (fun r_294 f_295 Γ_297 H locs hw_293 hP hI hc_296 hcg_298 hS => ?_)
              have hD : va_D A (va_pl L f_295) := tp_D hL hAL
              have hfr := tp_fr2 hfr hc_296 (by decide)
              have hgr : ∀ κ : tk_K, κ.1 ∉ ([39, 42, 43, 44, 52, 45, 46, 53, 47, 54, 55, 56, 48, 49, 50, 51] : List Nat) → Γ_297 κ = Γ κ := tg_fr2 hgr hcg_298 (by decide)
              have wy_297_MLEN : Γ_297 (44, 22, 0) t0.toNat = Γ_277 (44, 22, 0) t0.toNat := congrFun (hcg_298 (44, 22, 0) (by decide)) _
              have wy_297_MCLS : Γ_297 (46, 22, 0) t0.toNat = Γ_277 (46, 22, 0) t0.toNat := congrFun (hcg_298 (46, 22, 0) (by decide)) _
              have wy_297_EATERS : Γ_297 (47, 6, 0) t0.toNat = Γ_277 (47, 6, 0) t0.toNat := congrFun (hcg_298 (47, 6, 0) (by decide)) _
              have wy_297_MBENDS : Γ_297 (48, 22, 0) t0.toNat = Γ_277 (48, 22, 0) t0.toNat := congrFun (hcg_298 (48, 22, 0) (by decide)) _
              have wy_297_GFROM : Γ_297 (49, 22, 0) t0.toNat = Γ_277 (49, 22, 0) t0.toNat := congrFun (hcg_298 (49, 22, 0) (by decide)) _
              have wy_297_GTO : Γ_297 (50, 22, 0) t0.toNat = Γ_277 (50, 22, 0) t0.toNat := congrFun (hcg_298 (50, 22, 0) (by decide)) _
              have wy_297_MWIDE : Γ_297 (51, 22, 0) t0.toNat = Γ_277 (51, 22, 0) t0.toNat := congrFun (hcg_298 (51, 22, 0) (by decide)) _
              have hw_293 : Γ_297 (39, 0, 0) 0 = Γ_277 (39, 0, 0) 0 ∧ Γ_297 (39, 0, 0) 3 = Γ_277 (39, 0, 0) 3 ∧ Γ_297 (39, 0, 0) 4 = Γ_277 (39, 0, 0) 4 ∧ Γ_297 (39, 0, 0) 5 = Γ_277 (39, 0, 0) 5 ∧ Γ_297 (39, 0, 0) 6 = Γ_277 (39, 0, 0) 6 ∧ Γ_297 (39, 0, 0) 7 = Γ_277 (39, 0, 0) 7 ∧ Γ_297 (39, 0, 0) 8 = Γ_277 (39, 0, 0) 8 ∧ Γ_277 (39, 0, 0) 1 ≤ Γ_297 (39, 0, 0) 1 ∧ Γ_297 (39, 0, 0) 1 ≤ (Γ (39, 0, 0) 0) ∧ (¬ (Γ (41, 400, 0)) (Γ_277 (39, 0, 0) 1).toNat = 32 → Γ_297 (39, 0, 0) 1 = Γ_277 (39, 0, 0) 1) ∧ ((r_294.toInt = -1 ∧ Γ_297 (39, 0, 0) 1 = (Γ (39, 0, 0) 0)) ∨ (0 ≤ r_294.toInt ∧ r_294.toInt ≤ 255 ∧ Γ_297 (39, 0, 0) 1 < (Γ (39, 0, 0) 0) ∧ ¬ (Γ (41, 400, 0)) (Γ_297 (39, 0, 0) 1).toNat = 32)) := hw_293
              obtain ⟨s0_hw_293, s1_hw_293, s2_hw_293, s3_hw_293, s4_hw_293, s5_hw_293, s6_hw_293, s7_hw_293, s8_hw_293, -, -⟩ := hw_293
              have htx9 : Γ_297 (42, 3, 0) = Γ (42, 3, 0) := (hcg_298 (42, 3, 0) (by decide)).trans htx9
              have hrg : rg Γ Γ_297 t0 := hrg.same hcg_298
              have hrb : rb Γ_297 t0 := hrb.same hcg_298
              have hgN : ∀ κ : tk_K, κ.1 ∉ ([39] : List Nat) → Γ_297 κ = Γ_258 κ := tg_fr2 hgN hcg_298 (by decide)
              refine lv_iconst (v := (-1)) hx hb dX12_text_190 (by decide) ?_
              refine lv_icmp_eq (tgt := 204) hx hb dX12_text_191 (by decide) (fun c_299 => ?_) (fun c_299 => ?_)
              · have c_299 : r_294.toInt = (-1 : Int) := tl_eq c_299
                exact hjn204 f_295 Γ_297  H locs ls (show rg Γ Γ_297 t0 from hrg) (show rb Γ_297 t0 from hrb) (show Γ_297 (42, 3, 0) = Γ (42, 3, 0) from htx9) (show Γ_297 (39, 0, 0) 4 = t0 from (by omega)) hP hI hfr hgr hS (lv_sub hl [1, 2] rfl)
              · have c_299 : ¬ r_294.toInt = (-1 : Int) := tl_neq c_299
                refine lv_aload_n hx hb dX12_text_194 rfl (lv_at hl 1 rfl) ?_
                refine lv_iconst (v := 0) hx hb dX12_text_195 (by decide) ?_
                refine lv_aload_n hx hb dX12_text_196 rfl (lv_at hl 1 rfl) ?_
                obtain ⟨r_301, v_302, q_303, hf_300, hr_304, hv_305⟩ := (show tp_o_M L K 0 0 (Γ_297 (39, 0, 0)) (f_295 o) from hI.at ho)
                have hx_307 : (v_302 1).toInt = Γ_297 (39, 0, 0) 1 := hv_305 1 (by decide)
                refine tp_get (cy := cy) (ci := 12) (v := .int (v_302 1)) (C := RX12) (T := TX12) (N := 49) hx hb hta inlX12 hown hK hP ho.1 hf_300 rfl 17 (by decide) (hta _ wk_539) (fun _ h9 => h9) rfl dX12_text_197 ?_
                refine tq_ciR hS (hAf _ hS.1) (tq_rV (As := [.int 0, .int (v_302 1)]) (rest := []) ⟨hx, hb, hml, hown, hta⟩ (tp_P.pre hK hN hL hU hI hP) (tp_recv hK hP ho.1 hf_300 rfl) lk_X12_184 (r_X12_fails l D cy H.size L K Γ_297 f_295 o 0 (v_302 1) ho) rfl rfl ⟨Nat.le_of_ble_eq_true rfl, Nat.le_of_ble_eq_true rfl⟩ rfl hl.1 rfl (Nat.le_of_ble_eq_true rfl) dX12_text_200 ⟨Nat.le_of_ble_eq_true rfl, Nat.le_of_ble_eq_true rfl⟩) (fun r_313 f_314 Γ_316 H locs hw_312 hP hI hc_315 hcg_317 hS => ?_)
                have hD : va_D A (va_pl L f_314) := tp_D hL hAL
                have hfr := tp_fr2 hfr hc_315 (by decide)
                have hgr : ∀ κ : tk_K, κ.1 ∉ ([39, 42, 43, 44, 52, 45, 46, 53, 47, 54, 55, 56, 48, 49, 50, 51] : List Nat) → Γ_316 κ = Γ κ := tg_fr2 hgr hcg_317 (by decide)
                have wy_316_MLEN : Γ_316 (44, 22, 0) t0.toNat = Γ_297 (44, 22, 0) t0.toNat := congrFun (hcg_317 (44, 22, 0) (by decide)) _
                have wy_316_MCLS : Γ_316 (46, 22, 0) t0.toNat = Γ_297 (46, 22, 0) t0.toNat := congrFun (hcg_317 (46, 22, 0) (by decide)) _
                have wy_316_EATERS : Γ_316 (47, 6, 0) t0.toNat = Γ_297 (47, 6, 0) t0.toNat := congrFun (hcg_317 (47, 6, 0) (by decide)) _
                have wy_316_MBENDS : Γ_316 (48, 22, 0) t0.toNat = Γ_297 (48, 22, 0) t0.toNat := congrFun (hcg_317 (48, 22, 0) (by decide)) _
                have wy_316_GFROM : Γ_316 (49, 22, 0) t0.toNat = Γ_297 (49, 22, 0) t0.toNat := congrFun (hcg_317 (49, 22, 0) (by decide)) _
                have wy_316_GTO : Γ_316 (50, 22, 0) t0.toNat = Γ_297 (50, 22, 0) t0.toNat := congrFun (hcg_317 (50, 22, 0) (by decide)) _
                have wy_316_MWIDE : Γ_316 (51, 22, 0) t0.toNat = Γ_297 (51, 22, 0) t0.toNat := congrFun (hcg_317 (51, 22, 0) (by decide)) _
                obtain ⟨rfl, hw_312⟩ := hw_312
                have hw_312 : Γ_316 (39, 0, 0) 0 = Γ_297 (39, 0, 0) 0 ∧ Γ_316 (39, 0, 0) 1 = Γ_297 (39, 0, 0) 1 ∧ Γ_316 (39, 0, 0) 3 = Γ_297 (39, 0, 0) 3 ∧ Γ_316 (39, 0, 0) 4 = Γ_297 (39, 0, 0) 4 ∧ Γ_316 (39, 0, 0) 5 = Γ_297 (39, 0, 0) 5 ∧ Γ_316 (39, 0, 0) 6 = Γ_297 (39, 0, 0) 6 ∧ Γ_316 (39, 0, 0) 7 = Γ_297 (39, 0, 0) 7 ∧ Γ_316 (39, 0, 0) 8 = Γ_297 (39, 0, 0) 8 := hw_312
                have htx9 : Γ_316 (42, 3, 0) = Γ (42, 3, 0) := (hcg_317 (42, 3, 0) (by decide)).trans htx9
                have hrg : rg Γ Γ_316 t0 := hrg.same hcg_317
                have hrb : rb Γ_316 t0 := hrb.same hcg_317
                have hgN : ∀ κ : tk_K, κ.1 ∉ ([39] : List Nat) → Γ_316 κ = Γ_258 κ := tg_fr2 hgN hcg_317 (by decide)
                refine lv_pop hx hb dX12_text_203 rfl ?_
                exact hjn204 f_314 Γ_316  H locs ls (show rg Γ Γ_316 t0 from hrg) (show rb Γ_316 t0 from hrb) (show Γ_316 (42, 3, 0) = Γ (42, 3, 0) from htx9) (show Γ_316 (39, 0, 0) 4 = t0 from (by omega)) hP hI hfr hgr hS (lv_sub hl [1, 2] rfl)
          · have c_279 : r_274.toInt = (59 : Int) := tl_eq c_279
            have hlt : Γ_277 (39, 0, 0) 1 < Γ (39, 0, 0) 0 := by rcases hsee with q9 | q9; (exfalso; omega); exact q9.2.2.1
            clear hsee
            refine lv_aload_n hx hb dX12_text_164 rfl (lv_at hl 1 rfl) ?_
            refine lv_dup hx hb dX12_text_165 rfl ?_
            obtain ⟨r_319, v_320, q_321, hf_318, hr_322, hv_323⟩ := (show tp_o_M L K 0 0 (Γ_277 (39, 0, 0)) (f_275 o) from hI.at ho)
            have hx_324 : (v_320 0).toInt = Γ_277 (39, 0, 0) 0 := hv_323 0 (by decide)
            have hx_325 : (v_320 1).toInt = Γ_277 (39, 0, 0) 1 := hv_323 1 (by decide)
            have hx_326 : (v_320 2).toInt = Γ_277 (39, 0, 0) 2 := hv_323 2 (by decide)
            have hx_327 : (v_320 4).toInt = Γ_277 (39, 0, 0) 4 := hv_323 4 (by decide)
            have hx_328 : (v_320 5).toInt = Γ_277 (39, 0, 0) 5 := hv_323 5 (by decide)
            have hx_329 : (v_320 7).toInt = Γ_277 (39, 0, 0) 7 := hv_323 7 (by decide)
            refine tp_get (cy := cy) (ci := 12) (v := .int (v_320 1)) (C := RX12) (T := TX12) (N := 49) hx hb hta inlX12 hown hK hP ho.1 hf_318 rfl 17 (by decide) (hta _ wk_539) (fun _ h9 => h9) rfl dX12_text_166 ?_
            refine lv_iconst (v := 1) hx hb dX12_text_169 (by decide) ?_
            refine lv_iadd hx hb dX12_text_170 ?_
            refine lv_topi (fun z_330 ez_330 => ?_)
            try have iz_330 : z_330.toInt = (v_320 1).toInt + (1 : Int) := by rw [ez_330]; exact tl_addN (v_320 1) 1 rfl rfl (by omega) (by omega)
            obtain ⟨Γ_331, eΓ_331⟩ : ∃ y : tk_G, y = tg Γ_277 (39, 0, 0) 1 z_330.toInt := ⟨_, rfl⟩
            have hv_332 : ∀ i : Nat, i < 16 → ((upd v_320 1 z_330) i).toInt = Γ_331 (39, 0, 0) i := by rw [eΓ_331, tg_f]; exact tp_gi_upd hv_323
            have hI9 : tp_I cy L K Γ_331 (va_up f_275 o (.inr (12, [.ref (r_319 0), .ref (r_319 1), .int (v_320 0), .ref (r_319 2), .ref (r_319 3), .ref (r_319 4), .ref (r_319 5), .ref (r_319 6), .ref (r_319 7), .ref (r_319 8), .ref (r_319 9), .ref (r_319 10), .ref (r_319 11), .ref (r_319 12), .ref (r_319 13), .ref (r_319 14), .ref (r_319 15), .int z_330, .int (v_320 2), .int (v_320 3), .int (v_320 4), .int (v_320 5), .int (v_320 6), .int (v_320 7), .ref (r_319 16), .int (v_320 8), .ref (r_319 17), .int (v_320 9), .ref (r_319 18), .long q_321, .ref (r_319 19), .ref (r_319 20), .int (v_320 10), .int (v_320 11), .int (v_320 12), .ref (r_319 21), .ref (r_319 22), .int (v_320 13), .ref (r_319 23), .int (v_320 14), .int (v_320 15), .ref (r_319 24), .ref (r_319 25), .ref (r_319 26), .ref (r_319 27), .ref (r_319 28), .ref (r_319 29), .ref (r_319 30), .ref (r_319 31)]))) := by have q9 := hv_332; rw [eΓ_331, tg_f] at q9; rw [eΓ_331]; exact hI.setg hU rfl ho (show tp_o_M L K 0 0 (tgu (Γ_277 (39, 0, 0)) 1 z_330.toInt) _ from ⟨r_319, (upd v_320 1 z_330), q_321, rfl, hr_322, q9⟩)
            have hfr9 : ∀ b, (K b).1 ∉ ([39, 42, 43, 44, 52, 45, 46, 53, 47, 54, 55, 56, 48, 49, 50, 51] : List Nat) → va_up f_275 o (.inr (12, [.ref (r_319 0), .ref (r_319 1), .int (v_320 0), .ref (r_319 2), .ref (r_319 3), .ref (r_319 4), .ref (r_319 5), .ref (r_319 6), .ref (r_319 7), .ref (r_319 8), .ref (r_319 9), .ref (r_319 10), .ref (r_319 11), .ref (r_319 12), .ref (r_319 13), .ref (r_319 14), .ref (r_319 15), .int z_330, .int (v_320 2), .int (v_320 3), .int (v_320 4), .int (v_320 5), .int (v_320 6), .int (v_320 7), .ref (r_319 16), .int (v_320 8), .ref (r_319 17), .int (v_320 9), .ref (r_319 18), .long q_321, .ref (r_319 19), .ref (r_319 20), .int (v_320 10), .int (v_320 11), .int (v_320 12), .ref (r_319 21), .ref (r_319 22), .int (v_320 13), .ref (r_319 23), .int (v_320 14), .int (v_320 15), .ref (r_319 24), .ref (r_319 25), .ref (r_319 26), .ref (r_319 27), .ref (r_319 28), .ref (r_319 29), .ref (r_319 30), .ref (r_319 31)])) b = f b := tp_fr hfr ho (by decide)
            refine tp_put (cy := cy) (ci := 12) (v := .int z_330) (ty := tyX12 17) (C := RX12) (T := TX12) (N := 49) hx hb hta inlX12 tyX12 tyX12_ok nmX12 hown hK hP hD hS ho.1 hf_318 rfl 17 (by decide) (hta _ wk_539) (fun _ h9 => h9) rfl (tyX12_ok 17 (by decide)) rfl rfl (Nat.le_of_ble_eq_true rfl) dX12_text_171 (fun H locs hP hD hS => ?_)
            have hP : va_P D vwCl (va_pl L (va_up f_275 o (.inr (12, [.ref (r_319 0), .ref (r_319 1), .int (v_320 0), .ref (r_319 2), .ref (r_319 3), .ref (r_319 4), .ref (r_319 5), .ref (r_319 6), .ref (r_319 7), .ref (r_319 8), .ref (r_319 9), .ref (r_319 10), .ref (r_319 11), .ref (r_319 12), .ref (r_319 13), .ref (r_319 14), .ref (r_319 15), .int z_330, .int (v_320 2), .int (v_320 3), .int (v_320 4), .int (v_320 5), .int (v_320 6), .int (v_320 7), .ref (r_319 16), .int (v_320 8), .ref (r_319 17), .int (v_320 9), .ref (r_319 18), .long q_321, .ref (r_319 19), .ref (r_319 20), .int (v_320 10), .int (v_320 11), .int (v_320 12), .ref (r_319 21), .ref (r_319 22), .int (v_320 13), .ref (r_319 23), .int (v_320 14), .int (v_320 15), .ref (r_319 24), .ref (r_319 25), .ref (r_319 26), .ref (r_319 27), .ref (r_319 28), .ref (r_319 29), .ref (r_319 30), .ref (r_319 31)])))) H := hP
            generalize hfe : va_up f_275 o (.inr (12, [.ref (r_319 0), .ref (r_319 1), .int (v_320 0), .ref (r_319 2), .ref (r_319 3), .ref (r_319 4), .ref (r_319 5), .ref (r_319 6), .ref (r_319 7), .ref (r_319 8), .ref (r_319 9), .ref (r_319 10), .ref (r_319 11), .ref (r_319 12), .ref (r_319 13), .ref (r_319 14), .ref (r_319 15), .int z_330, .int (v_320 2), .int (v_320 3), .int (v_320 4), .int (v_320 5), .int (v_320 6), .int (v_320 7), .ref (r_319 16), .int (v_320 8), .ref (r_319 17), .int (v_320 9), .ref (r_319 18), .long q_321, .ref (r_319 19), .ref (r_319 20), .int (v_320 10), .int (v_320 11), .int (v_320 12), .ref (r_319 21), .ref (r_319 22), .int (v_320 13), .ref (r_319 23), .int (v_320 14), .int (v_320 15), .ref (r_319 24), .ref (r_319 25), .ref (r_319 26), .ref (r_319 27), .ref (r_319 28), .ref (r_319 29), .ref (r_319 30), .ref (r_319 31)])) = f_333 at hP hI9 hfr9
            have hD : va_D A (va_pl L f_333) := tp_D hL hAL
            have hf_334 : f_333 o = .inr (12, [.ref (r_319 0), .ref (r_319 1), .int (v_320 0), .ref (r_319 2), .ref (r_319 3), .ref (r_319 4), .ref (r_319 5), .ref (r_319 6), .ref (r_319 7), .ref (r_319 8), .ref (r_319 9), .ref (r_319 10), .ref (r_319 11), .ref (r_319 12), .ref (r_319 13), .ref (r_319 14), .ref (r_319 15), .int z_330, .int (v_320 2), .int (v_320 3), .int (v_320 4), .int (v_320 5), .int (v_320 6), .int (v_320 7), .ref (r_319 16), .int (v_320 8), .ref (r_319 17), .int (v_320 9), .ref (r_319 18), .long q_321, .ref (r_319 19), .ref (r_319 20), .int (v_320 10), .int (v_320 11), .int (v_320 12), .ref (r_319 21), .ref (r_319 22), .int (v_320 13), .ref (r_319 23), .int (v_320 14), .int (v_320 15), .ref (r_319 24), .ref (r_319 25), .ref (r_319 26), .ref (r_319 27), .ref (r_319 28), .ref (r_319 29), .ref (r_319 30), .ref (r_319 31)]) := by rw [← hfe]; exact va_up_self _ _ _
            clear hfe
            have hI := hI9
            have hfr := hfr9
            clear hI9 hfr9
            have hgr : ∀ κ : tk_K, κ.1 ∉ ([39, 42, 43, 44, 52, 45, 46, 53, 47, 54, 55, 56, 48, 49, 50, 51] : List Nat) → Γ_331 κ = Γ κ := tg_fr hgr eΓ_331 (by decide)
            have hx_335 : (v_320 0).toInt = Γ_331 (39, 0, 0) 0 := hv_332 0 (by decide)
            have hx_336 : z_330.toInt = Γ_331 (39, 0, 0) 1 := hv_332 1 (by decide)
            have hx_337 : (v_320 2).toInt = Γ_331 (39, 0, 0) 2 := hv_332 2 (by decide)
            have hx_338 : (v_320 4).toInt = Γ_331 (39, 0, 0) 4 := hv_332 4 (by decide)
            have hx_339 : (v_320 5).toInt = Γ_331 (39, 0, 0) 5 := hv_332 5 (by decide)
            have hx_340 : (v_320 7).toInt = Γ_331 (39, 0, 0) 7 := hv_332 7 (by decide)
            have wz_331_MLEN : Γ_331 (44, 22, 0) t0.toNat = Γ_277 (44, 22, 0) t0.toNat := by rw [eΓ_331, tg_r (by decide)]
            have wz_331_MCLS : Γ_331 (46, 22, 0) t0.toNat = Γ_277 (46, 22, 0) t0.toNat := by rw [eΓ_331, tg_r (by decide)]
            have wz_331_EATERS : Γ_331 (47, 6, 0) t0.toNat = Γ_277 (47, 6, 0) t0.toNat := by rw [eΓ_331, tg_r (by decide)]
            have wz_331_MBENDS : Γ_331 (48, 22, 0) t0.toNat = Γ_277 (48, 22, 0) t0.toNat := by rw [eΓ_331, tg_r (by decide)]
            have wz_331_GFROM : Γ_331 (49, 22, 0) t0.toNat = Γ_277 (49, 22, 0) t0.toNat := by rw [eΓ_331, tg_r (by decide)]
            have wz_331_GTO : Γ_331 (50, 22, 0) t0.toNat = Γ_277 (50, 22, 0) t0.toNat := by rw [eΓ_331, tg_r (by decide)]
            have wz_331_MWIDE : Γ_331 (51, 22, 0) t0.toNat = Γ_277 (51, 22, 0) t0.toNat := by rw [eΓ_331, tg_r (by decide)]
            have hrg : rg Γ Γ_331 t0 := hrg.same (by rw [eΓ_331]; exact tg_M)
            have htx9 : Γ_331 (42, 3, 0) = Γ (42, 3, 0) := (show Γ_331 (42, 3, 0) = _ from by rw [eΓ_331, tg_rf (by decide)]).trans htx9
            have hrb : rb Γ_331 t0 := hrb.same (by rw [eΓ_331]; exact tg_M)
            have hgN : ∀ κ : tk_K, κ.1 ∉ ([39] : List Nat) → Γ_331 κ = Γ_258 κ := tg_fr hgN eΓ_331 (by decide)
            refine lv_aload_n hx hb dX12_text_174 rfl (lv_at hl 1 rfl) ?_
            have hrq : rq Γ_331 t0 := by obtain ⟨r1, r2, r3, r4, r5, r6⟩ := hrqL; unfold rq; rw [hgN (44, 22, 0) (by decide), hgN (46, 22, 0) (by decide), hgN (47, 6, 0) (by decide), hgN (43, 8800, 0) (by decide), hgN (45, 1056, 0) (by decide)]; exact ⟨by omega, by omega, by omega, by omega, fun q9 => (by have q8 := r5 q9; omega), r6⟩
            refine tq_ciR hS (hAf _ hS.1) (tq_rV (As := []) (rest := []) ⟨hx, hb, hml, hown, hta⟩ (tp_P.pre hK hN hL hU hI hP) (tp_recv hK hP ho.1 hf_334 rfl) lk_X12_330 (r_X12_clauseHere l D cy H.size L K Γ_331 f_333 o (Γ (41, 400, 0)) (Γ (39, 0, 0) 0) t0 ho ((hgr _ (by decide)).trans ht) (by first | omega | (simp only [Int32.toInt_toInt64]; omega) | decide | assumption) (by first | omega | (simp only [Int32.toInt_toInt64]; omega) | decide | assumption) (by first | omega | (simp only [Int32.toInt_toInt64]; omega) | decide | assumption) (by first | omega | (simp only [Int32.toInt_toInt64]; omega) | decide | assumption) (by first | omega | (simp only [Int32.toInt_toInt64]; omega) | decide | assumption)) rfl rfl ⟨Nat.le_of_ble_eq_true rfl, Nat.le_of_ble_eq_true rfl⟩ rfl hl.1 rfl (Nat.le_of_ble_eq_true rfl) dX12_text_175 ⟨Nat.le_of_ble_eq_true rfl, Nat.le_of_ble_eq_true rfl⟩) (fun r_342 f_343 Γ_345 H locs hw_341 hP hI hc_344 hcg_346 hS => ?_)
            have hD : va_D A (va_pl L f_343) := tp_D hL hAL
            have hfr := tp_fr2 hfr hc_344 (by decide)
            have hgr : ∀ κ : tk_K, κ.1 ∉ ([39, 42, 43, 44, 52, 45, 46, 53, 47, 54, 55, 56, 48, 49, 50, 51] : List Nat) → Γ_345 κ = Γ κ := tg_fr2 hgr hcg_346 (by decide)
            obtain ⟨hE_347, hw_341⟩ := hw_341
            have hE_347 : tl_J r_342 (rq Γ_345 t0) := hE_347
            have hw_341 : Γ_345 (39, 0, 0) 0 = Γ_331 (39, 0, 0) 0 ∧ Γ_345 (39, 0, 0) 4 = Γ_331 (39, 0, 0) 4 ∧ Γ_331 (39, 0, 0) 1 ≤ Γ_345 (39, 0, 0) 1 ∧ Γ_345 (39, 0, 0) 1 ≤ (Γ (39, 0, 0) 0) ∧ rg Γ_331 Γ_345 t0 ∧ rb Γ_345 t0 := hw_341
            have htx9 : Γ_345 (42, 3, 0) = Γ (42, 3, 0) := (hcg_346 (42, 3, 0) (by decide)).trans htx9
            have hrg : rg Γ Γ_345 t0 := hrg.trans hw_341.2.2.2.2.1
            have hrb : rb Γ_345 t0 := hw_341.2.2.2.2.2
            refine lv_istore_n (lv' := [(2, .int r_342), (0, .ref o), (1, .int p0)]) hx hb dX12_text_178 rfl hl (by decide) rfl (fun ls hl => ?_)
            refine lv_goto (tgt := 151) hx hb dX12_text_179 (by decide) ?_
            exact ih151 (f_343, Γ_345, r_342) H locs ls (by show (401 - Γ_345 (39, 0, 0) 1).toNat < (401 - Γ_258 (39, 0, 0) 1).toNat; omega) ⟨(show rg Γ Γ_345 t0 from hrg), (show rb Γ_345 t0 from hrb), (show r_342.toInt = 1 → rq Γ_345 t0 from (fun q9 => hE_347.t (fun q8 => by rw [q8] at q9; exact absurd q9 (by decide)))), (show r_342.toInt = 0 ∨ r_342.toInt = 1 from (by rcases hE_347 with ⟨q9, _⟩ | q9 <;> rw [q9] <;> decide)), (show Γ_345 (42, 3, 0) = Γ (42, 3, 0) from htx9), (show Γ_345 (39, 0, 0) 0 = Γ (39, 0, 0) 0 from (by omega)), (show Γ_345 (39, 0, 0) 4 = t0 from (by omega)), (show 0 ≤ Γ_345 (39, 0, 0) 1 ∧ Γ_345 (39, 0, 0) 1 ≤ Γ (39, 0, 0) 0 from (by omega)), hP, hI, hfr, hgr, hS, lv_sub hl [0, 1, 2] rfl⟩
      have hjn76 : ∀ (f_348 : Nat → va_E) (Γ_349 : tk_G) (H : Heap) (locs : List Loc) (ls : Array Slot), (rg Γ Γ_349 t0) → (Γ_349 (42, 3, 0) = Γ (42, 3, 0)) → (Γ_349 (39, 0, 0) 4 = t0) → (Γ_349 (39, 0, 0) 0 = Γ (39, 0, 0) 0) → (Γ_349 (44, 22, 0) t0.toNat = 0) → (Γ_349 (46, 22, 0) t0.toNat = 0) → (t0 ≤ 5 → Γ_349 (47, 6, 0) t0.toNat = 0) → (0 ≤ Γ_349 (50, 22, 0) t0.toNat ∧ Γ_349 (50, 22, 0) t0.toNat ≤ 299) → va_P D vwCl (va_pl L f_348) H → tp_I cy L K Γ_349 f_348 → (∀ b, (K b).1 ∉ ([39, 42, 43, 44, 52, 45, 46, 53, 47, 54, 55, 56, 48, 49, 50, 51] : List Nat) → f_348 b = f b) → (∀ κ : tk_K, κ.1 ∉ ([39, 42, 43, 44, 52, 45, 46, 53, 47, 54, 55, 56, 48, 49, 50, 51] : List Nat) → Γ_349 κ = Γ κ) → va_S A s.heap H locs → lv_has ls 3 [(0, .ref o), (1, .int p0)] → W p l e ((headSpec (tl_w yX12_text cX12_text 3 (some .int)) ({ frames := 11, cells := 0, slots := 0, locals := 243 })).room) s m #[.ref o, .int p0] below meth c H locs 0 0 (MQ below (va_Qi (fun (r : Int32) (u : (Nat → va_E) × tk_G) => tx_ok (u.2 (43, 8800, 0)) (u.2 (45, 1056, 0)) (u.2 (46, 22, 0)) (u.2 (47, 6, 0)) (u.2 (48, 22, 0)) (u.2 (49, 22, 0)) (u.2 (50, 22, 0)) (u.2 (51, 22, 0)) (u.2 (42, 3, 0)) ∧ (0 ≤ u.2 (39, 0, 0) 0 ∧ u.2 (39, 0, 0) 0 ≤ 400) ∧ Γ (42, 3, 0) 1 ≤ u.2 (42, 3, 0) 1) (tp_BG D cy L K Γ f [39, 42, 43, 44, 52, 45, 46, 53, 47, 54, 55, 56, 48, 49, 50, 51]) A) #[.ref o, .int p0] s 0 0 A) (F0 m 76 ls []) := by
        intro f_348 Γ_349  H locs ls hrg htx9 q4 q0 s1 s2 s3 s4 hP hI hfr hgr hS hl
        have hD : va_D A (va_pl L f_348) := tp_D hL hAL
        refine lv_aload_n hx hb dX12_text_76 rfl (lv_at hl 0 rfl) ?_
        obtain ⟨r_351, v_352, q_353, hf_350, hr_354, hv_355⟩ := (show tp_o_M L K 0 0 (Γ_349 (39, 0, 0)) (f_348 o) from hI.at ho)
        have hx_356 : (v_352 0).toInt = Γ_349 (39, 0, 0) 0 := hv_355 0 (by decide)
        have hx_357 : (v_352 1).toInt = Γ_349 (39, 0, 0) 1 := hv_355 1 (by decide)
        have hx_358 : (v_352 2).toInt = Γ_349 (39, 0, 0) 2 := hv_355 2 (by decide)
        have hx_359 : (v_352 4).toInt = Γ_349 (39, 0, 0) 4 := hv_355 4 (by decide)
        have hx_360 : (v_352 5).toInt = Γ_349 (39, 0, 0) 5 := hv_355 5 (by decide)
        have hx_361 : (v_352 7).toInt = Γ_349 (39, 0, 0) 7 := hv_355 7 (by decide)
        refine tp_get (cy := cy) (ci := 12) (v := .ref (r_351 9)) (C := RX12) (T := TX12) (N := 49) hx hb hta inlX12 hown hK hP ho.1 hf_350 rfl 10 (by decide) (hta _ wk_159) (fun _ h9 => h9) rfl dX12_text_77 ?_
        refine lv_aload_n hx hb dX12_text_80 rfl (lv_at hl 0 rfl) ?_
        refine tp_get (cy := cy) (ci := 12) (v := .int (v_352 4)) (C := RX12) (T := TX12) (N := 49) hx hb hta inlX12 hown hK hP ho.1 hf_350 rfl 20 (by decide) (hta _ wk_537) (fun _ h9 => h9) rfl dX12_text_81 ?_
        refine lv_iconst (v := (-1)) hx hb dX12_text_84 (by decide) ?_
        obtain ⟨g_363, hf_362, hg_364⟩ := (show tp_ai cy 54 (22) (f_348 (r_351 9)) from hI.at (show tp_r L K 54 22 0 (r_351 9) from hr_354 9 (by decide)))
        have hn_365 : vp_in (v_352 4) (22) := tl_in (by omega) (by omega)
        have hI9 : tp_I cy L K Γ_349 (va_up f_348 (r_351 9) (.inl (cy 0, 22, .inl (upd g_363 (v_352 4).toNatClampNeg (-1))))) := hI.set (show tp_r L K 54 22 0 (r_351 9) from hr_354 9 (by decide)) (show tp_ai cy 54 (22) _ from ⟨_, rfl, tp_pi_upd hg_364 trivial⟩)
        have hfr9 : ∀ b, (K b).1 ∉ ([39, 42, 43, 44, 52, 45, 46, 53, 47, 54, 55, 56, 48, 49, 50, 51] : List Nat) → va_up f_348 (r_351 9) (.inl (cy 0, 22, .inl (upd g_363 (v_352 4).toNatClampNeg (-1)))) b = f b := tp_fr hfr (show tp_r L K 54 22 0 (r_351 9) from hr_354 9 (by decide)) (by decide)
        refine tp_iast (cy := cy) hx hb hK hP hD hS (show tp_r L K 54 22 0 (r_351 9) from hr_354 9 (by decide)).1 hf_362 hn_365 dX12_text_85 (fun H locs hP hD hS => ?_)
        have hP : va_P D vwCl (va_pl L (va_up f_348 (r_351 9) (.inl (cy 0, 22, .inl (upd g_363 (v_352 4).toNatClampNeg (-1)))))) H := hP
        generalize hfe : va_up f_348 (r_351 9) (.inl (cy 0, 22, .inl (upd g_363 (v_352 4).toNatClampNeg (-1)))) = f_366 at hP hI9 hfr9
        have hD : va_D A (va_pl L f_366) := tp_D hL hAL
        have hf_367 := (show f_366 o = _ from by rw [← hfe, va_up_ne _ _ (tp_ne ho (show tp_r L K 54 22 0 (r_351 9) from hr_354 9 (by decide)) (by decide))]).trans hf_350
        have hf_368 : f_366 (r_351 9) = .inl (cy 0, 22, .inl (upd g_363 (v_352 4).toNatClampNeg (-1))) := by rw [← hfe]; exact va_up_self _ _ _
        clear hfe
        have hI := hI9
        have hfr := hfr9
        clear hI9 hfr9
        refine lv_aload_n hx hb dX12_text_86 rfl (lv_at hl 0 rfl) ?_
        refine tp_get (cy := cy) (ci := 12) (v := .ref (r_351 11)) (C := RX12) (T := TX12) (N := 49) hx hb hta inlX12 hown hK hP ho.1 hf_367 rfl 12 (by decide) (hta _ wk_161) (fun _ h9 => h9) rfl dX12_text_87 ?_
        refine lv_aload_n hx hb dX12_text_90 rfl (lv_at hl 0 rfl) ?_
        refine tp_get (cy := cy) (ci := 12) (v := .int (v_352 4)) (C := RX12) (T := TX12) (N := 49) hx hb hta inlX12 hown hK hP ho.1 hf_367 rfl 20 (by decide) (hta _ wk_537) (fun _ h9 => h9) rfl dX12_text_91 ?_
        refine lv_iconst (v := (-1)) hx hb dX12_text_94 (by decide) ?_
        obtain ⟨g_370, hf_369, hg_371⟩ := (show tp_ai cy 56 (22) (f_366 (r_351 11)) from hI.at (show tp_r L K 56 22 0 (r_351 11) from hr_354 11 (by decide)))
        have hn_372 : vp_in (v_352 4) (22) := tl_in (by omega) (by omega)
        have hI9 : tp_I cy L K Γ_349 (va_up f_366 (r_351 11) (.inl (cy 0, 22, .inl (upd g_370 (v_352 4).toNatClampNeg (-1))))) := hI.set (show tp_r L K 56 22 0 (r_351 11) from hr_354 11 (by decide)) (show tp_ai cy 56 (22) _ from ⟨_, rfl, tp_pi_upd hg_371 trivial⟩)
        have hfr9 : ∀ b, (K b).1 ∉ ([39, 42, 43, 44, 52, 45, 46, 53, 47, 54, 55, 56, 48, 49, 50, 51] : List Nat) → va_up f_366 (r_351 11) (.inl (cy 0, 22, .inl (upd g_370 (v_352 4).toNatClampNeg (-1)))) b = f b := tp_fr hfr (show tp_r L K 56 22 0 (r_351 11) from hr_354 11 (by decide)) (by decide)
        refine tp_iast (cy := cy) hx hb hK hP hD hS (show tp_r L K 56 22 0 (r_351 11) from hr_354 11 (by decide)).1 hf_369 hn_372 dX12_text_95 (fun H locs hP hD hS => ?_)
        have hP : va_P D vwCl (va_pl L (va_up f_366 (r_351 11) (.inl (cy 0, 22, .inl (upd g_370 (v_352 4).toNatClampNeg (-1)))))) H := hP
        generalize hfe : va_up f_366 (r_351 11) (.inl (cy 0, 22, .inl (upd g_370 (v_352 4).toNatClampNeg (-1)))) = f_373 at hP hI9 hfr9
        have hD : va_D A (va_pl L f_373) := tp_D hL hAL
        have hf_374 := (show f_373 o = _ from by rw [← hfe, va_up_ne _ _ (tp_ne ho (show tp_r L K 56 22 0 (r_351 11) from hr_354 11 (by decide)) (by decide))]).trans hf_367
        have hf_375 : f_373 (r_351 11) = .inl (cy 0, 22, .inl (upd g_370 (v_352 4).toNatClampNeg (-1))) := by rw [← hfe]; exact va_up_self _ _ _
        clear hfe
        have hI := hI9
        have hfr := hfr9
        clear hI9 hfr9
        refine lv_aload_n hx hb dX12_text_96 rfl (lv_at hl 0 rfl) ?_
        refine tp_get (cy := cy) (ci := 12) (v := .ref (r_351 12)) (C := RX12) (T := TX12) (N := 49) hx hb hta inlX12 hown hK hP ho.1 hf_374 rfl 13 (by decide) (hta _ wk_162) (fun _ h9 => h9) rfl dX12_text_97 ?_
        refine lv_aload_n hx hb dX12_text_100 rfl (lv_at hl 0 rfl) ?_
        refine tp_get (cy := cy) (ci := 12) (v := .int (v_352 4)) (C := RX12) (T := TX12) (N := 49) hx hb hta inlX12 hown hK hP ho.1 hf_374 rfl 20 (by decide) (hta _ wk_537) (fun _ h9 => h9) rfl dX12_text_101 ?_
        refine lv_iconst (v := (-1)) hx hb dX12_text_104 (by decide) ?_
        obtain ⟨g_377, hf_376, hg_378⟩ := (show tp_gi cy (22) (Γ_349 (48, 22, 0)) (f_373 (r_351 12)) from hI.at (show tp_r L K 48 22 0 (r_351 12) from hr_354 12 (by decide)))
        have hn_379 : vp_in (v_352 4) (22) := tl_in (by omega) (by omega)
        have hj_380 : (v_352 4).toNatClampNeg = t0.toNat := by show (v_352 4).toInt.toNat = _; omega
        have hv_381 : ((-1) : Int32).toInt = (-1 : Int) := by decide
        obtain ⟨Γ_382, eΓ_382⟩ : ∃ y : tk_G, y = tg Γ_349 (48, 22, 0) t0.toNat (-1 : Int) := ⟨_, rfl⟩
        have hI9 : tp_I cy L K Γ_382 (va_up f_373 (r_351 12) (.inl (cy 0, 22, .inl (upd g_377 (v_352 4).toNatClampNeg (-1))))) := by have q9 : tg Γ_349 (48, 22, 0) t0.toNat (-1 : Int) = tg Γ_349 (48, 22, 0) (v_352 4).toNatClampNeg ((-1) : Int32).toInt := (by rw [hj_380, hv_381]); rw [eΓ_382, q9]; exact hI.setg hU rfl (show tp_r L K 48 22 0 (r_351 12) from hr_354 12 (by decide)) (show tp_gi cy (22) (tgu (Γ_349 (48, 22, 0)) _ _) _ from ⟨_, rfl, tp_gi_upd hg_378⟩)
        have hfr9 : ∀ b, (K b).1 ∉ ([39, 42, 43, 44, 52, 45, 46, 53, 47, 54, 55, 56, 48, 49, 50, 51] : List Nat) → va_up f_373 (r_351 12) (.inl (cy 0, 22, .inl (upd g_377 (v_352 4).toNatClampNeg (-1)))) b = f b := tp_fr hfr (show tp_r L K 48 22 0 (r_351 12) from hr_354 12 (by decide)) (by decide)
        refine tp_iast (cy := cy) hx hb hK hP hD hS (show tp_r L K 48 22 0 (r_351 12) from hr_354 12 (by decide)).1 hf_376 hn_379 dX12_text_105 (fun H locs hP hD hS => ?_)
        have hP : va_P D vwCl (va_pl L (va_up f_373 (r_351 12) (.inl (cy 0, 22, .inl (upd g_377 (v_352 4).toNatClampNeg (-1)))))) H := hP
        generalize hfe : va_up f_373 (r_351 12) (.inl (cy 0, 22, .inl (upd g_377 (v_352 4).toNatClampNeg (-1)))) = f_383 at hP hI9 hfr9
        have hD : va_D A (va_pl L f_383) := tp_D hL hAL
        have hf_384 := (show f_383 o = _ from by rw [← hfe, va_up_ne _ _ (tp_ne ho (show tp_r L K 48 22 0 (r_351 12) from hr_354 12 (by decide)) (by decide))]).trans hf_374
        have hf_385 : f_383 (r_351 12) = .inl (cy 0, 22, .inl (upd g_377 (v_352 4).toNatClampNeg (-1))) := by rw [← hfe]; exact va_up_self _ _ _
        clear hfe
        have hI := hI9
        have hfr := hfr9
        clear hI9 hfr9
        clear hj_380 hv_381
        have wxΓ_382_MLEN : Γ_382 (44, 22, 0) t0.toNat = Γ_349 (44, 22, 0) t0.toNat := by rw [eΓ_382, tg_r (by decide)]
        have wxΓ_382_MCLS : Γ_382 (46, 22, 0) t0.toNat = Γ_349 (46, 22, 0) t0.toNat := by rw [eΓ_382, tg_r (by decide)]
        have wxΓ_382_EATERS : Γ_382 (47, 6, 0) t0.toNat = Γ_349 (47, 6, 0) t0.toNat := by rw [eΓ_382, tg_r (by decide)]
        have wxΓ_382_GFROM : Γ_382 (49, 22, 0) t0.toNat = Γ_349 (49, 22, 0) t0.toNat := by rw [eΓ_382, tg_r (by decide)]
        have wxΓ_382_GTO : Γ_382 (50, 22, 0) t0.toNat = Γ_349 (50, 22, 0) t0.toNat := by rw [eΓ_382, tg_r (by decide)]
        have wxΓ_382_MWIDE : Γ_382 (51, 22, 0) t0.toNat = Γ_349 (51, 22, 0) t0.toNat := by rw [eΓ_382, tg_r (by decide)]
        have wsΓ_382 : Γ_382 (48, 22, 0) t0.toNat = (-1 : Int) := by rw [eΓ_382]; exact tg_s
        have hrg : rg Γ Γ_382 t0 := hrg.put (by omega) eΓ_382 (by decide) (by decide)
        have htx9 : Γ_382 (42, 3, 0) = Γ (42, 3, 0) := (show Γ_382 (42, 3, 0) = _ from by rw [eΓ_382, tg_rf (by decide)]).trans htx9
        have hgr : ∀ κ : tk_K, κ.1 ∉ ([39, 42, 43, 44, 52, 45, 46, 53, 47, 54, 55, 56, 48, 49, 50, 51] : List Nat) → Γ_382 κ = Γ κ := tg_fr hgr eΓ_382 (by decide)
        have hv_386 : ∀ i : Nat, i < 16 → (v_352 i).toInt = Γ_382 (39, 0, 0) i := fun i hi => by rw [eΓ_382, tg_r (by decide)]; exact hv_355 i hi
        have hx_387 : (v_352 0).toInt = Γ_382 (39, 0, 0) 0 := hv_386 0 (by decide)
        have hx_388 : (v_352 1).toInt = Γ_382 (39, 0, 0) 1 := hv_386 1 (by decide)
        have hx_389 : (v_352 2).toInt = Γ_382 (39, 0, 0) 2 := hv_386 2 (by decide)
        have hx_390 : (v_352 4).toInt = Γ_382 (39, 0, 0) 4 := hv_386 4 (by decide)
        have hx_391 : (v_352 5).toInt = Γ_382 (39, 0, 0) 5 := hv_386 5 (by decide)
        have hx_392 : (v_352 7).toInt = Γ_382 (39, 0, 0) 7 := hv_386 7 (by decide)
        refine lv_aload_n hx hb dX12_text_106 rfl (lv_at hl 0 rfl) ?_
        refine tp_get (cy := cy) (ci := 12) (v := .ref (r_351 13)) (C := RX12) (T := TX12) (N := 49) hx hb hta inlX12 hown hK hP ho.1 hf_384 rfl 14 (by decide) (hta _ wk_163) (fun _ h9 => h9) rfl dX12_text_107 ?_
        refine lv_aload_n hx hb dX12_text_110 rfl (lv_at hl 0 rfl) ?_
        refine tp_get (cy := cy) (ci := 12) (v := .int (v_352 4)) (C := RX12) (T := TX12) (N := 49) hx hb hta inlX12 hown hK hP ho.1 hf_384 rfl 20 (by decide) (hta _ wk_537) (fun _ h9 => h9) rfl dX12_text_111 ?_
        refine lv_iconst (v := (-1)) hx hb dX12_text_114 (by decide) ?_
        obtain ⟨g_394, hf_393, hg_395⟩ := (show tp_gi cy (22) (Γ_382 (49, 22, 0)) (f_383 (r_351 13)) from hI.at (show tp_r L K 49 22 0 (r_351 13) from hr_354 13 (by decide)))
        have hn_396 : vp_in (v_352 4) (22) := tl_in (by omega) (by omega)
        have hj_397 : (v_352 4).toNatClampNeg = t0.toNat := by show (v_352 4).toInt.toNat = _; omega
        have hv_398 : ((-1) : Int32).toInt = (-1 : Int) := by decide
        obtain ⟨Γ_399, eΓ_399⟩ : ∃ y : tk_G, y = tg Γ_382 (49, 22, 0) t0.toNat (-1 : Int) := ⟨_, rfl⟩
        have hI9 : tp_I cy L K Γ_399 (va_up f_383 (r_351 13) (.inl (cy 0, 22, .inl (upd g_394 (v_352 4).toNatClampNeg (-1))))) := by have q9 : tg Γ_382 (49, 22, 0) t0.toNat (-1 : Int) = tg Γ_382 (49, 22, 0) (v_352 4).toNatClampNeg ((-1) : Int32).toInt := (by rw [hj_397, hv_398]); rw [eΓ_399, q9]; exact hI.setg hU rfl (show tp_r L K 49 22 0 (r_351 13) from hr_354 13 (by decide)) (show tp_gi cy (22) (tgu (Γ_382 (49, 22, 0)) _ _) _ from ⟨_, rfl, tp_gi_upd hg_395⟩)
        have hfr9 : ∀ b, (K b).1 ∉ ([39, 42, 43, 44, 52, 45, 46, 53, 47, 54, 55, 56, 48, 49, 50, 51] : List Nat) → va_up f_383 (r_351 13) (.inl (cy 0, 22, .inl (upd g_394 (v_352 4).toNatClampNeg (-1)))) b = f b := tp_fr hfr (show tp_r L K 49 22 0 (r_351 13) from hr_354 13 (by decide)) (by decide)
        refine tp_iast (cy := cy) hx hb hK hP hD hS (show tp_r L K 49 22 0 (r_351 13) from hr_354 13 (by decide)).1 hf_393 hn_396 dX12_text_115 (fun H locs hP hD hS => ?_)
        have hP : va_P D vwCl (va_pl L (va_up f_383 (r_351 13) (.inl (cy 0, 22, .inl (upd g_394 (v_352 4).toNatClampNeg (-1)))))) H := hP
        generalize hfe : va_up f_383 (r_351 13) (.inl (cy 0, 22, .inl (upd g_394 (v_352 4).toNatClampNeg (-1)))) = f_400 at hP hI9 hfr9
        have hD : va_D A (va_pl L f_400) := tp_D hL hAL
        have hf_401 := (show f_400 o = _ from by rw [← hfe, va_up_ne _ _ (tp_ne ho (show tp_r L K 49 22 0 (r_351 13) from hr_354 13 (by decide)) (by decide))]).trans hf_384
        have hf_402 : f_400 (r_351 13) = .inl (cy 0, 22, .inl (upd g_394 (v_352 4).toNatClampNeg (-1))) := by rw [← hfe]; exact va_up_self _ _ _
        clear hfe
        have hI := hI9
        have hfr := hfr9
        clear hI9 hfr9
        clear hj_397 hv_398
        have wxΓ_399_MLEN : Γ_399 (44, 22, 0) t0.toNat = Γ_382 (44, 22, 0) t0.toNat := by rw [eΓ_399, tg_r (by decide)]
        have wxΓ_399_MCLS : Γ_399 (46, 22, 0) t0.toNat = Γ_382 (46, 22, 0) t0.toNat := by rw [eΓ_399, tg_r (by decide)]
        have wxΓ_399_EATERS : Γ_399 (47, 6, 0) t0.toNat = Γ_382 (47, 6, 0) t0.toNat := by rw [eΓ_399, tg_r (by decide)]
        have wxΓ_399_MBENDS : Γ_399 (48, 22, 0) t0.toNat = Γ_382 (48, 22, 0) t0.toNat := by rw [eΓ_399, tg_r (by decide)]
        have wxΓ_399_GTO : Γ_399 (50, 22, 0) t0.toNat = Γ_382 (50, 22, 0) t0.toNat := by rw [eΓ_399, tg_r (by decide)]
        have wxΓ_399_MWIDE : Γ_399 (51, 22, 0) t0.toNat = Γ_382 (51, 22, 0) t0.toNat := by rw [eΓ_399, tg_r (by decide)]
        have wsΓ_399 : Γ_399 (49, 22, 0) t0.toNat = (-1 : Int) := by rw [eΓ_399]; exact tg_s
        have hrg : rg Γ Γ_399 t0 := hrg.put (by omega) eΓ_399 (by decide) (by decide)
        have htx9 : Γ_399 (42, 3, 0) = Γ (42, 3, 0) := (show Γ_399 (42, 3, 0) = _ from by rw [eΓ_399, tg_rf (by decide)]).trans htx9
        have hgr : ∀ κ : tk_K, κ.1 ∉ ([39, 42, 43, 44, 52, 45, 46, 53, 47, 54, 55, 56, 48, 49, 50, 51] : List Nat) → Γ_399 κ = Γ κ := tg_fr hgr eΓ_399 (by decide)
        have hv_403 : ∀ i : Nat, i < 16 → (v_352 i).toInt = Γ_399 (39, 0, 0) i := fun i hi => by rw [eΓ_399, tg_r (by decide)]; exact hv_386 i hi
        have hx_404 : (v_352 0).toInt = Γ_399 (39, 0, 0) 0 := hv_403 0 (by decide)
        have hx_405 : (v_352 1).toInt = Γ_399 (39, 0, 0) 1 := hv_403 1 (by decide)
        have hx_406 : (v_352 2).toInt = Γ_399 (39, 0, 0) 2 := hv_403 2 (by decide)
        have hx_407 : (v_352 4).toInt = Γ_399 (39, 0, 0) 4 := hv_403 4 (by decide)
        have hx_408 : (v_352 5).toInt = Γ_399 (39, 0, 0) 5 := hv_403 5 (by decide)
        have hx_409 : (v_352 7).toInt = Γ_399 (39, 0, 0) 7 := hv_403 7 (by decide)
        refine lv_aload_n hx hb dX12_text_116 rfl (lv_at hl 0 rfl) ?_
        refine tp_get (cy := cy) (ci := 12) (v := .ref (r_351 15)) (C := RX12) (T := TX12) (N := 49) hx hb hta inlX12 hown hK hP ho.1 hf_401 rfl 16 (by decide) (hta _ wk_165) (fun _ h9 => h9) rfl dX12_text_117 ?_
        refine lv_aload_n hx hb dX12_text_120 rfl (lv_at hl 0 rfl) ?_
        refine tp_get (cy := cy) (ci := 12) (v := .int (v_352 4)) (C := RX12) (T := TX12) (N := 49) hx hb hta inlX12 hown hK hP ho.1 hf_401 rfl 20 (by decide) (hta _ wk_537) (fun _ h9 => h9) rfl dX12_text_121 ?_
        refine lv_iconst (v := (-1)) hx hb dX12_text_124 (by decide) ?_
        obtain ⟨g_411, hf_410, hg_412⟩ := (show tp_gi cy (22) (Γ_399 (51, 22, 0)) (f_400 (r_351 15)) from hI.at (show tp_r L K 51 22 0 (r_351 15) from hr_354 15 (by decide)))
        have hn_413 : vp_in (v_352 4) (22) := tl_in (by omega) (by omega)
        have hj_414 : (v_352 4).toNatClampNeg = t0.toNat := by show (v_352 4).toInt.toNat = _; omega
        have hv_415 : ((-1) : Int32).toInt = (-1 : Int) := by decide
        obtain ⟨Γ_416, eΓ_416⟩ : ∃ y : tk_G, y = tg Γ_399 (51, 22, 0) t0.toNat (-1 : Int) := ⟨_, rfl⟩
        have hI9 : tp_I cy L K Γ_416 (va_up f_400 (r_351 15) (.inl (cy 0, 22, .inl (upd g_411 (v_352 4).toNatClampNeg (-1))))) := by have q9 : tg Γ_399 (51, 22, 0) t0.toNat (-1 : Int) = tg Γ_399 (51, 22, 0) (v_352 4).toNatClampNeg ((-1) : Int32).toInt := (by rw [hj_414, hv_415]); rw [eΓ_416, q9]; exact hI.setg hU rfl (show tp_r L K 51 22 0 (r_351 15) from hr_354 15 (by decide)) (show tp_gi cy (22) (tgu (Γ_399 (51, 22, 0)) _ _) _ from ⟨_, rfl, tp_gi_upd hg_412⟩)
        have hfr9 : ∀ b, (K b).1 ∉ ([39, 42, 43, 44, 52, 45, 46, 53, 47, 54, 55, 56, 48, 49, 50, 51] : List Nat) → va_up f_400 (r_351 15) (.inl (cy 0, 22, .inl (upd g_411 (v_352 4).toNatClampNeg (-1)))) b = f b := tp_fr hfr (show tp_r L K 51 22 0 (r_351 15) from hr_354 15 (by decide)) (by decide)
        refine tp_iast (cy := cy) hx hb hK hP hD hS (show tp_r L K 51 22 0 (r_351 15) from hr_354 15 (by decide)).1 hf_410 hn_413 dX12_text_125 (fun H locs hP hD hS => ?_)
        have hP : va_P D vwCl (va_pl L (va_up f_400 (r_351 15) (.inl (cy 0, 22, .inl (upd g_411 (v_352 4).toNatClampNeg (-1)))))) H := hP
        generalize hfe : va_up f_400 (r_351 15) (.inl (cy 0, 22, .inl (upd g_411 (v_352 4).toNatClampNeg (-1)))) = f_417 at hP hI9 hfr9
        have hD : va_D A (va_pl L f_417) := tp_D hL hAL
        have hf_418 := (show f_417 o = _ from by rw [← hfe, va_up_ne _ _ (tp_ne ho (show tp_r L K 51 22 0 (r_351 15) from hr_354 15 (by decide)) (by decide))]).trans hf_401
        have hf_419 : f_417 (r_351 15) = .inl (cy 0, 22, .inl (upd g_411 (v_352 4).toNatClampNeg (-1))) := by rw [← hfe]; exact va_up_self _ _ _
        clear hfe
        have hI := hI9
        have hfr := hfr9
        clear hI9 hfr9
        clear hj_414 hv_415
        have wxΓ_416_MLEN : Γ_416 (44, 22, 0) t0.toNat = Γ_399 (44, 22, 0) t0.toNat := by rw [eΓ_416, tg_r (by decide)]
        have wxΓ_416_MCLS : Γ_416 (46, 22, 0) t0.toNat = Γ_399 (46, 22, 0) t0.toNat := by rw [eΓ_416, tg_r (by decide)]
        have wxΓ_416_EATERS : Γ_416 (47, 6, 0) t0.toNat = Γ_399 (47, 6, 0) t0.toNat := by rw [eΓ_416, tg_r (by decide)]
        have wxΓ_416_MBENDS : Γ_416 (48, 22, 0) t0.toNat = Γ_399 (48, 22, 0) t0.toNat := by rw [eΓ_416, tg_r (by decide)]
        have wxΓ_416_GFROM : Γ_416 (49, 22, 0) t0.toNat = Γ_399 (49, 22, 0) t0.toNat := by rw [eΓ_416, tg_r (by decide)]
        have wxΓ_416_GTO : Γ_416 (50, 22, 0) t0.toNat = Γ_399 (50, 22, 0) t0.toNat := by rw [eΓ_416, tg_r (by decide)]
        have wsΓ_416 : Γ_416 (51, 22, 0) t0.toNat = (-1 : Int) := by rw [eΓ_416]; exact tg_s
        have hrg : rg Γ Γ_416 t0 := hrg.put (by omega) eΓ_416 (by decide) (by decide)
        have htx9 : Γ_416 (42, 3, 0) = Γ (42, 3, 0) := (show Γ_416 (42, 3, 0) = _ from by rw [eΓ_416, tg_rf (by decide)]).trans htx9
        have hgr : ∀ κ : tk_K, κ.1 ∉ ([39, 42, 43, 44, 52, 45, 46, 53, 47, 54, 55, 56, 48, 49, 50, 51] : List Nat) → Γ_416 κ = Γ κ := tg_fr hgr eΓ_416 (by decide)
        have hv_420 : ∀ i : Nat, i < 16 → (v_352 i).toInt = Γ_416 (39, 0, 0) i := fun i hi => by rw [eΓ_416, tg_r (by decide)]; exact hv_403 i hi
        have hx_421 : (v_352 0).toInt = Γ_416 (39, 0, 0) 0 := hv_420 0 (by decide)
        have hx_422 : (v_352 1).toInt = Γ_416 (39, 0, 0) 1 := hv_420 1 (by decide)
        have hx_423 : (v_352 2).toInt = Γ_416 (39, 0, 0) 2 := hv_420 2 (by decide)
        have hx_424 : (v_352 4).toInt = Γ_416 (39, 0, 0) 4 := hv_420 4 (by decide)
        have hx_425 : (v_352 5).toInt = Γ_416 (39, 0, 0) 5 := hv_420 5 (by decide)
        have hx_426 : (v_352 7).toInt = Γ_416 (39, 0, 0) 7 := hv_420 7 (by decide)
        refine lv_aload_n hx hb dX12_text_126 rfl (lv_at hl 0 rfl) ?_
        refine lv_iconst (v := 0) hx hb dX12_text_127 (by decide) ?_
        obtain ⟨Γ_427, eΓ_427⟩ : ∃ y : tk_G, y = tg Γ_416 (39, 0, 0) 7 (0 : Int) := ⟨_, rfl⟩
        have hv_428 : ∀ i : Nat, i < 16 → ((upd v_352 7 (0 : Int32)) i).toInt = Γ_427 (39, 0, 0) i := by rw [eΓ_427, tg_f]; exact tp_gi_upd hv_420
        have hI9 : tp_I cy L K Γ_427 (va_up f_417 o (.inr (12, [.ref (r_351 0), .ref (r_351 1), .int (v_352 0), .ref (r_351 2), .ref (r_351 3), .ref (r_351 4), .ref (r_351 5), .ref (r_351 6), .ref (r_351 7), .ref (r_351 8), .ref (r_351 9), .ref (r_351 10), .ref (r_351 11), .ref (r_351 12), .ref (r_351 13), .ref (r_351 14), .ref (r_351 15), .int (v_352 1), .int (v_352 2), .int (v_352 3), .int (v_352 4), .int (v_352 5), .int (v_352 6), .int 0, .ref (r_351 16), .int (v_352 8), .ref (r_351 17), .int (v_352 9), .ref (r_351 18), .long q_353, .ref (r_351 19), .ref (r_351 20), .int (v_352 10), .int (v_352 11), .int (v_352 12), .ref (r_351 21), .ref (r_351 22), .int (v_352 13), .ref (r_351 23), .int (v_352 14), .int (v_352 15), .ref (r_351 24), .ref (r_351 25), .ref (r_351 26), .ref (r_351 27), .ref (r_351 28), .ref (r_351 29), .ref (r_351 30), .ref (r_351 31)]))) := by have q9 := hv_428; rw [eΓ_427, tg_f] at q9; rw [eΓ_427]; exact hI.setg hU rfl ho (show tp_o_M L K 0 0 (tgu (Γ_416 (39, 0, 0)) 7 (0 : Int)) _ from ⟨r_351, (upd v_352 7 (0 : Int32)), q_353, rfl, hr_354, q9⟩)
        have hfr9 : ∀ b, (K b).1 ∉ ([39, 42, 43, 44, 52, 45, 46, 53, 47, 54, 55, 56, 48, 49, 50, 51] : List Nat) → va_up f_417 o (.inr (12, [.ref (r_351 0), .ref (r_351 1), .int (v_352 0), .ref (r_351 2), .ref (r_351 3), .ref (r_351 4), .ref (r_351 5), .ref (r_351 6), .ref (r_351 7), .ref (r_351 8), .ref (r_351 9), .ref (r_351 10), .ref (r_351 11), .ref (r_351 12), .ref (r_351 13), .ref (r_351 14), .ref (r_351 15), .int (v_352 1), .int (v_352 2), .int (v_352 3), .int (v_352 4), .int (v_352 5), .int (v_352 6), .int 0, .ref (r_351 16), .int (v_352 8), .ref (r_351 17), .int (v_352 9), .ref (r_351 18), .long q_353, .ref (r_351 19), .ref (r_351 20), .int (v_352 10), .int (v_352 11), .int (v_352 12), .ref (r_351 21), .ref (r_351 22), .int (v_352 13), .ref (r_351 23), .int (v_352 14), .int (v_352 15), .ref (r_351 24), .ref (r_351 25), .ref (r_351 26), .ref (r_351 27), .ref (r_351 28), .ref (r_351 29), .ref (r_351 30), .ref (r_351 31)])) b = f b := tp_fr hfr ho (by decide)
        refine tp_put (cy := cy) (ci := 12) (v := .int 0) (ty := tyX12 23) (C := RX12) (T := TX12) (N := 49) hx hb hta inlX12 tyX12 tyX12_ok nmX12 hown hK hP hD hS ho.1 hf_418 rfl 23 (by decide) (hta _ wk_538) (fun _ h9 => h9) rfl (tyX12_ok 23 (by decide)) rfl rfl (Nat.le_of_ble_eq_true rfl) dX12_text_128 (fun H locs hP hD hS => ?_)
        have hP : va_P D vwCl (va_pl L (va_up f_417 o (.inr (12, [.ref (r_351 0), .ref (r_351 1), .int (v_352 0), .ref (r_351 2), .ref (r_351 3), .ref (r_351 4), .ref (r_351 5), .ref (r_351 6), .ref (r_351 7), .ref (r_351 8), .ref (r_351 9), .ref (r_351 10), .ref (r_351 11), .ref (r_351 12), .ref (r_351 13), .ref (r_351 14), .ref (r_351 15), .int (v_352 1), .int (v_352 2), .int (v_352 3), .int (v_352 4), .int (v_352 5), .int (v_352 6), .int 0, .ref (r_351 16), .int (v_352 8), .ref (r_351 17), .int (v_352 9), .ref (r_351 18), .long q_353, .ref (r_351 19), .ref (r_351 20), .int (v_352 10), .int (v_352 11), .int (v_352 12), .ref (r_351 21), .ref (r_351 22), .int (v_352 13), .ref (r_351 23), .int (v_352 14), .int (v_352 15), .ref (r_351 24), .ref (r_351 25), .ref (r_351 26), .ref (r_351 27), .ref (r_351 28), .ref (r_351 29), .ref (r_351 30), .ref (r_351 31)])))) H := hP
        generalize hfe : va_up f_417 o (.inr (12, [.ref (r_351 0), .ref (r_351 1), .int (v_352 0), .ref (r_351 2), .ref (r_351 3), .ref (r_351 4), .ref (r_351 5), .ref (r_351 6), .ref (r_351 7), .ref (r_351 8), .ref (r_351 9), .ref (r_351 10), .ref (r_351 11), .ref (r_351 12), .ref (r_351 13), .ref (r_351 14), .ref (r_351 15), .int (v_352 1), .int (v_352 2), .int (v_352 3), .int (v_352 4), .int (v_352 5), .int (v_352 6), .int 0, .ref (r_351 16), .int (v_352 8), .ref (r_351 17), .int (v_352 9), .ref (r_351 18), .long q_353, .ref (r_351 19), .ref (r_351 20), .int (v_352 10), .int (v_352 11), .int (v_352 12), .ref (r_351 21), .ref (r_351 22), .int (v_352 13), .ref (r_351 23), .int (v_352 14), .int (v_352 15), .ref (r_351 24), .ref (r_351 25), .ref (r_351 26), .ref (r_351 27), .ref (r_351 28), .ref (r_351 29), .ref (r_351 30), .ref (r_351 31)])) = f_429 at hP hI9 hfr9
        have hD : va_D A (va_pl L f_429) := tp_D hL hAL
        have hf_430 : f_429 o = .inr (12, [.ref (r_351 0), .ref (r_351 1), .int (v_352 0), .ref (r_351 2), .ref (r_351 3), .ref (r_351 4), .ref (r_351 5), .ref (r_351 6), .ref (r_351 7), .ref (r_351 8), .ref (r_351 9), .ref (r_351 10), .ref (r_351 11), .ref (r_351 12), .ref (r_351 13), .ref (r_351 14), .ref (r_351 15), .int (v_352 1), .int (v_352 2), .int (v_352 3), .int (v_352 4), .int (v_352 5), .int (v_352 6), .int 0, .ref (r_351 16), .int (v_352 8), .ref (r_351 17), .int (v_352 9), .ref (r_351 18), .long q_353, .ref (r_351 19), .ref (r_351 20), .int (v_352 10), .int (v_352 11), .int (v_352 12), .ref (r_351 21), .ref (r_351 22), .int (v_352 13), .ref (r_351 23), .int (v_352 14), .int (v_352 15), .ref (r_351 24), .ref (r_351 25), .ref (r_351 26), .ref (r_351 27), .ref (r_351 28), .ref (r_351 29), .ref (r_351 30), .ref (r_351 31)]) := by rw [← hfe]; exact va_up_self _ _ _
        clear hfe
        have hI := hI9
        have hfr := hfr9
        clear hI9 hfr9
        have hgr : ∀ κ : tk_K, κ.1 ∉ ([39, 42, 43, 44, 52, 45, 46, 53, 47, 54, 55, 56, 48, 49, 50, 51] : List Nat) → Γ_427 κ = Γ κ := tg_fr hgr eΓ_427 (by decide)
        have hx_431 : (v_352 0).toInt = Γ_427 (39, 0, 0) 0 := hv_428 0 (by decide)
        have hx_432 : (v_352 1).toInt = Γ_427 (39, 0, 0) 1 := hv_428 1 (by decide)
        have hx_433 : (v_352 2).toInt = Γ_427 (39, 0, 0) 2 := hv_428 2 (by decide)
        have hx_434 : (v_352 4).toInt = Γ_427 (39, 0, 0) 4 := hv_428 4 (by decide)
        have hx_435 : (v_352 5).toInt = Γ_427 (39, 0, 0) 5 := hv_428 5 (by decide)
        have hx_436 : (0 : Int) = Γ_427 (39, 0, 0) 7 := hv_428 7 (by decide)
        have wz_427_MLEN : Γ_427 (44, 22, 0) t0.toNat = Γ_416 (44, 22, 0) t0.toNat := by rw [eΓ_427, tg_r (by decide)]
        have wz_427_MCLS : Γ_427 (46, 22, 0) t0.toNat = Γ_416 (46, 22, 0) t0.toNat := by rw [eΓ_427, tg_r (by decide)]
        have wz_427_EATERS : Γ_427 (47, 6, 0) t0.toNat = Γ_416 (47, 6, 0) t0.toNat := by rw [eΓ_427, tg_r (by decide)]
        have wz_427_MBENDS : Γ_427 (48, 22, 0) t0.toNat = Γ_416 (48, 22, 0) t0.toNat := by rw [eΓ_427, tg_r (by decide)]
        have wz_427_GFROM : Γ_427 (49, 22, 0) t0.toNat = Γ_416 (49, 22, 0) t0.toNat := by rw [eΓ_427, tg_r (by decide)]
        have wz_427_GTO : Γ_427 (50, 22, 0) t0.toNat = Γ_416 (50, 22, 0) t0.toNat := by rw [eΓ_427, tg_r (by decide)]
        have wz_427_MWIDE : Γ_427 (51, 22, 0) t0.toNat = Γ_416 (51, 22, 0) t0.toNat := by rw [eΓ_427, tg_r (by decide)]
        have hrg : rg Γ Γ_427 t0 := hrg.same (by rw [eΓ_427]; exact tg_M)
        have htx9 : Γ_427 (42, 3, 0) = Γ (42, 3, 0) := (show Γ_427 (42, 3, 0) = _ from by rw [eΓ_427, tg_rf (by decide)]).trans htx9
        refine lv_aload_n hx hb dX12_text_131 rfl (lv_at hl 0 rfl) ?_
        refine lv_iconst (v := 0) hx hb dX12_text_132 (by decide) ?_
        obtain ⟨Γ_437, eΓ_437⟩ : ∃ y : tk_G, y = tg Γ_427 (39, 0, 0) 1 (0 : Int) := ⟨_, rfl⟩
        have hv_438 : ∀ i : Nat, i < 16 → ((upd (upd v_352 7 (0 : Int32)) 1 (0 : Int32)) i).toInt = Γ_437 (39, 0, 0) i := by rw [eΓ_437, tg_f]; exact tp_gi_upd hv_428
        have hI9 : tp_I cy L K Γ_437 (va_up f_429 o (.inr (12, [.ref (r_351 0), .ref (r_351 1), .int (v_352 0), .ref (r_351 2), .ref (r_351 3), .ref (r_351 4), .ref (r_351 5), .ref (r_351 6), .ref (r_351 7), .ref (r_351 8), .ref (r_351 9), .ref (r_351 10), .ref (r_351 11), .ref (r_351 12), .ref (r_351 13), .ref (r_351 14), .ref (r_351 15), .int 0, .int (v_352 2), .int (v_352 3), .int (v_352 4), .int (v_352 5), .int (v_352 6), .int 0, .ref (r_351 16), .int (v_352 8), .ref (r_351 17), .int (v_352 9), .ref (r_351 18), .long q_353, .ref (r_351 19), .ref (r_351 20), .int (v_352 10), .int (v_352 11), .int (v_352 12), .ref (r_351 21), .ref (r_351 22), .int (v_352 13), .ref (r_351 23), .int (v_352 14), .int (v_352 15), .ref (r_351 24), .ref (r_351 25), .ref (r_351 26), .ref (r_351 27), .ref (r_351 28), .ref (r_351 29), .ref (r_351 30), .ref (r_351 31)]))) := by have q9 := hv_438; rw [eΓ_437, tg_f] at q9; rw [eΓ_437]; exact hI.setg hU rfl ho (show tp_o_M L K 0 0 (tgu (Γ_427 (39, 0, 0)) 1 (0 : Int)) _ from ⟨r_351, (upd (upd v_352 7 (0 : Int32)) 1 (0 : Int32)), q_353, rfl, hr_354, q9⟩)
        have hfr9 : ∀ b, (K b).1 ∉ ([39, 42, 43, 44, 52, 45, 46, 53, 47, 54, 55, 56, 48, 49, 50, 51] : List Nat) → va_up f_429 o (.inr (12, [.ref (r_351 0), .ref (r_351 1), .int (v_352 0), .ref (r_351 2), .ref (r_351 3), .ref (r_351 4), .ref (r_351 5), .ref (r_351 6), .ref (r_351 7), .ref (r_351 8), .ref (r_351 9), .ref (r_351 10), .ref (r_351 11), .ref (r_351 12), .ref (r_351 13), .ref (r_351 14), .ref (r_351 15), .int 0, .int (v_352 2), .int (v_352 3), .int (v_352 4), .int (v_352 5), .int (v_352 6), .int 0, .ref (r_351 16), .int (v_352 8), .ref (r_351 17), .int (v_352 9), .ref (r_351 18), .long q_353, .ref (r_351 19), .ref (r_351 20), .int (v_352 10), .int (v_352 11), .int (v_352 12), .ref (r_351 21), .ref (r_351 22), .int (v_352 13), .ref (r_351 23), .int (v_352 14), .int (v_352 15), .ref (r_351 24), .ref (r_351 25), .ref (r_351 26), .ref (r_351 27), .ref (r_351 28), .ref (r_351 29), .ref (r_351 30), .ref (r_351 31)])) b = f b := tp_fr hfr ho (by decide)
        refine tp_put (cy := cy) (ci := 12) (v := .int 0) (ty := tyX12 17) (C := RX12) (T := TX12) (N := 49) hx hb hta inlX12 tyX12 tyX12_ok nmX12 hown hK hP hD hS ho.1 hf_430 rfl 17 (by decide) (hta _ wk_539) (fun _ h9 => h9) rfl (tyX12_ok 17 (by decide)) rfl rfl (Nat.le_of_ble_eq_true rfl) dX12_text_133 (fun H locs hP hD hS => ?_)
        have hP : va_P D vwCl (va_pl L (va_up f_429 o (.inr (12, [.ref (r_351 0), .ref (r_351 1), .int (v_352 0), .ref (r_351 2), .ref (r_351 3), .ref (r_351 4), .ref (r_351 5), .ref (r_351 6), .ref (r_351 7), .ref (r_351 8), .ref (r_351 9), .ref (r_351 10), .ref (r_351 11), .ref (r_351 12), .ref (r_351 13), .ref (r_351 14), .ref (r_351 15), .int 0, .int (v_352 2), .int (v_352 3), .int (v_352 4), .int (v_352 5), .int (v_352 6), .int 0, .ref (r_351 16), .int (v_352 8), .ref (r_351 17), .int (v_352 9), .ref (r_351 18), .long q_353, .ref (r_351 19), .ref (r_351 20), .int (v_352 10), .int (v_352 11), .int (v_352 12), .ref (r_351 21), .ref (r_351 22), .int (v_352 13), .ref (r_351 23), .int (v_352 14), .int (v_352 15), .ref (r_351 24), .ref (r_351 25), .ref (r_351 26), .ref (r_351 27), .ref (r_351 28), .ref (r_351 29), .ref (r_351 30), .ref (r_351 31)])))) H := hP
        generalize hfe : va_up f_429 o (.inr (12, [.ref (r_351 0), .ref (r_351 1), .int (v_352 0), .ref (r_351 2), .ref (r_351 3), .ref (r_351 4), .ref (r_351 5), .ref (r_351 6), .ref (r_351 7), .ref (r_351 8), .ref (r_351 9), .ref (r_351 10), .ref (r_351 11), .ref (r_351 12), .ref (r_351 13), .ref (r_351 14), .ref (r_351 15), .int 0, .int (v_352 2), .int (v_352 3), .int (v_352 4), .int (v_352 5), .int (v_352 6), .int 0, .ref (r_351 16), .int (v_352 8), .ref (r_351 17), .int (v_352 9), .ref (r_351 18), .long q_353, .ref (r_351 19), .ref (r_351 20), .int (v_352 10), .int (v_352 11), .int (v_352 12), .ref (r_351 21), .ref (r_351 22), .int (v_352 13), .ref (r_351 23), .int (v_352 14), .int (v_352 15), .ref (r_351 24), .ref (r_351 25), .ref (r_351 26), .ref (r_351 27), .ref (r_351 28), .ref (r_351 29), .ref (r_351 30), .ref (r_351 31)])) = f_439 at hP hI9 hfr9
        have hD : va_D A (va_pl L f_439) := tp_D hL hAL
        have hf_440 : f_439 o = .inr (12, [.ref (r_351 0), .ref (r_351 1), .int (v_352 0), .ref (r_351 2), .ref (r_351 3), .ref (r_351 4), .ref (r_351 5), .ref (r_351 6), .ref (r_351 7), .ref (r_351 8), .ref (r_351 9), .ref (r_351 10), .ref (r_351 11), .ref (r_351 12), .ref (r_351 13), .ref (r_351 14), .ref (r_351 15), .int 0, .int (v_352 2), .int (v_352 3), .int (v_352 4), .int (v_352 5), .int (v_352 6), .int 0, .ref (r_351 16), .int (v_352 8), .ref (r_351 17), .int (v_352 9), .ref (r_351 18), .long q_353, .ref (r_351 19), .ref (r_351 20), .int (v_352 10), .int (v_352 11), .int (v_352 12), .ref (r_351 21), .ref (r_351 22), .int (v_352 13), .ref (r_351 23), .int (v_352 14), .int (v_352 15), .ref (r_351 24), .ref (r_351 25), .ref (r_351 26), .ref (r_351 27), .ref (r_351 28), .ref (r_351 29), .ref (r_351 30), .ref (r_351 31)]) := by rw [← hfe]; exact va_up_self _ _ _
        clear hfe
        have hI := hI9
        have hfr := hfr9
        clear hI9 hfr9
        have hgr : ∀ κ : tk_K, κ.1 ∉ ([39, 42, 43, 44, 52, 45, 46, 53, 47, 54, 55, 56, 48, 49, 50, 51] : List Nat) → Γ_437 κ = Γ κ := tg_fr hgr eΓ_437 (by decide)
        have hx_441 : (v_352 0).toInt = Γ_437 (39, 0, 0) 0 := hv_438 0 (by decide)
        have hx_442 : (0 : Int) = Γ_437 (39, 0, 0) 1 := hv_438 1 (by decide)
        have hx_443 : (v_352 2).toInt = Γ_437 (39, 0, 0) 2 := hv_438 2 (by decide)
        have hx_444 : (v_352 4).toInt = Γ_437 (39, 0, 0) 4 := hv_438 4 (by decide)
        have hx_445 : (v_352 5).toInt = Γ_437 (39, 0, 0) 5 := hv_438 5 (by decide)
        have hx_446 : (0 : Int) = Γ_437 (39, 0, 0) 7 := hv_438 7 (by decide)
        have wz_437_MLEN : Γ_437 (44, 22, 0) t0.toNat = Γ_427 (44, 22, 0) t0.toNat := by rw [eΓ_437, tg_r (by decide)]
        have wz_437_MCLS : Γ_437 (46, 22, 0) t0.toNat = Γ_427 (46, 22, 0) t0.toNat := by rw [eΓ_437, tg_r (by decide)]
        have wz_437_EATERS : Γ_437 (47, 6, 0) t0.toNat = Γ_427 (47, 6, 0) t0.toNat := by rw [eΓ_437, tg_r (by decide)]
        have wz_437_MBENDS : Γ_437 (48, 22, 0) t0.toNat = Γ_427 (48, 22, 0) t0.toNat := by rw [eΓ_437, tg_r (by decide)]
        have wz_437_GFROM : Γ_437 (49, 22, 0) t0.toNat = Γ_427 (49, 22, 0) t0.toNat := by rw [eΓ_437, tg_r (by decide)]
        have wz_437_GTO : Γ_437 (50, 22, 0) t0.toNat = Γ_427 (50, 22, 0) t0.toNat := by rw [eΓ_437, tg_r (by decide)]
        have wz_437_MWIDE : Γ_437 (51, 22, 0) t0.toNat = Γ_427 (51, 22, 0) t0.toNat := by rw [eΓ_437, tg_r (by decide)]
        have hrg : rg Γ Γ_437 t0 := hrg.same (by rw [eΓ_437]; exact tg_M)
        have htx9 : Γ_437 (42, 3, 0) = Γ (42, 3, 0) := (show Γ_437 (42, 3, 0) = _ from by rw [eΓ_437, tg_rf (by decide)]).trans htx9
        refine lv_aload_n hx hb dX12_text_136 rfl (lv_at hl 0 rfl) ?_
        refine lv_iconst (v := 0) hx hb dX12_text_137 (by decide) ?_
        obtain ⟨Γ_447, eΓ_447⟩ : ∃ y : tk_G, y = tg Γ_437 (39, 0, 0) 2 (0 : Int) := ⟨_, rfl⟩
        have hv_448 : ∀ i : Nat, i < 16 → ((upd (upd (upd v_352 7 (0 : Int32)) 1 (0 : Int32)) 2 (0 : Int32)) i).toInt = Γ_447 (39, 0, 0) i := by rw [eΓ_447, tg_f]; exact tp_gi_upd hv_438
        have hI9 : tp_I cy L K Γ_447 (va_up f_439 o (.inr (12, [.ref (r_351 0), .ref (r_351 1), .int (v_352 0), .ref (r_351 2), .ref (r_351 3), .ref (r_351 4), .ref (r_351 5), .ref (r_351 6), .ref (r_351 7), .ref (r_351 8), .ref (r_351 9), .ref (r_351 10), .ref (r_351 11), .ref (r_351 12), .ref (r_351 13), .ref (r_351 14), .ref (r_351 15), .int 0, .int 0, .int (v_352 3), .int (v_352 4), .int (v_352 5), .int (v_352 6), .int 0, .ref (r_351 16), .int (v_352 8), .ref (r_351 17), .int (v_352 9), .ref (r_351 18), .long q_353, .ref (r_351 19), .ref (r_351 20), .int (v_352 10), .int (v_352 11), .int (v_352 12), .ref (r_351 21), .ref (r_351 22), .int (v_352 13), .ref (r_351 23), .int (v_352 14), .int (v_352 15), .ref (r_351 24), .ref (r_351 25), .ref (r_351 26), .ref (r_351 27), .ref (r_351 28), .ref (r_351 29), .ref (r_351 30), .ref (r_351 31)]))) := by have q9 := hv_448; rw [eΓ_447, tg_f] at q9; rw [eΓ_447]; exact hI.setg hU rfl ho (show tp_o_M L K 0 0 (tgu (Γ_437 (39, 0, 0)) 2 (0 : Int)) _ from ⟨r_351, (upd (upd (upd v_352 7 (0 : Int32)) 1 (0 : Int32)) 2 (0 : Int32)), q_353, rfl, hr_354, q9⟩)
        have hfr9 : ∀ b, (K b).1 ∉ ([39, 42, 43, 44, 52, 45, 46, 53, 47, 54, 55, 56, 48, 49, 50, 51] : List Nat) → va_up f_439 o (.inr (12, [.ref (r_351 0), .ref (r_351 1), .int (v_352 0), .ref (r_351 2), .ref (r_351 3), .ref (r_351 4), .ref (r_351 5), .ref (r_351 6), .ref (r_351 7), .ref (r_351 8), .ref (r_351 9), .ref (r_351 10), .ref (r_351 11), .ref (r_351 12), .ref (r_351 13), .ref (r_351 14), .ref (r_351 15), .int 0, .int 0, .int (v_352 3), .int (v_352 4), .int (v_352 5), .int (v_352 6), .int 0, .ref (r_351 16), .int (v_352 8), .ref (r_351 17), .int (v_352 9), .ref (r_351 18), .long q_353, .ref (r_351 19), .ref (r_351 20), .int (v_352 10), .int (v_352 11), .int (v_352 12), .ref (r_351 21), .ref (r_351 22), .int (v_352 13), .ref (r_351 23), .int (v_352 14), .int (v_352 15), .ref (r_351 24), .ref (r_351 25), .ref (r_351 26), .ref (r_351 27), .ref (r_351 28), .ref (r_351 29), .ref (r_351 30), .ref (r_351 31)])) b = f b := tp_fr hfr ho (by decide)
        refine tp_put (cy := cy) (ci := 12) (v := .int 0) (ty := tyX12 18) (C := RX12) (T := TX12) (N := 49) hx hb hta inlX12 tyX12 tyX12_ok nmX12 hown hK hP hD hS ho.1 hf_440 rfl 18 (by decide) (hta _ wk_540) (fun _ h9 => h9) rfl (tyX12_ok 18 (by decide)) rfl rfl (Nat.le_of_ble_eq_true rfl) dX12_text_138 (fun H locs hP hD hS => ?_)
        have hP : va_P D vwCl (va_pl L (va_up f_439 o (.inr (12, [.ref (r_351 0), .ref (r_351 1), .int (v_352 0), .ref (r_351 2), .ref (r_351 3), .ref (r_351 4), .ref (r_351 5), .ref (r_351 6), .ref (r_351 7), .ref (r_351 8), .ref (r_351 9), .ref (r_351 10), .ref (r_351 11), .ref (r_351 12), .ref (r_351 13), .ref (r_351 14), .ref (r_351 15), .int 0, .int 0, .int (v_352 3), .int (v_352 4), .int (v_352 5), .int (v_352 6), .int 0, .ref (r_351 16), .int (v_352 8), .ref (r_351 17), .int (v_352 9), .ref (r_351 18), .long q_353, .ref (r_351 19), .ref (r_351 20), .int (v_352 10), .int (v_352 11), .int (v_352 12), .ref (r_351 21), .ref (r_351 22), .int (v_352 13), .ref (r_351 23), .int (v_352 14), .int (v_352 15), .ref (r_351 24), .ref (r_351 25), .ref (r_351 26), .ref (r_351 27), .ref (r_351 28), .ref (r_351 29), .ref (r_351 30), .ref (r_351 31)])))) H := hP
        generalize hfe : va_up f_439 o (.inr (12, [.ref (r_351 0), .ref (r_351 1), .int (v_352 0), .ref (r_351 2), .ref (r_351 3), .ref (r_351 4), .ref (r_351 5), .ref (r_351 6), .ref (r_351 7), .ref (r_351 8), .ref (r_351 9), .ref (r_351 10), .ref (r_351 11), .ref (r_351 12), .ref (r_351 13), .ref (r_351 14), .ref (r_351 15), .int 0, .int 0, .int (v_352 3), .int (v_352 4), .int (v_352 5), .int (v_352 6), .int 0, .ref (r_351 16), .int (v_352 8), .ref (r_351 17), .int (v_352 9), .ref (r_351 18), .long q_353, .ref (r_351 19), .ref (r_351 20), .int (v_352 10), .int (v_352 11), .int (v_352 12), .ref (r_351 21), .ref (r_351 22), .int (v_352 13), .ref (r_351 23), .int (v_352 14), .int (v_352 15), .ref (r_351 24), .ref (r_351 25), .ref (r_351 26), .ref (r_351 27), .ref (r_351 28), .ref (r_351 29), .ref (r_351 30), .ref (r_351 31)])) = f_449 at hP hI9 hfr9
        have hD : va_D A (va_pl L f_449) := tp_D hL hAL
        have hf_450 : f_449 o = .inr (12, [.ref (r_351 0), .ref (r_351 1), .int (v_352 0), .ref (r_351 2), .ref (r_351 3), .ref (r_351 4), .ref (r_351 5), .ref (r_351 6), .ref (r_351 7), .ref (r_351 8), .ref (r_351 9), .ref (r_351 10), .ref (r_351 11), .ref (r_351 12), .ref (r_351 13), .ref (r_351 14), .ref (r_351 15), .int 0, .int 0, .int (v_352 3), .int (v_352 4), .int (v_352 5), .int (v_352 6), .int 0, .ref (r_351 16), .int (v_352 8), .ref (r_351 17), .int (v_352 9), .ref (r_351 18), .long q_353, .ref (r_351 19), .ref (r_351 20), .int (v_352 10), .int (v_352 11), .int (v_352 12), .ref (r_351 21), .ref (r_351 22), .int (v_352 13), .ref (r_351 23), .int (v_352 14), .int (v_352 15), .ref (r_351 24), .ref (r_351 25), .ref (r_351 26), .ref (r_351 27), .ref (r_351 28), .ref (r_351 29), .ref (r_351 30), .ref (r_351 31)]) := by rw [← hfe]; exact va_up_self _ _ _
        clear hfe
        have hI := hI9
        have hfr := hfr9
        clear hI9 hfr9
        have hgr : ∀ κ : tk_K, κ.1 ∉ ([39, 42, 43, 44, 52, 45, 46, 53, 47, 54, 55, 56, 48, 49, 50, 51] : List Nat) → Γ_447 κ = Γ κ := tg_fr hgr eΓ_447 (by decide)
        have hx_451 : (v_352 0).toInt = Γ_447 (39, 0, 0) 0 := hv_448 0 (by decide)
        have hx_452 : (0 : Int) = Γ_447 (39, 0, 0) 1 := hv_448 1 (by decide)
        have hx_453 : (0 : Int) = Γ_447 (39, 0, 0) 2 := hv_448 2 (by decide)
        have hx_454 : (v_352 4).toInt = Γ_447 (39, 0, 0) 4 := hv_448 4 (by decide)
        have hx_455 : (v_352 5).toInt = Γ_447 (39, 0, 0) 5 := hv_448 5 (by decide)
        have hx_456 : (0 : Int) = Γ_447 (39, 0, 0) 7 := hv_448 7 (by decide)
        have wz_447_MLEN : Γ_447 (44, 22, 0) t0.toNat = Γ_437 (44, 22, 0) t0.toNat := by rw [eΓ_447, tg_r (by decide)]
        have wz_447_MCLS : Γ_447 (46, 22, 0) t0.toNat = Γ_437 (46, 22, 0) t0.toNat := by rw [eΓ_447, tg_r (by decide)]
        have wz_447_EATERS : Γ_447 (47, 6, 0) t0.toNat = Γ_437 (47, 6, 0) t0.toNat := by rw [eΓ_447, tg_r (by decide)]
        have wz_447_MBENDS : Γ_447 (48, 22, 0) t0.toNat = Γ_437 (48, 22, 0) t0.toNat := by rw [eΓ_447, tg_r (by decide)]
        have wz_447_GFROM : Γ_447 (49, 22, 0) t0.toNat = Γ_437 (49, 22, 0) t0.toNat := by rw [eΓ_447, tg_r (by decide)]
        have wz_447_GTO : Γ_447 (50, 22, 0) t0.toNat = Γ_437 (50, 22, 0) t0.toNat := by rw [eΓ_447, tg_r (by decide)]
        have wz_447_MWIDE : Γ_447 (51, 22, 0) t0.toNat = Γ_437 (51, 22, 0) t0.toNat := by rw [eΓ_447, tg_r (by decide)]
        have hrg : rg Γ Γ_447 t0 := hrg.same (by rw [eΓ_447]; exact tg_M)
        have htx9 : Γ_447 (42, 3, 0) = Γ (42, 3, 0) := (show Γ_447 (42, 3, 0) = _ from by rw [eΓ_447, tg_rf (by decide)]).trans htx9
        refine lv_aload_n hx hb dX12_text_141 rfl (lv_at hl 0 rfl) ?_
        refine lv_iconst (v := 0) hx hb dX12_text_142 (by decide) ?_
        obtain ⟨Γ_457, eΓ_457⟩ : ∃ y : tk_G, y = tg Γ_447 (39, 0, 0) 5 (0 : Int) := ⟨_, rfl⟩
        have hv_458 : ∀ i : Nat, i < 16 → ((upd (upd (upd (upd v_352 7 (0 : Int32)) 1 (0 : Int32)) 2 (0 : Int32)) 5 (0 : Int32)) i).toInt = Γ_457 (39, 0, 0) i := by rw [eΓ_457, tg_f]; exact tp_gi_upd hv_448
        have hI9 : tp_I cy L K Γ_457 (va_up f_449 o (.inr (12, [.ref (r_351 0), .ref (r_351 1), .int (v_352 0), .ref (r_351 2), .ref (r_351 3), .ref (r_351 4), .ref (r_351 5), .ref (r_351 6), .ref (r_351 7), .ref (r_351 8), .ref (r_351 9), .ref (r_351 10), .ref (r_351 11), .ref (r_351 12), .ref (r_351 13), .ref (r_351 14), .ref (r_351 15), .int 0, .int 0, .int (v_352 3), .int (v_352 4), .int 0, .int (v_352 6), .int 0, .ref (r_351 16), .int (v_352 8), .ref (r_351 17), .int (v_352 9), .ref (r_351 18), .long q_353, .ref (r_351 19), .ref (r_351 20), .int (v_352 10), .int (v_352 11), .int (v_352 12), .ref (r_351 21), .ref (r_351 22), .int (v_352 13), .ref (r_351 23), .int (v_352 14), .int (v_352 15), .ref (r_351 24), .ref (r_351 25), .ref (r_351 26), .ref (r_351 27), .ref (r_351 28), .ref (r_351 29), .ref (r_351 30), .ref (r_351 31)]))) := by have q9 := hv_458; rw [eΓ_457, tg_f] at q9; rw [eΓ_457]; exact hI.setg hU rfl ho (show tp_o_M L K 0 0 (tgu (Γ_447 (39, 0, 0)) 5 (0 : Int)) _ from ⟨r_351, (upd (upd (upd (upd v_352 7 (0 : Int32)) 1 (0 : Int32)) 2 (0 : Int32)) 5 (0 : Int32)), q_353, rfl, hr_354, q9⟩)
        have hfr9 : ∀ b, (K b).1 ∉ ([39, 42, 43, 44, 52, 45, 46, 53, 47, 54, 55, 56, 48, 49, 50, 51] : List Nat) → va_up f_449 o (.inr (12, [.ref (r_351 0), .ref (r_351 1), .int (v_352 0), .ref (r_351 2), .ref (r_351 3), .ref (r_351 4), .ref (r_351 5), .ref (r_351 6), .ref (r_351 7), .ref (r_351 8), .ref (r_351 9), .ref (r_351 10), .ref (r_351 11), .ref (r_351 12), .ref (r_351 13), .ref (r_351 14), .ref (r_351 15), .int 0, .int 0, .int (v_352 3), .int (v_352 4), .int 0, .int (v_352 6), .int 0, .ref (r_351 16), .int (v_352 8), .ref (r_351 17), .int (v_352 9), .ref (r_351 18), .long q_353, .ref (r_351 19), .ref (r_351 20), .int (v_352 10), .int (v_352 11), .int (v_352 12), .ref (r_351 21), .ref (r_351 22), .int (v_352 13), .ref (r_351 23), .int (v_352 14), .int (v_352 15), .ref (r_351 24), .ref (r_351 25), .ref (r_351 26), .ref (r_351 27), .ref (r_351 28), .ref (r_351 29), .ref (r_351 30), .ref (r_351 31)])) b = f b := tp_fr hfr ho (by decide)
        refine tp_put (cy := cy) (ci := 12) (v := .int 0) (ty := tyX12 21) (C := RX12) (T := TX12) (N := 49) hx hb hta inlX12 tyX12 tyX12_ok nmX12 hown hK hP hD hS ho.1 hf_450 rfl 21 (by decide) (hta _ wk_541) (fun _ h9 => h9) rfl (tyX12_ok 21 (by decide)) rfl rfl (Nat.le_of_ble_eq_true rfl) dX12_text_143 (fun H locs hP hD hS => ?_)
        have hP : va_P D vwCl (va_pl L (va_up f_449 o (.inr (12, [.ref (r_351 0), .ref (r_351 1), .int (v_352 0), .ref (r_351 2), .ref (r_351 3), .ref (r_351 4), .ref (r_351 5), .ref (r_351 6), .ref (r_351 7), .ref (r_351 8), .ref (r_351 9), .ref (r_351 10), .ref (r_351 11), .ref (r_351 12), .ref (r_351 13), .ref (r_351 14), .ref (r_351 15), .int 0, .int 0, .int (v_352 3), .int (v_352 4), .int 0, .int (v_352 6), .int 0, .ref (r_351 16), .int (v_352 8), .ref (r_351 17), .int (v_352 9), .ref (r_351 18), .long q_353, .ref (r_351 19), .ref (r_351 20), .int (v_352 10), .int (v_352 11), .int (v_352 12), .ref (r_351 21), .ref (r_351 22), .int (v_352 13), .ref (r_351 23), .int (v_352 14), .int (v_352 15), .ref (r_351 24), .ref (r_351 25), .ref (r_351 26), .ref (r_351 27), .ref (r_351 28), .ref (r_351 29), .ref (r_351 30), .ref (r_351 31)])))) H := hP
        generalize hfe : va_up f_449 o (.inr (12, [.ref (r_351 0), .ref (r_351 1), .int (v_352 0), .ref (r_351 2), .ref (r_351 3), .ref (r_351 4), .ref (r_351 5), .ref (r_351 6), .ref (r_351 7), .ref (r_351 8), .ref (r_351 9), .ref (r_351 10), .ref (r_351 11), .ref (r_351 12), .ref (r_351 13), .ref (r_351 14), .ref (r_351 15), .int 0, .int 0, .int (v_352 3), .int (v_352 4), .int 0, .int (v_352 6), .int 0, .ref (r_351 16), .int (v_352 8), .ref (r_351 17), .int (v_352 9), .ref (r_351 18), .long q_353, .ref (r_351 19), .ref (r_351 20), .int (v_352 10), .int (v_352 11), .int (v_352 12), .ref (r_351 21), .ref (r_351 22), .int (v_352 13), .ref (r_351 23), .int (v_352 14), .int (v_352 15), .ref (r_351 24), .ref (r_351 25), .ref (r_351 26), .ref (r_351 27), .ref (r_351 28), .ref (r_351 29), .ref (r_351 30), .ref (r_351 31)])) = f_459 at hP hI9 hfr9
        have hD : va_D A (va_pl L f_459) := tp_D hL hAL
        have hf_460 : f_459 o = .inr (12, [.ref (r_351 0), .ref (r_351 1), .int (v_352 0), .ref (r_351 2), .ref (r_351 3), .ref (r_351 4), .ref (r_351 5), .ref (r_351 6), .ref (r_351 7), .ref (r_351 8), .ref (r_351 9), .ref (r_351 10), .ref (r_351 11), .ref (r_351 12), .ref (r_351 13), .ref (r_351 14), .ref (r_351 15), .int 0, .int 0, .int (v_352 3), .int (v_352 4), .int 0, .int (v_352 6), .int 0, .ref (r_351 16), .int (v_352 8), .ref (r_351 17), .int (v_352 9), .ref (r_351 18), .long q_353, .ref (r_351 19), .ref (r_351 20), .int (v_352 10), .int (v_352 11), .int (v_352 12), .ref (r_351 21), .ref (r_351 22), .int (v_352 13), .ref (r_351 23), .int (v_352 14), .int (v_352 15), .ref (r_351 24), .ref (r_351 25), .ref (r_351 26), .ref (r_351 27), .ref (r_351 28), .ref (r_351 29), .ref (r_351 30), .ref (r_351 31)]) := by rw [← hfe]; exact va_up_self _ _ _
        clear hfe
        have hI := hI9
        have hfr := hfr9
        clear hI9 hfr9
        have hgr : ∀ κ : tk_K, κ.1 ∉ ([39, 42, 43, 44, 52, 45, 46, 53, 47, 54, 55, 56, 48, 49, 50, 51] : List Nat) → Γ_457 κ = Γ κ := tg_fr hgr eΓ_457 (by decide)
        have hx_461 : (v_352 0).toInt = Γ_457 (39, 0, 0) 0 := hv_458 0 (by decide)
        have hx_462 : (0 : Int) = Γ_457 (39, 0, 0) 1 := hv_458 1 (by decide)
        have hx_463 : (0 : Int) = Γ_457 (39, 0, 0) 2 := hv_458 2 (by decide)
        have hx_464 : (v_352 4).toInt = Γ_457 (39, 0, 0) 4 := hv_458 4 (by decide)
        have hx_465 : (0 : Int) = Γ_457 (39, 0, 0) 5 := hv_458 5 (by decide)
        have hx_466 : (0 : Int) = Γ_457 (39, 0, 0) 7 := hv_458 7 (by decide)
        have wz_457_MLEN : Γ_457 (44, 22, 0) t0.toNat = Γ_447 (44, 22, 0) t0.toNat := by rw [eΓ_457, tg_r (by decide)]
        have wz_457_MCLS : Γ_457 (46, 22, 0) t0.toNat = Γ_447 (46, 22, 0) t0.toNat := by rw [eΓ_457, tg_r (by decide)]
        have wz_457_EATERS : Γ_457 (47, 6, 0) t0.toNat = Γ_447 (47, 6, 0) t0.toNat := by rw [eΓ_457, tg_r (by decide)]
        have wz_457_MBENDS : Γ_457 (48, 22, 0) t0.toNat = Γ_447 (48, 22, 0) t0.toNat := by rw [eΓ_457, tg_r (by decide)]
        have wz_457_GFROM : Γ_457 (49, 22, 0) t0.toNat = Γ_447 (49, 22, 0) t0.toNat := by rw [eΓ_457, tg_r (by decide)]
        have wz_457_GTO : Γ_457 (50, 22, 0) t0.toNat = Γ_447 (50, 22, 0) t0.toNat := by rw [eΓ_457, tg_r (by decide)]
        have wz_457_MWIDE : Γ_457 (51, 22, 0) t0.toNat = Γ_447 (51, 22, 0) t0.toNat := by rw [eΓ_457, tg_r (by decide)]
        have hrg : rg Γ Γ_457 t0 := hrg.same (by rw [eΓ_457]; exact tg_M)
        have htx9 : Γ_457 (42, 3, 0) = Γ (42, 3, 0) := (show Γ_457 (42, 3, 0) = _ from by rw [eΓ_457, tg_rf (by decide)]).trans htx9
        exact hjn146 f_459 Γ_457  H locs ls (show rg Γ Γ_457 t0 from hrg) (show Γ_457 (42, 3, 0) = Γ (42, 3, 0) from htx9) (show Γ_457 (39, 0, 0) 4 = t0 from (by omega)) (show Γ_457 (39, 0, 0) 0 = Γ (39, 0, 0) 0 from (by omega)) (show 0 ≤ Γ_457 (39, 0, 0) 1 ∧ Γ_457 (39, 0, 0) 1 ≤ Γ (39, 0, 0) 0 from (by omega)) (show rb Γ_457 t0 from ⟨by omega, fun c9 q9 => absurd q9 (by omega), fun q9 => (by omega), by omega, by omega, by omega, by omega⟩) (show rq Γ_457 t0 from ⟨by omega, by omega, by omega, by omega, fun q9 => (by omega), fun c9 q9 => absurd q9 (by omega)⟩) hP hI hfr hgr hS (lv_sub hl [0, 1] rfl)
      refine lv_aload_n hx hb dX12_text_42 rfl (lv_at hl 0 rfl) ?_
      refine tp_get (cy := cy) (ci := 12) (v := .ref (r_5 4)) (C := RX12) (T := TX12) (N := 49) hx hb hta inlX12 hown hK hP ho.1 hf_32 rfl 5 (by decide) (hta _ wk_154) (fun _ h9 => h9) rfl dX12_text_43 ?_
      refine lv_aload_n hx hb dX12_text_46 rfl (lv_at hl 0 rfl) ?_
      refine tp_get (cy := cy) (ci := 12) (v := .int z_28) (C := RX12) (T := TX12) (N := 49) hx hb hta inlX12 hown hK hP ho.1 hf_32 rfl 20 (by decide) (hta _ wk_537) (fun _ h9 => h9) rfl dX12_text_47 ?_
      refine lv_iconst (v := 0) hx hb dX12_text_50 (by decide) ?_
      obtain ⟨g_468, hf_467, hg_469⟩ := (show tp_gi cy (22) (Γ_29 (44, 22, 0)) (f_31 (r_5 4)) from hI.at (show tp_r L K 44 22 0 (r_5 4) from hr_8 4 (by decide)))
      have hn_470 : vp_in z_28 (22) := tl_in (by omega) (by omega)
      have hj_471 : z_28.toNatClampNeg = t0.toNat := by show z_28.toInt.toNat = _; omega
      have hv_472 : (0 : Int32).toInt = (0 : Int) := by decide
      obtain ⟨Γ_473, eΓ_473⟩ : ∃ y : tk_G, y = tg Γ_29 (44, 22, 0) t0.toNat (0 : Int) := ⟨_, rfl⟩
      have hI9 : tp_I cy L K Γ_473 (va_up f_31 (r_5 4) (.inl (cy 0, 22, .inl (upd g_468 z_28.toNatClampNeg 0)))) := by have q9 : tg Γ_29 (44, 22, 0) t0.toNat (0 : Int) = tg Γ_29 (44, 22, 0) z_28.toNatClampNeg (0 : Int32).toInt := (by rw [hj_471, hv_472]); rw [eΓ_473, q9]; exact hI.setg hU rfl (show tp_r L K 44 22 0 (r_5 4) from hr_8 4 (by decide)) (show tp_gi cy (22) (tgu (Γ_29 (44, 22, 0)) _ _) _ from ⟨_, rfl, tp_gi_upd hg_469⟩)
      have hfr9 : ∀ b, (K b).1 ∉ ([39, 42, 43, 44, 52, 45, 46, 53, 47, 54, 55, 56, 48, 49, 50, 51] : List Nat) → va_up f_31 (r_5 4) (.inl (cy 0, 22, .inl (upd g_468 z_28.toNatClampNeg 0))) b = f b := tp_fr hfr (show tp_r L K 44 22 0 (r_5 4) from hr_8 4 (by decide)) (by decide)
      refine tp_iast (cy := cy) hx hb hK hP hD hS (show tp_r L K 44 22 0 (r_5 4) from hr_8 4 (by decide)).1 hf_467 hn_470 dX12_text_51 (fun H locs hP hD hS => ?_)
      have hP : va_P D vwCl (va_pl L (va_up f_31 (r_5 4) (.inl (cy 0, 22, .inl (upd g_468 z_28.toNatClampNeg 0))))) H := hP
      generalize hfe : va_up f_31 (r_5 4) (.inl (cy 0, 22, .inl (upd g_468 z_28.toNatClampNeg 0))) = f_474 at hP hI9 hfr9
      have hD : va_D A (va_pl L f_474) := tp_D hL hAL
      have hf_475 := (show f_474 o = _ from by rw [← hfe, va_up_ne _ _ (tp_ne ho (show tp_r L K 44 22 0 (r_5 4) from hr_8 4 (by decide)) (by decide))]).trans hf_32
      have hf_476 := (show f_474 (r_5 2) = _ from by rw [← hfe, va_up_ne _ _ (tp_ne (show tp_r L K 42 3 0 (r_5 2) from hr_8 2 (by decide)) (show tp_r L K 44 22 0 (r_5 4) from hr_8 4 (by decide)) (by decide))]).trans hf_33
      have hf_477 : f_474 (r_5 4) = .inl (cy 0, 22, .inl (upd g_468 z_28.toNatClampNeg 0)) := by rw [← hfe]; exact va_up_self _ _ _
      clear hfe
      have hI := hI9
      have hfr := hfr9
      clear hI9 hfr9
      clear hj_471 hv_472
      have wxΓ_473_MCLS : Γ_473 (46, 22, 0) t0.toNat = Γ_29 (46, 22, 0) t0.toNat := by rw [eΓ_473, tg_r (by decide)]
      have wxΓ_473_EATERS : Γ_473 (47, 6, 0) t0.toNat = Γ_29 (47, 6, 0) t0.toNat := by rw [eΓ_473, tg_r (by decide)]
      have wxΓ_473_MBENDS : Γ_473 (48, 22, 0) t0.toNat = Γ_29 (48, 22, 0) t0.toNat := by rw [eΓ_473, tg_r (by decide)]
      have wxΓ_473_GFROM : Γ_473 (49, 22, 0) t0.toNat = Γ_29 (49, 22, 0) t0.toNat := by rw [eΓ_473, tg_r (by decide)]
      have wxΓ_473_GTO : Γ_473 (50, 22, 0) t0.toNat = Γ_29 (50, 22, 0) t0.toNat := by rw [eΓ_473, tg_r (by decide)]
      have wxΓ_473_MWIDE : Γ_473 (51, 22, 0) t0.toNat = Γ_29 (51, 22, 0) t0.toNat := by rw [eΓ_473, tg_r (by decide)]
      have wsΓ_473 : Γ_473 (44, 22, 0) t0.toNat = (0 : Int) := by rw [eΓ_473]; exact tg_s
      have hrg : rg Γ Γ_473 t0 := hrg.put (by omega) eΓ_473 (by decide) (by decide)
      have htx9 : Γ_473 (42, 3, 0) = Γ (42, 3, 0) := (show Γ_473 (42, 3, 0) = _ from by rw [eΓ_473, tg_rf (by decide)]).trans htx9
      have hgr : ∀ κ : tk_K, κ.1 ∉ ([39, 42, 43, 44, 52, 45, 46, 53, 47, 54, 55, 56, 48, 49, 50, 51] : List Nat) → Γ_473 κ = Γ κ := tg_fr hgr eΓ_473 (by decide)
      have hv_478 : ∀ i : Nat, i < 16 → ((upd v_6 4 z_28) i).toInt = Γ_473 (39, 0, 0) i := fun i hi => by rw [eΓ_473, tg_r (by decide)]; exact hv_30 i hi
      have hx_479 : (v_6 0).toInt = Γ_473 (39, 0, 0) 0 := hv_478 0 (by decide)
      have hx_480 : (v_6 1).toInt = Γ_473 (39, 0, 0) 1 := hv_478 1 (by decide)
      have hx_481 : (v_6 2).toInt = Γ_473 (39, 0, 0) 2 := hv_478 2 (by decide)
      have hx_482 : z_28.toInt = Γ_473 (39, 0, 0) 4 := hv_478 4 (by decide)
      have hx_483 : (v_6 5).toInt = Γ_473 (39, 0, 0) 5 := hv_478 5 (by decide)
      have hx_484 : (v_6 7).toInt = Γ_473 (39, 0, 0) 7 := hv_478 7 (by decide)
      have hg_485 : ∀ j : Nat, j < 3 → (g_17 j).toInt = Γ_473 (42, 3, 0) j := fun j hj => by rw [eΓ_473, tg_r (by decide)]; exact hg_40 j hj
      refine lv_aload_n hx hb dX12_text_52 rfl (lv_at hl 0 rfl) ?_
      refine tp_get (cy := cy) (ci := 12) (v := .ref (r_5 6)) (C := RX12) (T := TX12) (N := 49) hx hb hta inlX12 hown hK hP ho.1 hf_475 rfl 7 (by decide) (hta _ wk_156) (fun _ h9 => h9) rfl dX12_text_53 ?_
      refine lv_aload_n hx hb dX12_text_56 rfl (lv_at hl 0 rfl) ?_
      refine tp_get (cy := cy) (ci := 12) (v := .int z_28) (C := RX12) (T := TX12) (N := 49) hx hb hta inlX12 hown hK hP ho.1 hf_475 rfl 20 (by decide) (hta _ wk_537) (fun _ h9 => h9) rfl dX12_text_57 ?_
      refine lv_iconst (v := 0) hx hb dX12_text_60 (by decide) ?_
      obtain ⟨g_487, hf_486, hg_488⟩ := (show tp_gi cy (22) (Γ_473 (46, 22, 0)) (f_474 (r_5 6)) from hI.at (show tp_r L K 46 22 0 (r_5 6) from hr_8 6 (by decide)))
      have hn_489 : vp_in z_28 (22) := tl_in (by omega) (by omega)
      have hj_490 : z_28.toNatClampNeg = t0.toNat := by show z_28.toInt.toNat = _; omega
      have hv_491 : (0 : Int32).toInt = (0 : Int) := by decide
      obtain ⟨Γ_492, eΓ_492⟩ : ∃ y : tk_G, y = tg Γ_473 (46, 22, 0) t0.toNat (0 : Int) := ⟨_, rfl⟩
      have hI9 : tp_I cy L K Γ_492 (va_up f_474 (r_5 6) (.inl (cy 0, 22, .inl (upd g_487 z_28.toNatClampNeg 0)))) := by have q9 : tg Γ_473 (46, 22, 0) t0.toNat (0 : Int) = tg Γ_473 (46, 22, 0) z_28.toNatClampNeg (0 : Int32).toInt := (by rw [hj_490, hv_491]); rw [eΓ_492, q9]; exact hI.setg hU rfl (show tp_r L K 46 22 0 (r_5 6) from hr_8 6 (by decide)) (show tp_gi cy (22) (tgu (Γ_473 (46, 22, 0)) _ _) _ from ⟨_, rfl, tp_gi_upd hg_488⟩)
      have hfr9 : ∀ b, (K b).1 ∉ ([39, 42, 43, 44, 52, 45, 46, 53, 47, 54, 55, 56, 48, 49, 50, 51] : List Nat) → va_up f_474 (r_5 6) (.inl (cy 0, 22, .inl (upd g_487 z_28.toNatClampNeg 0))) b = f b := tp_fr hfr (show tp_r L K 46 22 0 (r_5 6) from hr_8 6 (by decide)) (by decide)
      refine tp_iast (cy := cy) hx hb hK hP hD hS (show tp_r L K 46 22 0 (r_5 6) from hr_8 6 (by decide)).1 hf_486 hn_489 dX12_text_61 (fun H locs hP hD hS => ?_)
      have hP : va_P D vwCl (va_pl L (va_up f_474 (r_5 6) (.inl (cy 0, 22, .inl (upd g_487 z_28.toNatClampNeg 0))))) H := hP
      generalize hfe : va_up f_474 (r_5 6) (.inl (cy 0, 22, .inl (upd g_487 z_28.toNatClampNeg 0))) = f_493 at hP hI9 hfr9
      have hD : va_D A (va_pl L f_493) := tp_D hL hAL
      have hf_494 := (show f_493 o = _ from by rw [← hfe, va_up_ne _ _ (tp_ne ho (show tp_r L K 46 22 0 (r_5 6) from hr_8 6 (by decide)) (by decide))]).trans hf_475
      have hf_495 := (show f_493 (r_5 2) = _ from by rw [← hfe, va_up_ne _ _ (tp_ne (show tp_r L K 42 3 0 (r_5 2) from hr_8 2 (by decide)) (show tp_r L K 46 22 0 (r_5 6) from hr_8 6 (by decide)) (by decide))]).trans hf_476
      have hf_496 : f_493 (r_5 6) = .inl (cy 0, 22, .inl (upd g_487 z_28.toNatClampNeg 0)) := by rw [← hfe]; exact va_up_self _ _ _
      clear hfe
      have hI := hI9
      have hfr := hfr9
      clear hI9 hfr9
      clear hj_490 hv_491
      have wxΓ_492_MLEN : Γ_492 (44, 22, 0) t0.toNat = Γ_473 (44, 22, 0) t0.toNat := by rw [eΓ_492, tg_r (by decide)]
      have wxΓ_492_EATERS : Γ_492 (47, 6, 0) t0.toNat = Γ_473 (47, 6, 0) t0.toNat := by rw [eΓ_492, tg_r (by decide)]
      have wxΓ_492_MBENDS : Γ_492 (48, 22, 0) t0.toNat = Γ_473 (48, 22, 0) t0.toNat := by rw [eΓ_492, tg_r (by decide)]
      have wxΓ_492_GFROM : Γ_492 (49, 22, 0) t0.toNat = Γ_473 (49, 22, 0) t0.toNat := by rw [eΓ_492, tg_r (by decide)]
      have wxΓ_492_GTO : Γ_492 (50, 22, 0) t0.toNat = Γ_473 (50, 22, 0) t0.toNat := by rw [eΓ_492, tg_r (by decide)]
      have wxΓ_492_MWIDE : Γ_492 (51, 22, 0) t0.toNat = Γ_473 (51, 22, 0) t0.toNat := by rw [eΓ_492, tg_r (by decide)]
      have wsΓ_492 : Γ_492 (46, 22, 0) t0.toNat = (0 : Int) := by rw [eΓ_492]; exact tg_s
      have hrg : rg Γ Γ_492 t0 := hrg.put (by omega) eΓ_492 (by decide) (by decide)
      have htx9 : Γ_492 (42, 3, 0) = Γ (42, 3, 0) := (show Γ_492 (42, 3, 0) = _ from by rw [eΓ_492, tg_rf (by decide)]).trans htx9
      have hgr : ∀ κ : tk_K, κ.1 ∉ ([39, 42, 43, 44, 52, 45, 46, 53, 47, 54, 55, 56, 48, 49, 50, 51] : List Nat) → Γ_492 κ = Γ κ := tg_fr hgr eΓ_492 (by decide)
      have hv_497 : ∀ i : Nat, i < 16 → ((upd v_6 4 z_28) i).toInt = Γ_492 (39, 0, 0) i := fun i hi => by rw [eΓ_492, tg_r (by decide)]; exact hv_478 i hi
      have hx_498 : (v_6 0).toInt = Γ_492 (39, 0, 0) 0 := hv_497 0 (by decide)
      have hx_499 : (v_6 1).toInt = Γ_492 (39, 0, 0) 1 := hv_497 1 (by decide)
      have hx_500 : (v_6 2).toInt = Γ_492 (39, 0, 0) 2 := hv_497 2 (by decide)
      have hx_501 : z_28.toInt = Γ_492 (39, 0, 0) 4 := hv_497 4 (by decide)
      have hx_502 : (v_6 5).toInt = Γ_492 (39, 0, 0) 5 := hv_497 5 (by decide)
      have hx_503 : (v_6 7).toInt = Γ_492 (39, 0, 0) 7 := hv_497 7 (by decide)
      have hg_504 : ∀ j : Nat, j < 3 → (g_17 j).toInt = Γ_492 (42, 3, 0) j := fun j hj => by rw [eΓ_492, tg_r (by decide)]; exact hg_485 j hj
      refine lv_iload_n hx hb dX12_text_62 rfl (lv_at hl 1 rfl) ?_
      refine lv_if_ne (tgt := 76) hx hb dX12_text_63 (by decide) (fun c_505 => ?_) (fun c_505 => ?_)
      · have c_505 : ¬ p0.toInt = (0 : Int) := tl_neq c_505
        exact hjn76 f_493 Γ_492  H locs ls (show rg Γ Γ_492 t0 from hrg) (show Γ_492 (42, 3, 0) = Γ (42, 3, 0) from htx9) (show Γ_492 (39, 0, 0) 4 = t0 from (by omega)) (show Γ_492 (39, 0, 0) 0 = Γ (39, 0, 0) 0 from (by omega)) (show Γ_492 (44, 22, 0) t0.toNat = 0 from (by omega)) (show Γ_492 (46, 22, 0) t0.toNat = 0 from (by omega)) (show t0 ≤ 5 → Γ_492 (47, 6, 0) t0.toNat = 0 from (by omega)) (show 0 ≤ Γ_492 (50, 22, 0) t0.toNat ∧ Γ_492 (50, 22, 0) t0.toNat ≤ 299 from (by omega)) hP hI hfr hgr hS (lv_sub hl [0, 1] rfl)
      · have c_505 : p0.toInt = (0 : Int) := tl_eq c_505
        refine lv_aload_n hx hb dX12_text_66 rfl (lv_at hl 0 rfl) ?_
        refine tp_get (cy := cy) (ci := 12) (v := .ref (r_5 8)) (C := RX12) (T := TX12) (N := 49) hx hb hta inlX12 hown hK hP ho.1 hf_494 rfl 9 (by decide) (hta _ wk_158) (fun _ h9 => h9) rfl dX12_text_67 ?_
        refine lv_aload_n hx hb dX12_text_70 rfl (lv_at hl 0 rfl) ?_
        refine tp_get (cy := cy) (ci := 12) (v := .int z_28) (C := RX12) (T := TX12) (N := 49) hx hb hta inlX12 hown hK hP ho.1 hf_494 rfl 20 (by decide) (hta _ wk_537) (fun _ h9 => h9) rfl dX12_text_71 ?_
        refine lv_iconst (v := 0) hx hb dX12_text_74 (by decide) ?_
        obtain ⟨g_507, hf_506, hg_508⟩ := (show tp_gi cy (6) (Γ_492 (47, 6, 0)) (f_493 (r_5 8)) from hI.at (show tp_r L K 47 6 0 (r_5 8) from hr_8 8 (by decide)))
        have hn_509 : vp_in z_28 (6) := tl_in (by omega) (by omega)
        have hj_510 : z_28.toNatClampNeg = t0.toNat := by show z_28.toInt.toNat = _; omega
        have hv_511 : (0 : Int32).toInt = (0 : Int) := by decide
        obtain ⟨Γ_512, eΓ_512⟩ : ∃ y : tk_G, y = tg Γ_492 (47, 6, 0) t0.toNat (0 : Int) := ⟨_, rfl⟩
        have hI9 : tp_I cy L K Γ_512 (va_up f_493 (r_5 8) (.inl (cy 0, 6, .inl (upd g_507 z_28.toNatClampNeg 0)))) := by have q9 : tg Γ_492 (47, 6, 0) t0.toNat (0 : Int) = tg Γ_492 (47, 6, 0) z_28.toNatClampNeg (0 : Int32).toInt := (by rw [hj_510, hv_511]); rw [eΓ_512, q9]; exact hI.setg hU rfl (show tp_r L K 47 6 0 (r_5 8) from hr_8 8 (by decide)) (show tp_gi cy (6) (tgu (Γ_492 (47, 6, 0)) _ _) _ from ⟨_, rfl, tp_gi_upd hg_508⟩)
        have hfr9 : ∀ b, (K b).1 ∉ ([39, 42, 43, 44, 52, 45, 46, 53, 47, 54, 55, 56, 48, 49, 50, 51] : List Nat) → va_up f_493 (r_5 8) (.inl (cy 0, 6, .inl (upd g_507 z_28.toNatClampNeg 0))) b = f b := tp_fr hfr (show tp_r L K 47 6 0 (r_5 8) from hr_8 8 (by decide)) (by decide)
        refine tp_iast (cy := cy) hx hb hK hP hD hS (show tp_r L K 47 6 0 (r_5 8) from hr_8 8 (by decide)).1 hf_506 hn_509 dX12_text_75 (fun H locs hP hD hS => ?_)
        have hP : va_P D vwCl (va_pl L (va_up f_493 (r_5 8) (.inl (cy 0, 6, .inl (upd g_507 z_28.toNatClampNeg 0))))) H := hP
        generalize hfe : va_up f_493 (r_5 8) (.inl (cy 0, 6, .inl (upd g_507 z_28.toNatClampNeg 0))) = f_513 at hP hI9 hfr9
        have hD : va_D A (va_pl L f_513) := tp_D hL hAL
        have hf_514 := (show f_513 o = _ from by rw [← hfe, va_up_ne _ _ (tp_ne ho (show tp_r L K 47 6 0 (r_5 8) from hr_8 8 (by decide)) (by decide))]).trans hf_494
        have hf_515 := (show f_513 (r_5 2) = _ from by rw [← hfe, va_up_ne _ _ (tp_ne (show tp_r L K 42 3 0 (r_5 2) from hr_8 2 (by decide)) (show tp_r L K 47 6 0 (r_5 8) from hr_8 8 (by decide)) (by decide))]).trans hf_495
        have hf_516 : f_513 (r_5 8) = .inl (cy 0, 6, .inl (upd g_507 z_28.toNatClampNeg 0)) := by rw [← hfe]; exact va_up_self _ _ _
        clear hfe
        have hI := hI9
        have hfr := hfr9
        clear hI9 hfr9
        clear hj_510 hv_511
        have wxΓ_512_MLEN : Γ_512 (44, 22, 0) t0.toNat = Γ_492 (44, 22, 0) t0.toNat := by rw [eΓ_512, tg_r (by decide)]
        have wxΓ_512_MCLS : Γ_512 (46, 22, 0) t0.toNat = Γ_492 (46, 22, 0) t0.toNat := by rw [eΓ_512, tg_r (by decide)]
        have wxΓ_512_MBENDS : Γ_512 (48, 22, 0) t0.toNat = Γ_492 (48, 22, 0) t0.toNat := by rw [eΓ_512, tg_r (by decide)]
        have wxΓ_512_GFROM : Γ_512 (49, 22, 0) t0.toNat = Γ_492 (49, 22, 0) t0.toNat := by rw [eΓ_512, tg_r (by decide)]
        have wxΓ_512_GTO : Γ_512 (50, 22, 0) t0.toNat = Γ_492 (50, 22, 0) t0.toNat := by rw [eΓ_512, tg_r (by decide)]
        have wxΓ_512_MWIDE : Γ_512 (51, 22, 0) t0.toNat = Γ_492 (51, 22, 0) t0.toNat := by rw [eΓ_512, tg_r (by decide)]
        have wsΓ_512 : Γ_512 (47, 6, 0) t0.toNat = (0 : Int) := by rw [eΓ_512]; exact tg_s
        have hrg : rg Γ Γ_512 t0 := hrg.put (by omega) eΓ_512 (by decide) (by decide)
        have htx9 : Γ_512 (42, 3, 0) = Γ (42, 3, 0) := (show Γ_512 (42, 3, 0) = _ from by rw [eΓ_512, tg_rf (by decide)]).trans htx9
        have hgr : ∀ κ : tk_K, κ.1 ∉ ([39, 42, 43, 44, 52, 45, 46, 53, 47, 54, 55, 56, 48, 49, 50, 51] : List Nat) → Γ_512 κ = Γ κ := tg_fr hgr eΓ_512 (by decide)
        have hv_517 : ∀ i : Nat, i < 16 → ((upd v_6 4 z_28) i).toInt = Γ_512 (39, 0, 0) i := fun i hi => by rw [eΓ_512, tg_r (by decide)]; exact hv_497 i hi
        have hx_518 : (v_6 0).toInt = Γ_512 (39, 0, 0) 0 := hv_517 0 (by decide)
        have hx_519 : (v_6 1).toInt = Γ_512 (39, 0, 0) 1 := hv_517 1 (by decide)
        have hx_520 : (v_6 2).toInt = Γ_512 (39, 0, 0) 2 := hv_517 2 (by decide)
        have hx_521 : z_28.toInt = Γ_512 (39, 0, 0) 4 := hv_517 4 (by decide)
        have hx_522 : (v_6 5).toInt = Γ_512 (39, 0, 0) 5 := hv_517 5 (by decide)
        have hx_523 : (v_6 7).toInt = Γ_512 (39, 0, 0) 7 := hv_517 7 (by decide)
        have hg_524 : ∀ j : Nat, j < 3 → (g_17 j).toInt = Γ_512 (42, 3, 0) j := fun j hj => by rw [eΓ_512, tg_r (by decide)]; exact hg_504 j hj
        exact hjn76 f_513 Γ_512  H locs ls (show rg Γ Γ_512 t0 from hrg) (show Γ_512 (42, 3, 0) = Γ (42, 3, 0) from htx9) (show Γ_512 (39, 0, 0) 4 = t0 from (by omega)) (show Γ_512 (39, 0, 0) 0 = Γ (39, 0, 0) 0 from (by omega)) (show Γ_512 (44, 22, 0) t0.toNat = 0 from (by omega)) (show Γ_512 (46, 22, 0) t0.toNat = 0 from (by omega)) (show t0 ≤ 5 → Γ_512 (47, 6, 0) t0.toNat = 0 from (by omega)) (show 0 ≤ Γ_512 (50, 22, 0) t0.toNat ∧ Γ_512 (50, 22, 0) t0.toNat ≤ 299 from (by omega)) hP hI hfr hgr hS (lv_sub hl [0, 1] rfl)
    · have c_23 : z_20.toInt = r_22.toInt := tl_eq c_23
      refine lv_iconst (v := (-1)) hx hb dX12_text_25 (by decide) ?_
      have hpo9 : tx_ok (Γ (43, 8800, 0)) (Γ (45, 1056, 0)) (Γ (46, 22, 0)) (Γ (47, 6, 0)) (Γ (48, 22, 0)) (Γ (49, 22, 0)) (Γ (50, 22, 0)) (Γ (51, 22, 0)) (Γ (42, 3, 0)) ∧ (0 ≤ Γ (39, 0, 0) 0 ∧ Γ (39, 0, 0) 0 ≤ 400) ∧ Γ (42, 3, 0) 1 ≤ Γ (42, 3, 0) 1 := ⟨htx, (by omega), (by omega)⟩
      exact W.iret (v := (-1)) hx hb hr (fun t ht hW => ⟨⟨_, (f, Γ), rfl, hpo9, by rw [ht]; exact hP, hI, hfr, hgr⟩, hS.F ht⟩) hS.2.2 dX12_text_26
