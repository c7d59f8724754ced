theorem dX12_text_0 : decode cX12_text 0 = .ok (.iload_n 1, 1) := by decide +kernel
theorem dX12_text_1 : decode cX12_text 1 = .ok (.i2l, 1) := by decide +kernel
theorem dX12_text_2 : decode cX12_text 2 = .ok (.lconst 0, 1) := by decide +kernel
theorem dX12_text_3 : decode cX12_text 3 = .ok (.ldc2_w 322, 3) := by decide +kernel
theorem dX12_text_6 : decode cX12_text 6 = .ok (.invokestatic 112, 3) := by decide +kernel
theorem dX12_text_9 : decode cX12_text 9 = .ok (.ifCond .eq 16, 3) := by decide +kernel
theorem dX12_text_12 : decode cX12_text 12 = .ok (.aload_n 0, 1) := by decide +kernel
theorem dX12_text_13 : decode cX12_text 13 = .ok (.getfield 17, 3) := by decide +kernel
theorem dX12_text_16 : decode cX12_text 16 = .ok (.iload_n 1, 1) := by decide +kernel
theorem dX12_text_17 : decode cX12_text 17 = .ok (.iaload, 1) := by decide +kernel
theorem dX12_text_18 : decode cX12_text 18 = .ok (.iload_n 1, 1) := by decide +kernel
theorem dX12_text_19 : decode cX12_text 19 = .ok (.invokestatic 324, 3) := by decide +kernel
theorem dX12_text_22 : decode cX12_text 22 = .ok (.if_icmp .ne 5, 3) := by decide +kernel
theorem dX12_text_25 : decode cX12_text 25 = .ok (.iconst (-1), 1) := by decide +kernel
theorem dX12_text_26 : decode cX12_text 26 = .ok (.ireturn, 1) := by decide +kernel
theorem dX12_text_27 : decode cX12_text 27 = .ok (.aload_n 0, 1) := by decide +kernel
theorem dX12_text_28 : decode cX12_text 28 = .ok (.iload_n 1, 1) := by decide +kernel
theorem dX12_text_29 : decode cX12_text 29 = .ok (.invokestatic 327, 3) := by decide +kernel
theorem dX12_text_32 : decode cX12_text 32 = .ok (.aload_n 0, 1) := by decide +kernel
theorem dX12_text_33 : decode cX12_text 33 = .ok (.getfield 17, 3) := by decide +kernel
theorem dX12_text_36 : decode cX12_text 36 = .ok (.iload_n 1, 1) := by decide +kernel
theorem dX12_text_37 : decode cX12_text 37 = .ok (.iaload, 1) := by decide +kernel
theorem dX12_text_38 : decode cX12_text 38 = .ok (.iadd, 1) := by decide +kernel
theorem dX12_text_39 : decode cX12_text 39 = .ok (.putfield 191, 3) := by decide +kernel
theorem dX12_text_42 : decode cX12_text 42 = .ok (.aload_n 0, 1) := by decide +kernel
theorem dX12_text_43 : decode cX12_text 43 = .ok (.getfield 23, 3) := by decide +kernel
theorem dX12_text_46 : decode cX12_text 46 = .ok (.aload_n 0, 1) := by decide +kernel
theorem dX12_text_47 : decode cX12_text 47 = .ok (.getfield 191, 3) := by decide +kernel
theorem dX12_text_50 : decode cX12_text 50 = .ok (.iconst 0, 1) := by decide +kernel
theorem dX12_text_51 : decode cX12_text 51 = .ok (.iastore, 1) := by decide +kernel
theorem dX12_text_52 : decode cX12_text 52 = .ok (.aload_n 0, 1) := by decide +kernel
theorem dX12_text_53 : decode cX12_text 53 = .ok (.getfield 29, 3) := by decide +kernel
theorem dX12_text_56 : decode cX12_text 56 = .ok (.aload_n 0, 1) := by decide +kernel
theorem dX12_text_57 : decode cX12_text 57 = .ok (.getfield 191, 3) := by decide +kernel
theorem dX12_text_60 : decode cX12_text 60 = .ok (.iconst 0, 1) := by decide +kernel
theorem dX12_text_61 : decode cX12_text 61 = .ok (.iastore, 1) := by decide +kernel
theorem dX12_text_62 : decode cX12_text 62 = .ok (.iload_n 1, 1) := by decide +kernel
theorem dX12_text_63 : decode cX12_text 63 = .ok (.ifCond .ne 13, 3) := by decide +kernel
theorem dX12_text_66 : decode cX12_text 66 = .ok (.aload_n 0, 1) := by decide +kernel
theorem dX12_text_67 : decode cX12_text 67 = .ok (.getfield 35, 3) := by decide +kernel
theorem dX12_text_70 : decode cX12_text 70 = .ok (.aload_n 0, 1) := by decide +kernel
theorem dX12_text_71 : decode cX12_text 71 = .ok (.getfield 191, 3) := by decide +kernel
theorem dX12_text_74 : decode cX12_text 74 = .ok (.iconst 0, 1) := by decide +kernel
theorem dX12_text_75 : decode cX12_text 75 = .ok (.iastore, 1) := by decide +kernel
theorem dX12_text_76 : decode cX12_text 76 = .ok (.aload_n 0, 1) := by decide +kernel
theorem dX12_text_77 : decode cX12_text 77 = .ok (.getfield 38, 3) := by decide +kernel
theorem dX12_text_80 : decode cX12_text 80 = .ok (.aload_n 0, 1) := by decide +kernel
theorem dX12_text_81 : decode cX12_text 81 = .ok (.getfield 191, 3) := by decide +kernel
theorem dX12_text_84 : decode cX12_text 84 = .ok (.iconst (-1), 1) := by decide +kernel
theorem dX12_text_85 : decode cX12_text 85 = .ok (.iastore, 1) := by decide +kernel
theorem dX12_text_86 : decode cX12_text 86 = .ok (.aload_n 0, 1) := by decide +kernel
theorem dX12_text_87 : decode cX12_text 87 = .ok (.getfield 44, 3) := by decide +kernel
theorem dX12_text_90 : decode cX12_text 90 = .ok (.aload_n 0, 1) := by decide +kernel
theorem dX12_text_91 : decode cX12_text 91 = .ok (.getfield 191, 3) := by decide +kernel
theorem dX12_text_94 : decode cX12_text 94 = .ok (.iconst (-1), 1) := by decide +kernel
theorem dX12_text_95 : decode cX12_text 95 = .ok (.iastore, 1) := by decide +kernel
theorem dX12_text_96 : decode cX12_text 96 = .ok (.aload_n 0, 1) := by decide +kernel
theorem dX12_text_97 : decode cX12_text 97 = .ok (.getfield 47, 3) := by decide +kernel
theorem dX12_text_100 : decode cX12_text 100 = .ok (.aload_n 0, 1) := by decide +kernel
theorem dX12_text_101 : decode cX12_text 101 = .ok (.getfield 191, 3) := by decide +kernel
theorem dX12_text_104 : decode cX12_text 104 = .ok (.iconst (-1), 1) := by decide +kernel
theorem dX12_text_105 : decode cX12_text 105 = .ok (.iastore, 1) := by decide +kernel
theorem dX12_text_106 : decode cX12_text 106 = .ok (.aload_n 0, 1) := by decide +kernel
theorem dX12_text_107 : decode cX12_text 107 = .ok (.getfield 50, 3) := by decide +kernel
theorem dX12_text_110 : decode cX12_text 110 = .ok (.aload_n 0, 1) := by decide +kernel
theorem dX12_text_111 : decode cX12_text 111 = .ok (.getfield 191, 3) := by decide +kernel
theorem dX12_text_114 : decode cX12_text 114 = .ok (.iconst (-1), 1) := by decide +kernel
theorem dX12_text_115 : decode cX12_text 115 = .ok (.iastore, 1) := by decide +kernel
theorem dX12_text_116 : decode cX12_text 116 = .ok (.aload_n 0, 1) := by decide +kernel
theorem dX12_text_117 : decode cX12_text 117 = .ok (.getfield 56, 3) := by decide +kernel
theorem dX12_text_120 : decode cX12_text 120 = .ok (.aload_n 0, 1) := by decide +kernel
theorem dX12_text_121 : decode cX12_text 121 = .ok (.getfield 191, 3) := by decide +kernel
theorem dX12_text_124 : decode cX12_text 124 = .ok (.iconst (-1), 1) := by decide +kernel
theorem dX12_text_125 : decode cX12_text 125 = .ok (.iastore, 1) := by decide +kernel
theorem dX12_text_126 : decode cX12_text 126 = .ok (.aload_n 0, 1) := by decide +kernel
theorem dX12_text_127 : decode cX12_text 127 = .ok (.iconst 0, 1) := by decide +kernel
theorem dX12_text_128 : decode cX12_text 128 = .ok (.putfield 306, 3) := by decide +kernel
theorem dX12_text_131 : decode cX12_text 131 = .ok (.aload_n 0, 1) := by decide +kernel
theorem dX12_text_132 : decode cX12_text 132 = .ok (.iconst 0, 1) := by decide +kernel
theorem dX12_text_133 : decode cX12_text 133 = .ok (.putfield 164, 3) := by decide +kernel
theorem dX12_text_136 : decode cX12_text 136 = .ok (.aload_n 0, 1) := by decide +kernel
theorem dX12_text_137 : decode cX12_text 137 = .ok (.iconst 0, 1) := by decide +kernel
theorem dX12_text_138 : decode cX12_text 138 = .ok (.putfield 161, 3) := by decide +kernel
theorem dX12_text_141 : decode cX12_text 141 = .ok (.aload_n 0, 1) := by decide +kernel
theorem dX12_text_142 : decode cX12_text 142 = .ok (.iconst 0, 1) := by decide +kernel
theorem dX12_text_143 : decode cX12_text 143 = .ok (.putfield 216, 3) := by decide +kernel
theorem dX12_text_146 : decode cX12_text 146 = .ok (.aload_n 0, 1) := by decide +kernel
theorem dX12_text_147 : decode cX12_text 147 = .ok (.invokevirtual 330, 3) := by decide +kernel
theorem dX12_text_150 : decode cX12_text 150 = .ok (.istore_n 2, 1) := by decide +kernel
theorem dX12_text_151 : decode cX12_text 151 = .ok (.iload_n 2, 1) := by decide +kernel
theorem dX12_text_152 : decode cX12_text 152 = .ok (.ifCond .eq 30, 3) := by decide +kernel
theorem dX12_text_155 : decode cX12_text 155 = .ok (.aload_n 0, 1) := by decide +kernel
theorem dX12_text_156 : decode cX12_text 156 = .ok (.invokevirtual 167, 3) := by decide +kernel
theorem dX12_text_159 : decode cX12_text 159 = .ok (.bipush 59, 2) := by decide +kernel
theorem dX12_text_161 : decode cX12_text 161 = .ok (.if_icmp .ne 21, 3) := by decide +kernel
theorem dX12_text_164 : decode cX12_text 164 = .ok (.aload_n 0, 1) := by decide +kernel
theorem dX12_text_165 : decode cX12_text 165 = .ok (.dup, 1) := by decide +kernel
theorem dX12_text_166 : decode cX12_text 166 = .ok (.getfield 164, 3) := by decide +kernel
theorem dX12_text_169 : decode cX12_text 169 = .ok (.iconst 1, 1) := by decide +kernel
theorem dX12_text_170 : decode cX12_text 170 = .ok (.iadd, 1) := by decide +kernel
theorem dX12_text_171 : decode cX12_text 171 = .ok (.putfield 164, 3) := by decide +kernel
theorem dX12_text_174 : decode cX12_text 174 = .ok (.aload_n 0, 1) := by decide +kernel
theorem dX12_text_175 : decode cX12_text 175 = .ok (.invokevirtual 330, 3) := by decide +kernel
theorem dX12_text_178 : decode cX12_text 178 = .ok (.istore_n 2, 1) := by decide +kernel
theorem dX12_text_179 : decode cX12_text 179 = .ok (.goto (-28), 3) := by decide +kernel
theorem dX12_text_182 : decode cX12_text 182 = .ok (.iload_n 2, 1) := by decide +kernel
theorem dX12_text_183 : decode cX12_text 183 = .ok (.ifCond .eq 21, 3) := by decide +kernel
theorem dX12_text_186 : decode cX12_text 186 = .ok (.aload_n 0, 1) := by decide +kernel
theorem dX12_text_187 : decode cX12_text 187 = .ok (.invokevirtual 167, 3) := by decide +kernel
theorem dX12_text_190 : decode cX12_text 190 = .ok (.iconst (-1), 1) := by decide +kernel
theorem dX12_text_191 : decode cX12_text 191 = .ok (.if_icmp .eq 13, 3) := by decide +kernel
theorem dX12_text_194 : decode cX12_text 194 = .ok (.aload_n 0, 1) := by decide +kernel
theorem dX12_text_195 : decode cX12_text 195 = .ok (.iconst 0, 1) := by decide +kernel
theorem dX12_text_196 : decode cX12_text 196 = .ok (.aload_n 0, 1) := by decide +kernel
theorem dX12_text_197 : decode cX12_text 197 = .ok (.getfield 164, 3) := by decide +kernel
theorem dX12_text_200 : decode cX12_text 200 = .ok (.invokevirtual 184, 3) := by decide +kernel
theorem dX12_text_203 : decode cX12_text 203 = .ok (.pop, 1) := by decide +kernel
theorem dX12_text_204 : decode cX12_text 204 = .ok (.aload_n 0, 1) := by decide +kernel
theorem dX12_text_205 : decode cX12_text 205 = .ok (.iconst 0, 1) := by decide +kernel
theorem dX12_text_206 : decode cX12_text 206 = .ok (.putfield 153, 3) := by decide +kernel
theorem dX12_text_209 : decode cX12_text 209 = .ok (.aload_n 0, 1) := by decide +kernel
theorem dX12_text_210 : decode cX12_text 210 = .ok (.getfield 161, 3) := by decide +kernel
theorem dX12_text_213 : decode cX12_text 213 = .ok (.ifCond .le 11, 3) := by decide +kernel
theorem dX12_text_216 : decode cX12_text 216 = .ok (.bipush (-2), 2) := by decide +kernel
theorem dX12_text_218 : decode cX12_text 218 = .ok (.aload_n 0, 1) := by decide +kernel
theorem dX12_text_219 : decode cX12_text 219 = .ok (.getfield 161, 3) := by decide +kernel
theorem dX12_text_222 : decode cX12_text 222 = .ok (.isub, 1) := by decide +kernel
theorem dX12_text_223 : decode cX12_text 223 = .ok (.ireturn, 1) := by decide +kernel
theorem dX12_text_224 : decode cX12_text 224 = .ok (.aload_n 0, 1) := by decide +kernel
theorem dX12_text_225 : decode cX12_text 225 = .ok (.getfield 44, 3) := by decide +kernel
theorem dX12_text_228 : decode cX12_text 228 = .ok (.aload_n 0, 1) := by decide +kernel
theorem dX12_text_229 : decode cX12_text 229 = .ok (.getfield 191, 3) := by decide +kernel
theorem dX12_text_232 : decode cX12_text 232 = .ok (.iaload, 1) := by decide +kernel
theorem dX12_text_233 : decode cX12_text 233 = .ok (.ifCond .ge 13, 3) := by decide +kernel
theorem dX12_text_236 : decode cX12_text 236 = .ok (.aload_n 0, 1) := by decide +kernel
theorem dX12_text_237 : decode cX12_text 237 = .ok (.getfield 44, 3) := by decide +kernel
theorem dX12_text_240 : decode cX12_text 240 = .ok (.aload_n 0, 1) := by decide +kernel
theorem dX12_text_241 : decode cX12_text 241 = .ok (.getfield 191, 3) := by decide +kernel
theorem dX12_text_244 : decode cX12_text 244 = .ok (.iconst 0, 1) := by decide +kernel
theorem dX12_text_245 : decode cX12_text 245 = .ok (.iastore, 1) := by decide +kernel
theorem dX12_text_246 : decode cX12_text 246 = .ok (.aload_n 0, 1) := by decide +kernel
theorem dX12_text_247 : decode cX12_text 247 = .ok (.getfield 47, 3) := by decide +kernel
theorem dX12_text_250 : decode cX12_text 250 = .ok (.aload_n 0, 1) := by decide +kernel
theorem dX12_text_251 : decode cX12_text 251 = .ok (.getfield 191, 3) := by decide +kernel
theorem dX12_text_254 : decode cX12_text 254 = .ok (.iaload, 1) := by decide +kernel
theorem dX12_text_255 : decode cX12_text 255 = .ok (.ifCond .ge 14, 3) := by decide +kernel
theorem dX12_text_258 : decode cX12_text 258 = .ok (.aload_n 0, 1) := by decide +kernel
theorem dX12_text_259 : decode cX12_text 259 = .ok (.getfield 47, 3) := by decide +kernel
theorem dX12_text_262 : decode cX12_text 262 = .ok (.aload_n 0, 1) := by decide +kernel
theorem dX12_text_263 : decode cX12_text 263 = .ok (.getfield 191, 3) := by decide +kernel
theorem dX12_text_266 : decode cX12_text 266 = .ok (.bipush 12, 2) := by decide +kernel
theorem dX12_text_268 : decode cX12_text 268 = .ok (.iastore, 1) := by decide +kernel
theorem dX12_text_269 : decode cX12_text 269 = .ok (.aload_n 0, 1) := by decide +kernel
theorem dX12_text_270 : decode cX12_text 270 = .ok (.getfield 50, 3) := by decide +kernel
theorem dX12_text_273 : decode cX12_text 273 = .ok (.aload_n 0, 1) := by decide +kernel
theorem dX12_text_274 : decode cX12_text 274 = .ok (.getfield 191, 3) := by decide +kernel
theorem dX12_text_277 : decode cX12_text 277 = .ok (.iaload, 1) := by decide +kernel
theorem dX12_text_278 : decode cX12_text 278 = .ok (.ifCond .ge 27, 3) := by decide +kernel
theorem dX12_text_281 : decode cX12_text 281 = .ok (.aload_n 0, 1) := by decide +kernel
theorem dX12_text_282 : decode cX12_text 282 = .ok (.getfield 50, 3) := by decide +kernel
theorem dX12_text_285 : decode cX12_text 285 = .ok (.aload_n 0, 1) := by decide +kernel
theorem dX12_text_286 : decode cX12_text 286 = .ok (.getfield 191, 3) := by decide +kernel
theorem dX12_text_289 : decode cX12_text 289 = .ok (.sipush 140, 3) := by decide +kernel
theorem dX12_text_292 : decode cX12_text 292 = .ok (.iastore, 1) := by decide +kernel
theorem dX12_text_293 : decode cX12_text 293 = .ok (.aload_n 0, 1) := by decide +kernel
theorem dX12_text_294 : decode cX12_text 294 = .ok (.getfield 53, 3) := by decide +kernel
theorem dX12_text_297 : decode cX12_text 297 = .ok (.aload_n 0, 1) := by decide +kernel
theorem dX12_text_298 : decode cX12_text 298 = .ok (.getfield 191, 3) := by decide +kernel
theorem dX12_text_301 : decode cX12_text 301 = .ok (.sipush 159, 3) := by decide +kernel
theorem dX12_text_304 : decode cX12_text 304 = .ok (.iastore, 1) := by decide +kernel
theorem dX12_text_305 : decode cX12_text 305 = .ok (.aload_n 0, 1) := by decide +kernel
theorem dX12_text_306 : decode cX12_text 306 = .ok (.getfield 56, 3) := by decide +kernel
theorem dX12_text_309 : decode cX12_text 309 = .ok (.aload_n 0, 1) := by decide +kernel
theorem dX12_text_310 : decode cX12_text 310 = .ok (.getfield 191, 3) := by decide +kernel
theorem dX12_text_313 : decode cX12_text 313 = .ok (.iaload, 1) := by decide +kernel
theorem dX12_text_314 : decode cX12_text 314 = .ok (.ifCond .ge 13, 3) := by decide +kernel
theorem dX12_text_317 : decode cX12_text 317 = .ok (.aload_n 0, 1) := by decide +kernel
theorem dX12_text_318 : decode cX12_text 318 = .ok (.getfield 56, 3) := by decide +kernel
theorem dX12_text_321 : decode cX12_text 321 = .ok (.aload_n 0, 1) := by decide +kernel
theorem dX12_text_322 : decode cX12_text 322 = .ok (.getfield 191, 3) := by decide +kernel
theorem dX12_text_325 : decode cX12_text 325 = .ok (.iconst 3, 1) := by decide +kernel
theorem dX12_text_326 : decode cX12_text 326 = .ok (.iastore, 1) := by decide +kernel
theorem dX12_text_327 : decode cX12_text 327 = .ok (.aload_n 0, 1) := by decide +kernel
theorem dX12_text_328 : decode cX12_text 328 = .ok (.getfield 17, 3) := by decide +kernel
theorem dX12_text_331 : decode cX12_text 331 = .ok (.iload_n 1, 1) := by decide +kernel
theorem dX12_text_332 : decode cX12_text 332 = .ok (.dup2, 1) := by decide +kernel
theorem dX12_text_333 : decode cX12_text 333 = .ok (.iaload, 1) := by decide +kernel
theorem dX12_text_334 : decode cX12_text 334 = .ok (.iconst 1, 1) := by decide +kernel
theorem dX12_text_335 : decode cX12_text 335 = .ok (.iadd, 1) := by decide +kernel
theorem dX12_text_336 : decode cX12_text 336 = .ok (.iastore, 1) := by decide +kernel
theorem dX12_text_337 : decode cX12_text 337 = .ok (.aload_n 0, 1) := by decide +kernel
theorem dX12_text_338 : decode cX12_text 338 = .ok (.getfield 17, 3) := by decide +kernel
theorem dX12_text_341 : decode cX12_text 341 = .ok (.iload_n 1, 1) := by decide +kernel
theorem dX12_text_342 : decode cX12_text 342 = .ok (.iaload, 1) := by decide +kernel
theorem dX12_text_343 : decode cX12_text 343 = .ok (.iconst 1, 1) := by decide +kernel
theorem dX12_text_344 : decode cX12_text 344 = .ok (.isub, 1) := by decide +kernel
theorem dX12_text_345 : decode cX12_text 345 = .ok (.ireturn, 1) := by decide +kernel
theorem wk_542 : Cond.methodLink RX12 324 yX12_mostOf ∈ tl_L := List.mem_filter.mpr ⟨by decide +kernel, rfl⟩
theorem wk_543 : Cond.static yX12_mostOf ∈ tl_L := List.mem_filter.mpr ⟨by decide +kernel, rfl⟩
theorem wk_544 : Cond.code yX12_mostOf cX12_mostOf 1 (some .int) ∈ tl_L := List.mem_filter.mpr ⟨List.mem_of_getElem? (i := 1672) (by decide +kernel), rfl⟩
theorem wk_545 : Cond.methodLink RX12 327 yX12_firstOf ∈ tl_L := List.mem_filter.mpr ⟨by decide +kernel, rfl⟩
theorem wk_546 : Cond.static yX12_firstOf ∈ tl_L := List.mem_filter.mpr ⟨by decide +kernel, rfl⟩
theorem wk_547 : Cond.code yX12_firstOf cX12_firstOf 1 (some .int) ∈ tl_L := List.mem_filter.mpr ⟨List.mem_of_getElem? (i := 1675) (by decide +kernel), rfl⟩
theorem wk_548 : Cond.methodLink RX12 330 yX12_clauseHere ∈ tl_L := List.mem_filter.mpr ⟨by decide +kernel, rfl⟩
theorem wk_549 : Cond.instanceMethod yX12_clauseHere ∈ tl_L := List.mem_filter.mpr ⟨by decide +kernel, rfl⟩
theorem wk_550 : Cond.selects RX12 yX12_clauseHere yX12_clauseHere ∈ tl_L := List.mem_filter.mpr ⟨by decide +kernel, rfl⟩
theorem wk_551 : Cond.code yX12_clauseHere cX12_clauseHere 4 (some .boolean) ∈ tl_L := List.mem_filter.mpr ⟨List.mem_of_getElem? (i := 1679) (by decide +kernel), rfl⟩
theorem lk_X12_324 : tl_kS RX12 324 yX12_mostOf cX12_mostOf 1 (some .int) 1 := ⟨wk_544, wk_542, wk_543, wk_5, ⟨by decide +kernel, by decide +kernel, by decide +kernel⟩⟩
theorem lk_X12_327 : tl_kS RX12 327 yX12_firstOf cX12_firstOf 1 (some .int) 1 := ⟨wk_547, wk_545, wk_546, wk_5, ⟨by decide +kernel, by decide +kernel, by decide +kernel⟩⟩
theorem lk_X12_330 : tl_kV RX12 330 RX12 yX12_clauseHere cX12_clauseHere 4 (some .boolean) 0 := ⟨wk_551, wk_548, wk_549, wk_550, wk_5, ⟨by decide +kernel, by decide +kernel, by decide +kernel⟩⟩
/-! ===== texts that stand, over a reading ===== -/
theorem rg_tx {G G2 : tk_G} {k n w j : Nat} {t v : Int} (e : G2 = tg G (k, n, w) j v) (hk : k ∉ [43, 45, 46, 47, 48, 49, 50, 51]) : rg G G2 t := by
  subst e
  have g : ∀ k2 : Nat, k2 ∈ [43, 45, 46, 47, 48, 49, 50, 51] → k2 ≠ k := fun k2 h q => hk (q ▸ h)
  exact ⟨fun i _ => tg_r (g _ (by decide)), fun i _ => tg_r (g _ (by decide)), fun j _ => ⟨tg_r (g _ (by decide)), tg_r (g _ (by decide)), tg_r (g _ (by decide)), tg_r (g _ (by decide)), tg_r (g _ (by decide)), tg_r (g _ (by decide))⟩⟩
theorem rb_tx {G G2 : tk_G} {k n w j : Nat} {t v : Int} (h : rb G t) (e : G2 = tg G (k, n, w) j v) (hk : k ∉ [43, 45, 46, 47, 48, 49, 50, 51]) : rb G2 t := by
  subst e
  have g : ∀ k2 : Nat, k2 ∈ [43, 45, 46, 47, 48, 49, 50, 51] → k2 ≠ k := fun k2 h q => hk (q ▸ h)
  unfold rb
  rw [tg_rf (g 43 (by decide)), tg_rf (g 45 (by decide)), tg_rf (g 46 (by decide)), tg_rf (g 47 (by decide)), tg_rf (g 48 (by decide)), tg_rf (g 49 (by decide)), tg_rf (g 50 (by decide)), tg_rf (g 51 (by decide))]
  exact h
def tx_p (tx : Nat → Int) (p t : Int) : Prop := (p = 0 ∧ tx p.toNat = tx 0 ∧ t = tx 0 ∧ tx 0 < 6) ∨ (p = 1 ∧ tx p.toNat = tx 1 ∧ t = 6 + tx 1 ∧ tx 1 < 8) ∨ (p = 2 ∧ tx p.toNat = tx 2 ∧ t = 14 + tx 2 ∧ tx 2 < 8)
/-- a text that stands is as it was -/
theorem tx_old {Γ G : tk_G} {t u : Int} (h : tx_t (Γ (43, 8800, 0)) (Γ (45, 1056, 0)) (Γ (46, 22, 0)) (Γ (47, 6, 0)) (Γ (48, 22, 0)) (Γ (49, 22, 0)) (Γ (50, 22, 0)) (Γ (51, 22, 0)) u) (hg : rg Γ G t) (hu : 0 ≤ u) (hne : ¬ u = t) : tx_t (G (43, 8800, 0)) (G (45, 1056, 0)) (G (46, 22, 0)) (G (47, 6, 0)) (G (48, 22, 0)) (G (49, 22, 0)) (G (50, 22, 0)) (G (51, 22, 0)) u := by
  obtain ⟨a1, a2, a3, a4, a5, a6, a7⟩ := h
  obtain ⟨g1, g2, g3⟩ := hg
  obtain ⟨e1, e2, e3, e4, e5, e6⟩ := g3 u.toNat (by omega)
  have em : ∀ (c : Nat) (k : Int), (c : Int) < Γ (46, 22, 0) u.toNat → 0 ≤ k → k ≤ 3 → G (45, 1056, 0) (48 * u + 4 * (c : Int) + k).toNat = Γ (45, 1056, 0) (48 * u + 4 * (c : Int) + k).toNat := fun c k hc h1 h2 => g2 _ (by omega)
  have er : ∀ x y : Int, (0 ≤ x ∧ x ≤ y ∧ y ≤ 400 ∧ rp (Γ (43, 8800, 0)) (400 * u + x).toNat (y - x).toNat 1) → (0 ≤ x ∧ x ≤ y ∧ y ≤ 400 ∧ rp (G (43, 8800, 0)) (400 * u + x).toNat (y - x).toNat 1) := fun x y q => ⟨q.1, q.2.1, q.2.2.1, q.2.2.2.ext (fun j hj => g1 _ (by omega))⟩
  unfold tx_t
  rw [e1, e2, e3, e4, e5, e6]
  refine ⟨a1, fun c hc => ?_, fun hs c hc => ?_, a4, a5, a6, a7⟩
  · rw [em c 2 hc (by omega) (by omega), em c 3 hc (by omega) (by omega)]
    exact (a2 c hc).imp id (er _ _)
  · rw [em c 0 hc (by omega) (by omega), em c 1 hc (by omega) (by omega)]
    exact er _ _ (a3 hs c hc)
theorem tx_keep {Γ G : tk_G} {p t : Int} (h : tx_ok (Γ (43, 8800, 0)) (Γ (45, 1056, 0)) (Γ (46, 22, 0)) (Γ (47, 6, 0)) (Γ (48, 22, 0)) (Γ (49, 22, 0)) (Γ (50, 22, 0)) (Γ (51, 22, 0)) (Γ (42, 3, 0))) (hg : rg Γ G t) (hb : rb G t) (hp : tx_p (Γ (42, 3, 0)) p t) : tx_ok (G (43, 8800, 0)) (G (45, 1056, 0)) (G (46, 22, 0)) (G (47, 6, 0)) (G (48, 22, 0)) (G (49, 22, 0)) (G (50, 22, 0)) (G (51, 22, 0)) (Γ (42, 3, 0)) := by
  obtain ⟨⟨b0, b1, b2, b3⟩, h2⟩ := h
  refine ⟨⟨b0, b1, b2, fun j hj => ?_⟩, fun u hu => ?_⟩
  · by_cases e : (j : Int) = t
    · have q := hb.2.2.2.2.2.1
      rw [show t.toNat = j from by omega] at q
      exact q
    · rw [(hg.2.2 j e).2.2.2.2.1]; exact b3 j hj
  · refine tx_old (h2 u hu) hg (by omega) ?_
    intro q
    unfold tx_p at hp
    omega
theorem tx_add {Γ G : tk_G} {p t : Int} (h : tx_ok (Γ (43, 8800, 0)) (Γ (45, 1056, 0)) (Γ (46, 22, 0)) (Γ (47, 6, 0)) (Γ (48, 22, 0)) (Γ (49, 22, 0)) (Γ (50, 22, 0)) (Γ (51, 22, 0)) (Γ (42, 3, 0))) (hg : rg Γ G t) (hb : rb G t) (hs : 0 ≤ G (48, 22, 0) t.toNat ∧ 0 ≤ G (49, 22, 0) t.toNat ∧ 0 ≤ G (51, 22, 0) t.toNat) (hp : tx_p (Γ (42, 3, 0)) p t) : tx_ok (G (43, 8800, 0)) (G (45, 1056, 0)) (G (46, 22, 0)) (G (47, 6, 0)) (G (48, 22, 0)) (G (49, 22, 0)) (G (50, 22, 0)) (G (51, 22, 0)) (tgu (Γ (42, 3, 0)) p.toNat (Γ (42, 3, 0) p.toNat + 1)) := by
  have hk := tx_keep h hg hb hp
  obtain ⟨⟨b0, b1, b2, b3⟩, h2⟩ := hk
  have ht : tx_t (G (43, 8800, 0)) (G (45, 1056, 0)) (G (46, 22, 0)) (G (47, 6, 0)) (G (48, 22, 0)) (G (49, 22, 0)) (G (50, 22, 0)) (G (51, 22, 0)) t := by
    obtain ⟨a1, a2, a3, a4, a5, a6, a7⟩ := hb
    exact ⟨a1, fun c hc => (a2 c hc).1, fun q c hc => (a2 c hc).2 q, a3, ⟨hs.1, a4.2⟩, ⟨⟨hs.2.1, a5.2⟩, a6⟩, ⟨hs.2.2, a7.2⟩⟩
  unfold tx_p at hp
  rcases hp with ⟨rfl, hp1, hp2, hp3⟩ | ⟨rfl, hp1, hp2, hp3⟩ | ⟨rfl, hp1, hp2, hp3⟩
  · have w0 : tgu (Γ (42, 3, 0)) (0 : Int).toNat (Γ (42, 3, 0) (0 : Int).toNat + 1) 0 = Γ (42, 3, 0) 0 + 1 := tgu_s
    have w1 : tgu (Γ (42, 3, 0)) (0 : Int).toNat (Γ (42, 3, 0) (0 : Int).toNat + 1) 1 = Γ (42, 3, 0) 1 := tgu_n (by decide)
    have w2 : tgu (Γ (42, 3, 0)) (0 : Int).toNat (Γ (42, 3, 0) (0 : Int).toNat + 1) 2 = Γ (42, 3, 0) 2 := tgu_n (by decide)
    unfold tx_ok
    rw [w0, w1, w2]
    refine ⟨⟨by omega, b1, b2, b3⟩, fun u hu => ?_⟩
    by_cases e : u = t
    · rw [e]; exact ht
    · exact h2 u (by omega)
  · have w0 : tgu (Γ (42, 3, 0)) (1 : Int).toNat (Γ (42, 3, 0) (1 : Int).toNat + 1) 0 = Γ (42, 3, 0) 0 := tgu_n (by decide)
    have w1 : tgu (Γ (42, 3, 0)) (1 : Int).toNat (Γ (42, 3, 0) (1 : Int).toNat + 1) 1 = Γ (42, 3, 0) 1 + 1 := tgu_s
    have w2 : tgu (Γ (42, 3, 0)) (1 : Int).toNat (Γ (42, 3, 0) (1 : Int).toNat + 1) 2 = Γ (42, 3, 0) 2 := tgu_n (by decide)
    unfold tx_ok
    rw [w0, w1, w2]
    refine ⟨⟨b0, by omega, b2, b3⟩, fun u hu => ?_⟩
    by_cases e : u = t
    · rw [e]; exact ht
    · exact h2 u (by omega)
  · have w0 : tgu (Γ (42, 3, 0)) (2 : Int).toNat (Γ (42, 3, 0) (2 : Int).toNat + 1) 0 = Γ (42, 3, 0) 0 := tgu_n (by decide)
    have w1 : tgu (Γ (42, 3, 0)) (2 : Int).toNat (Γ (42, 3, 0) (2 : Int).toNat + 1) 1 = Γ (42, 3, 0) 1 := tgu_n (by decide)
    have w2 : tgu (Γ (42, 3, 0)) (2 : Int).toNat (Γ (42, 3, 0) (2 : Int).toNat + 1) 2 = Γ (42, 3, 0) 2 + 1 := tgu_s
    unfold tx_ok
    rw [w0, w1, w2]
    refine ⟨⟨b0, b1, by omega, b3⟩, fun u hu => ?_⟩
    by_cases e : u = t
    · rw [e]; exact ht
    · exact h2 u (by omega)
theorem tx_grow {Γ : tk_G} {p t : Int} (hp : tx_p (Γ (42, 3, 0)) p t) : Γ (42, 3, 0) 1 ≤ tgu (Γ (42, 3, 0)) p.toNat (Γ (42, 3, 0) p.toNat + 1) 1 := by
  unfold tx_p at hp
  rcases hp with ⟨rfl, _⟩ | ⟨rfl, hp1, _⟩ | ⟨rfl, _⟩
  · exact Int.le_of_eq (tgu_n (by decide)).symm
  · rw [show (1 : Int).toNat = 1 from rfl, tgu_s]; omega
  · exact Int.le_of_eq (tgu_n (by decide)).symm
set_option maxHeartbeats 4000000 in
set_option maxRecDepth 100000 in
theorem r_X12_text (l : Launch) (D : va_G) (cy : Nat → ClassId) (sz : Nat) (L : List Nat) (K : Nat → tk_K) (Γ : tk_G) (f : Nat → va_E) (o : Nat) (p0 : Int32) (ho : tp_r L K 39 (0) 0 o) (htx : tx_ok (Γ (43, 8800, 0)) (Γ (45, 1056, 0)) (Γ (46, 22, 0)) (Γ (47, 6, 0)) (Γ (48, 22, 0)) (Γ (49, 22, 0)) (Γ (50, 22, 0)) (Γ (51, 22, 0)) (Γ (42, 3, 0))) (h0 : 0 ≤ Γ (39, 0, 0) 0 ∧ Γ (39, 0, 0) 0 ≤ 400) : Met l yX12_text (tl_w yX12_text cX12_text 3 (some .int)) ({ frames := 11, cells := 0, slots := 0, locals := 243 }) (va_Pc [.ref o, .int p0] (tp_P D cy L K Γ f sz)) (va_Qi (fun (r : Int32) (u : (Nat → va_E) × tk_G) => tx_ok (u.2 (43, 8800, 0)) (u.2 (45, 1056, 0)) (u.2 (46, 22, 0)) (u.2 (47, 6, 0)) (u.2 (48, 22, 0)) (u.2 (49, 22, 0)) (u.2 (50, 22, 0)) (u.2 (51, 22, 0)) (u.2 (42, 3, 0)) ∧ (0 ≤ u.2 (39, 0, 0) 0 ∧ u.2 (39, 0, 0) 0 ≤ 400) ∧ Γ (42, 3, 0) 1 ≤ u.2 (42, 3, 0) 1) (tp_BG D cy L K Γ f [39, 42, 43, 44, 52, 45, 46, 53, 47, 54, 55, 56, 48, 49, 50, 51]) (tp_A L sz)) 0 0 (tp_A L sz) := by
  refine Met.ofW (cc := cX12_text) (maxL := 3) (ret := (some .int)) (by decide) rfl ?_
  intro p e s m args below meth c s₁ B hml hv
  obtain ⟨rfl, hsz, hP, hK, hL, hI, hN, hU⟩ := hv
  have hx := B.exec
  have hb := B.bytes
  have hr := B.returns
  have hta := tl_hta (atoms_spec (ws := tl_w yX12_text cX12_text 3 (some .int)) B.pre)
  have hown : s.vm.findClass RX12 = some m.cls := findClass_of_methodNamed B.named
  have hlocks := B.notSynchronized
  subst hsz
  have hI0 := hI
  generalize hAe : tp_A L s.heap.size = A
  have hA : ∀ q : Nat, s.heap.size ≤ q → A q := fun q h => by rw [← hAe]; exact Or.inr h
  have hAL : ∀ q ∈ L, A q := fun q h => by rw [← hAe]; exact Or.inl h
  have hAf : ∀ (H : Heap), s.heap.size ≤ H.size → ∀ q, tp_A L H.size q → A q := fun H h q hq => hq.elim (hAL q) (fun h2 => hA q (Nat.le_trans h h2))
  have hS : va_S A s.heap s.heap [] := va_S.rf
  have hD : va_D A (va_pl L f) := tp_D hL hAL
  have hfr : ∀ b, (K b).1 ∉ ([39, 42, 43, 44, 52, 45, 46, 53, 47, 54, 55, 56, 48, 49, 50, 51] : List Nat) → f b = f b := fun _ _ => rfl
  have hgr : ∀ κ : tk_K, κ.1 ∉ ([39, 42, 43, 44, 52, 45, 46, 53, 47, 54, 55, 56, 48, 49, 50, 51] : List Nat) → Γ κ = Γ κ := fun _ _ => rfl
  have hl := lv_entry ([.ref o, .int p0]) (n := 3) (Nat.le_of_ble_eq_true rfl)
  rw [lg_entry_eq]
  generalize (lg_sl ([.ref o, .int p0]) ++ List.replicate (3 - (lg_sl ([.ref o, .int p0])).length) Slot.unset).toArray = ls at hl ⊢
  have hl : lv_has ls 3 [(0, .ref o), (1, .int p0)] := hl
  have htb := htx.1
  have ht : Γ (41, 400, 0) = Γ (41, 400, 0) := rfl
  refine lv_iload_n hx hb dX12_text_0 rfl (lv_at hl 1 rfl) ?_
  refine lv_i2l (v := p0.toInt64) hx hb dX12_text_1 (by first | rfl | decide) ?_
  refine lv_lconst (v := 0) hx hb dX12_text_2 (by decide) ?_
  refine lv_ldc2 (v := 2) hx hb hown (hta _ wk_536) dX12_text_3 ?_
  refine tl_si (tq_rS (As := [.long p0.toInt64, .long 0, .long 2]) (rest := []) ⟨hx, hb, hml, hown, hta⟩ (tp_P.pre hK hN hL hU hI hP) lk_X12_112 (r_X12_in l D cy s.heap.size L K Γ f p0.toInt64 0 2 ) rfl rfl ⟨Nat.le_of_ble_eq_true rfl, Nat.le_of_ble_eq_true rfl⟩ rfl hl.1 rfl (Nat.le_of_ble_eq_true rfl) dX12_text_6 ⟨Nat.le_of_ble_eq_true rfl, Nat.le_of_ble_eq_true rfl⟩) (fun r_2 hw_1 => ?_)
  simp only [Int32.toInt_toInt64] at hw_1
  have hw_1 : tl_E r_2 ((0 : Int) ≤ p0.toInt ∧ p0.toInt ≤ (2 : Int)) 1 0 := hw_1
  refine lv_if_eq (tgt := 25) hx hb dX12_text_9 (by decide) (fun c_3 => ?_) (fun c_3 => ?_)
  · have c_3 := hw_1.f c_3
    refine lv_iconst (v := (-1)) hx hb dX12_text_25 (by decide) ?_
    have hpo9 : tx_ok (Γ (43, 8800, 0)) (Γ (45, 1056, 0)) (Γ (46, 22, 0)) (Γ (47, 6, 0)) (Γ (48, 22, 0)) (Γ (49, 22, 0)) (Γ (50, 22, 0)) (Γ (51, 22, 0)) (Γ (42, 3, 0)) ∧ (0 ≤ Γ (39, 0, 0) 0 ∧ Γ (39, 0, 0) 0 ≤ 400) ∧ Γ (42, 3, 0) 1 ≤ Γ (42, 3, 0) 1 := ⟨htx, (by omega), (by omega)⟩
    exact W.iret (v := (-1)) hx hb hr (fun t ht hW => ⟨⟨_, (f, Γ), rfl, hpo9, by rw [ht]; exact hP, hI, hfr, hgr⟩, hS.F ht⟩) hS.2.2 dX12_text_26
  · have c_3 := hw_1.t c_3
    refine lv_aload_n hx hb dX12_text_12 rfl (lv_at hl 0 rfl) ?_
    obtain ⟨r_5, v_6, q_7, hf_4, hr_8, hv_9⟩ := (show tp_o_M L K 0 0 (Γ (39, 0, 0)) (f o) from hI.at ho)
    have hx_10 : (v_6 0).toInt = Γ (39, 0, 0) 0 := hv_9 0 (by decide)
    have hx_11 : (v_6 1).toInt = Γ (39, 0, 0) 1 := hv_9 1 (by decide)
    have hx_12 : (v_6 2).toInt = Γ (39, 0, 0) 2 := hv_9 2 (by decide)
    have hx_13 : (v_6 3).toInt = Γ (39, 0, 0) 3 := hv_9 3 (by decide)
    have hx_14 : (v_6 4).toInt = Γ (39, 0, 0) 4 := hv_9 4 (by decide)
    have hx_15 : (v_6 5).toInt = Γ (39, 0, 0) 5 := hv_9 5 (by decide)
    have hx_16 : (v_6 6).toInt = Γ (39, 0, 0) 6 := hv_9 6 (by decide)
    have hx_17 : (v_6 7).toInt = Γ (39, 0, 0) 7 := hv_9 7 (by decide)
    have hx_18 : (v_6 8).toInt = Γ (39, 0, 0) 8 := hv_9 8 (by decide)
    refine tp_get (cy := cy) (ci := 12) (v := .ref (r_5 2)) (C := RX12) (T := TX12) (N := 49) hx hb hta inlX12 hown hK hP ho.1 hf_4 rfl 3 (by decide) (hta _ wk_152) (fun _ h9 => h9) rfl dX12_text_13 ?_
    refine lv_iload_n hx hb dX12_text_16 rfl (lv_at hl 1 rfl) ?_
    obtain ⟨g_20, hf_19, hg_21⟩ := (show tp_gi cy (3) (Γ (42, 3, 0)) (f (r_5 2)) from hI.at (show tp_r L K 42 3 0 (r_5 2) from hr_8 2 (by decide)))
    have hn_22 : vp_in p0 (3) := tl_in (by omega) (by omega)
    refine tp_iald (cy := cy) hx hb hK hP (show tp_r L K 42 3 0 (r_5 2) from hr_8 2 (by decide)).1 hf_19 hn_22 dX12_text_17 ?_
    refine lv_topi (fun z_23 ez_23 => ?_)
    have iz_23 : z_23.toInt = Γ (42, 3, 0) p0.toInt.toNat := by rw [ez_23]; exact hg_21 _ (tp_pin hn_22)
    refine lv_iload_n hx hb dX12_text_18 rfl (lv_at hl 1 rfl) ?_
    refine tl_si (tq_rS (As := [.int p0]) (rest := [.int z_23]) ⟨hx, hb, hml, hown, hta⟩ (tp_P.pre hK hN hL hU hI hP) lk_X12_324 (r_X12_mostOf l D cy s.heap.size L K Γ f p0 ) rfl rfl ⟨Nat.le_of_ble_eq_true rfl, Nat.le_of_ble_eq_true rfl⟩ rfl hl.1 rfl (Nat.le_of_ble_eq_true rfl) dX12_text_19 ⟨Nat.le_of_ble_eq_true rfl, Nat.le_of_ble_eq_true rfl⟩) (fun r_25 hw_24 => ?_)
    have hw_24 : (p0.toInt = 0 ∧ r_25.toInt = 6) ∨ (¬ p0.toInt = 0 ∧ r_25.toInt = 8) := hw_24
    refine lv_icmp_ne (tgt := 27) hx hb dX12_text_22 (by decide) (fun c_26 => ?_) (fun c_26 => ?_)
    · have c_26 : ¬ z_23.toInt = r_25.toInt := tl_neq c_26
      refine lv_aload_n hx hb dX12_text_27 rfl (lv_at hl 0 rfl) ?_
      refine lv_iload_n hx hb dX12_text_28 rfl (lv_at hl 1 rfl) ?_
      refine tl_si (tq_rS (As := [.int p0]) (rest := [.ref o]) ⟨hx, hb, hml, hown, hta⟩ (tp_P.pre hK hN hL hU hI hP) lk_X12_327 (r_X12_firstOf l D cy s.heap.size L K Γ f p0 ) rfl rfl ⟨Nat.le_of_ble_eq_true rfl, Nat.le_of_ble_eq_true rfl⟩ rfl hl.1 rfl (Nat.le_of_ble_eq_true rfl) dX12_text_29 ⟨Nat.le_of_ble_eq_true rfl, Nat.le_of_ble_eq_true rfl⟩) (fun r_28 hw_27 => ?_)
      have hw_27 : (p0.toInt = 0 ∧ r_28.toInt = 0) ∨ (p0.toInt = 1 ∧ r_28.toInt = 6) ∨ ((¬ p0.toInt = 0 ∧ ¬ p0.toInt = 1) ∧ r_28.toInt = 14) := hw_27
      refine lv_aload_n hx hb dX12_text_32 rfl (lv_at hl 0 rfl) ?_
      refine tp_get (cy := cy) (ci := 12) (v := .ref (r_5 2)) (C := RX12) (T := TX12) (N := 49) hx hb hta inlX12 hown hK hP ho.1 hf_4 rfl 3 (by decide) (hta _ wk_152) (fun _ h9 => h9) rfl dX12_text_33 ?_
      refine lv_iload_n hx hb dX12_text_36 rfl (lv_at hl 1 rfl) ?_
      have hn_29 : vp_in p0 (3) := tl_in (by omega) (by omega)
      refine tp_iald (cy := cy) hx hb hK hP (show tp_r L K 42 3 0 (r_5 2) from hr_8 2 (by decide)).1 hf_19 hn_29 dX12_text_37 ?_
      refine lv_topi (fun z_30 ez_30 => ?_)
      obtain rfl : z_23 = z_30 := ez_23.trans ez_30.symm
      refine lv_iadd hx hb dX12_text_38 ?_
      refine lv_topi (fun z_31 ez_31 => ?_)
      try have iz_31 : z_31.toInt = r_28.toInt + z_23.toInt := by rw [ez_31]; exact tl_addN r_28 z_23 rfl rfl (by omega) (by omega)
      obtain ⟨t0, ht0⟩ : ∃ y : Int, y = z_31.toInt := ⟨_, rfl⟩
      have hps : (p0.toInt = 0 ∧ Γ (42, 3, 0) p0.toInt.toNat = Γ (42, 3, 0) 0 ∧ t0 = Γ (42, 3, 0) 0 ∧ Γ (42, 3, 0) 0 < 6) ∨ (p0.toInt = 1 ∧ Γ (42, 3, 0) p0.toInt.toNat = Γ (42, 3, 0) 1 ∧ t0 = 6 + Γ (42, 3, 0) 1 ∧ Γ (42, 3, 0) 1 < 8) ∨ (p0.toInt = 2 ∧ Γ (42, 3, 0) p0.toInt.toNat = Γ (42, 3, 0) 2 ∧ t0 = 14 + Γ (42, 3, 0) 2 ∧ Γ (42, 3, 0) 2 < 8) := by
        have q0 : p0.toInt = 0 → Γ (42, 3, 0) p0.toInt.toNat = Γ (42, 3, 0) 0 := fun q => congrArg _ (by omega)
        have q1 : p0.toInt = 1 → Γ (42, 3, 0) p0.toInt.toNat = Γ (42, 3, 0) 1 := fun q => congrArg _ (by omega)
        have q2 : p0.toInt = 2 → Γ (42, 3, 0) p0.toInt.toNat = Γ (42, 3, 0) 2 := fun q => congrArg _ (by omega)
        rcases (show p0.toInt = 0 ∨ p0.toInt = 1 ∨ p0.toInt = 2 from by omega) with q | q | q
        · have q9 := q0 q; exact Or.inl ⟨q, q9, by omega, by omega⟩
        · have q9 := q1 q; exact Or.inr (Or.inl ⟨q, q9, by omega, by omega⟩)
        · have q9 := q2 q; exact Or.inr (Or.inr ⟨q, q9, by omega, by omega⟩)
      have ht21 : 0 ≤ t0 ∧ t0 ≤ 21 := by omega
      have hrg : rg Γ Γ t0 := rg.refl
      have htx9 : Γ (42, 3, 0) = Γ (42, 3, 0) := rfl
      obtain ⟨Γ_32, eΓ_32⟩ : ∃ y : tk_G, y = tg Γ (39, 0, 0) 4 z_31.toInt := ⟨_, rfl⟩
      have hv_33 : ∀ i : Nat, i < 16 → ((upd v_6 4 z_31) i).toInt = Γ_32 (39, 0, 0) i := by rw [eΓ_32, tg_f]; exact tp_gi_upd hv_9
      have hI9 : tp_I cy L K Γ_32 (va_up f o (.inr (12, [.ref (r_5 0), .ref (r_5 1), .int (v_6 0), .ref (r_5 2), .ref (r_5 3), .ref (r_5 4), .ref (r_5 5), .ref (r_5 6), .ref (r_5 7), .ref (r_5 8), .ref (r_5 9), .ref (r_5 10), .ref (r_5 11), .ref (r_5 12), .ref (r_5 13), .ref (r_5 14), .ref (r_5 15), .int (v_6 1), .int (v_6 2), .int (v_6 3), .int z_31, .int (v_6 5), .int (v_6 6), .int (v_6 7), .ref (r_5 16), .int (v_6 8), .ref (r_5 17), .int (v_6 9), .ref (r_5 18), .long q_7, .ref (r_5 19), .ref (r_5 20), .int (v_6 10), .int (v_6 11), .int (v_6 12), .ref (r_5 21), .ref (r_5 22), .int (v_6 13), .ref (r_5 23), .int (v_6 14), .int (v_6 15), .ref (r_5 24), .ref (r_5 25), .ref (r_5 26), .ref (r_5 27), .ref (r_5 28), .ref (r_5 29), .ref (r_5 30), .ref (r_5 31)]))) := by have q9 := hv_33; rw [eΓ_32, tg_f] at q9; rw [eΓ_32]; exact hI.setg hU rfl ho (show tp_o_M L K 0 0 (tgu (Γ (39, 0, 0)) 4 z_31.toInt) _ from ⟨r_5, (upd v_6 4 z_31), q_7, rfl, hr_8, q9⟩)
      have hfr9 : ∀ b, (K b).1 ∉ ([39, 42, 43, 44, 52, 45, 46, 53, 47, 54, 55, 56, 48, 49, 50, 51] : List Nat) → va_up f o (.inr (12, [.ref (r_5 0), .ref (r_5 1), .int (v_6 0), .ref (r_5 2), .ref (r_5 3), .ref (r_5 4), .ref (r_5 5), .ref (r_5 6), .ref (r_5 7), .ref (r_5 8), .ref (r_5 9), .ref (r_5 10), .ref (r_5 11), .ref (r_5 12), .ref (r_5 13), .ref (r_5 14), .ref (r_5 15), .int (v_6 1), .int (v_6 2), .int (v_6 3), .int z_31, .int (v_6 5), .int (v_6 6), .int (v_6 7), .ref (r_5 16), .int (v_6 8), .ref (r_5 17), .int (v_6 9), .ref (r_5 18), .long q_7, .ref (r_5 19), .ref (r_5 20), .int (v_6 10), .int (v_6 11), .int (v_6 12), .ref (r_5 21), .ref (r_5 22), .int (v_6 13), .ref (r_5 23), .int (v_6 14), .int (v_6 15), .ref (r_5 24), .ref (r_5 25), .ref (r_5 26), .ref (r_5 27), .ref (r_5 28), .ref (r_5 29), .ref (r_5 30), .ref (r_5 31)])) b = f b := tp_fr hfr ho (by decide)
      refine tp_put (cy := cy) (ci := 12) (v := .int z_31) (ty := tyX12 20) (C := RX12) (T := TX12) (N := 49) hx hb hta inlX12 tyX12 tyX12_ok nmX12 hown hK hP hD hS ho.1 hf_4 rfl 20 (by decide) (hta _ wk_537) (fun _ h9 => h9) rfl (tyX12_ok 20 (by decide)) rfl rfl (Nat.le_of_ble_eq_true rfl) dX12_text_39 (fun H locs hP hD hS => ?_)
      have hP : va_P D vwCl (va_pl L (va_up f o (.inr (12, [.ref (r_5 0), .ref (r_5 1), .int (v_6 0), .ref (r_5 2), .ref (r_5 3), .ref (r_5 4), .ref (r_5 5), .ref (r_5 6), .ref (r_5 7), .ref (r_5 8), .ref (r_5 9), .ref (r_5 10), .ref (r_5 11), .ref (r_5 12), .ref (r_5 13), .ref (r_5 14), .ref (r_5 15), .int (v_6 1), .int (v_6 2), .int (v_6 3), .int z_31, .int (v_6 5), .int (v_6 6), .int (v_6 7), .ref (r_5 16), .int (v_6 8), .ref (r_5 17), .int (v_6 9), .ref (r_5 18), .long q_7, .ref (r_5 19), .ref (r_5 20), .int (v_6 10), .int (v_6 11), .int (v_6 12), .ref (r_5 21), .ref (r_5 22), .int (v_6 13), .ref (r_5 23), .int (v_6 14), .int (v_6 15), .ref (r_5 24), .ref (r_5 25), .ref (r_5 26), .ref (r_5 27), .ref (r_5 28), .ref (r_5 29), .ref (r_5 30), .ref (r_5 31)])))) H := hP
      generalize hfe : va_up f o (.inr (12, [.ref (r_5 0), .ref (r_5 1), .int (v_6 0), .ref (r_5 2), .ref (r_5 3), .ref (r_5 4), .ref (r_5 5), .ref (r_5 6), .ref (r_5 7), .ref (r_5 8), .ref (r_5 9), .ref (r_5 10), .ref (r_5 11), .ref (r_5 12), .ref (r_5 13), .ref (r_5 14), .ref (r_5 15), .int (v_6 1), .int (v_6 2), .int (v_6 3), .int z_31, .int (v_6 5), .int (v_6 6), .int (v_6 7), .ref (r_5 16), .int (v_6 8), .ref (r_5 17), .int (v_6 9), .ref (r_5 18), .long q_7, .ref (r_5 19), .ref (r_5 20), .int (v_6 10), .int (v_6 11), .int (v_6 12), .ref (r_5 21), .ref (r_5 22), .int (v_6 13), .ref (r_5 23), .int (v_6 14), .int (v_6 15), .ref (r_5 24), .ref (r_5 25), .ref (r_5 26), .ref (r_5 27), .ref (r_5 28), .ref (r_5 29), .ref (r_5 30), .ref (r_5 31)])) = f_34 at hP hI9 hfr9
      have hD : va_D A (va_pl L f_34) := tp_D hL hAL
      have hf_35 : f_34 o = .inr (12, [.ref (r_5 0), .ref (r_5 1), .int (v_6 0), .ref (r_5 2), .ref (r_5 3), .ref (r_5 4), .ref (r_5 5), .ref (r_5 6), .ref (r_5 7), .ref (r_5 8), .ref (r_5 9), .ref (r_5 10), .ref (r_5 11), .ref (r_5 12), .ref (r_5 13), .ref (r_5 14), .ref (r_5 15), .int (v_6 1), .int (v_6 2), .int (v_6 3), .int z_31, .int (v_6 5), .int (v_6 6), .int (v_6 7), .ref (r_5 16), .int (v_6 8), .ref (r_5 17), .int (v_6 9), .ref (r_5 18), .long q_7, .ref (r_5 19), .ref (r_5 20), .int (v_6 10), .int (v_6 11), .int (v_6 12), .ref (r_5 21), .ref (r_5 22), .int (v_6 13), .ref (r_5 23), .int (v_6 14), .int (v_6 15), .ref (r_5 24), .ref (r_5 25), .ref (r_5 26), .ref (r_5 27), .ref (r_5 28), .ref (r_5 29), .ref (r_5 30), .ref (r_5 31)]) := by rw [← hfe]; exact va_up_self _ _ _
      have hf_36 := (show f_34 (r_5 2) = _ from by rw [← hfe, va_up_ne _ _ (tp_ne (show tp_r L K 42 3 0 (r_5 2) from hr_8 2 (by decide)) ho (by decide))]).trans hf_19
      clear hfe
      have hI := hI9
      have hfr := hfr9
      clear hI9 hfr9
      have hgr : ∀ κ : tk_K, κ.1 ∉ ([39, 42, 43, 44, 52, 45, 46, 53, 47, 54, 55, 56, 48, 49, 50, 51] : List Nat) → Γ_32 κ = Γ κ := tg_fr hgr eΓ_32 (by decide)
      have hx_37 : (v_6 0).toInt = Γ_32 (39, 0, 0) 0 := hv_33 0 (by decide)
      have hx_38 : (v_6 1).toInt = Γ_32 (39, 0, 0) 1 := hv_33 1 (by decide)
      have hx_39 : (v_6 2).toInt = Γ_32 (39, 0, 0) 2 := hv_33 2 (by decide)
      have hx_40 : (v_6 3).toInt = Γ_32 (39, 0, 0) 3 := hv_33 3 (by decide)
      have hx_41 : z_31.toInt = Γ_32 (39, 0, 0) 4 := hv_33 4 (by decide)
      have hx_42 : (v_6 5).toInt = Γ_32 (39, 0, 0) 5 := hv_33 5 (by decide)
      have hx_43 : (v_6 6).toInt = Γ_32 (39, 0, 0) 6 := hv_33 6 (by decide)
      have hx_44 : (v_6 7).toInt = Γ_32 (39, 0, 0) 7 := hv_33 7 (by decide)
      have hx_45 : (v_6 8).toInt = Γ_32 (39, 0, 0) 8 := hv_33 8 (by decide)
      have hg_46 : ∀ j : Nat, j < 3 → (g_20 j).toInt = Γ_32 (42, 3, 0) j := fun j hj => by rw [eΓ_32, tg_r (by decide)]; exact hg_21 j hj
      have wz_32_MLEN : Γ_32 (44, 22, 0) t0.toNat = Γ (44, 22, 0) t0.toNat := by rw [eΓ_32, tg_r (by decide)]
      have wz_32_MCLS : Γ_32 (46, 22, 0) t0.toNat = Γ (46, 22, 0) t0.toNat := by rw [eΓ_32, tg_r (by decide)]
      have wz_32_EATERS : Γ_32 (47, 6, 0) t0.toNat = Γ (47, 6, 0) t0.toNat := by rw [eΓ_32, tg_r (by decide)]
      have wz_32_MBENDS : Γ_32 (48, 22, 0) t0.toNat = Γ (48, 22, 0) t0.toNat := by rw [eΓ_32, tg_r (by decide)]
      have wz_32_GFROM : Γ_32 (49, 22, 0) t0.toNat = Γ (49, 22, 0) t0.toNat := by rw [eΓ_32, tg_r (by decide)]
      have wz_32_GTO : Γ_32 (50, 22, 0) t0.toNat = Γ (50, 22, 0) t0.toNat := by rw [eΓ_32, tg_r (by decide)]
      have wz_32_MWIDE : Γ_32 (51, 22, 0) t0.toNat = Γ (51, 22, 0) t0.toNat := by rw [eΓ_32, tg_r (by decide)]
      have hrg : rg Γ Γ_32 t0 := hrg.same (by rw [eΓ_32]; exact tg_M)
      have htx9 : Γ_32 (42, 3, 0) = Γ (42, 3, 0) := by rw [eΓ_32, tg_rf (by decide)]; exact htx9
      have hgt9 := htb.2.2.2 t0.toNat (by omega)
      have hjn204 : ∀ (f_47 : Nat → va_E) (Γ_48 : tk_G) (H : Heap) (locs : List Loc) (ls : Array Slot), (rg Γ Γ_48 t0) → (rb Γ_48 t0) → (Γ_48 (42, 3, 0) = Γ (42, 3, 0)) → (Γ_48 (39, 0, 0) 4 = t0) → va_P D vwCl (va_pl L f_47) H → tp_I cy L K Γ_48 f_47 → (∀ b, (K b).1 ∉ ([39, 42, 43, 44, 52, 45, 46, 53, 47, 54, 55, 56, 48, 49, 50, 51] : List Nat) → f_47 b = f b) → (∀ κ : tk_K, κ.1 ∉ ([39, 42, 43, 44, 52, 45, 46, 53, 47, 54, 55, 56, 48, 49, 50, 51] : List Nat) → Γ_48 κ = Γ κ) → va_S A s.heap H locs → lv_has ls 3 [(0, .ref o), (1, .int p0)] → W p l e ((headSpec (tl_w yX12_text cX12_text 3 (some .int)) ({ frames := 11, cells := 0, slots := 0, locals := 243 })).room) s m #[.ref o, .int p0] below meth c H locs 0 0 (MQ below (va_Qi (fun (r : Int32) (u : (Nat → va_E) × tk_G) => tx_ok (u.2 (43, 8800, 0)) (u.2 (45, 1056, 0)) (u.2 (46, 22, 0)) (u.2 (47, 6, 0)) (u.2 (48, 22, 0)) (u.2 (49, 22, 0)) (u.2 (50, 22, 0)) (u.2 (51, 22, 0)) (u.2 (42, 3, 0)) ∧ (0 ≤ u.2 (39, 0, 0) 0 ∧ u.2 (39, 0, 0) 0 ≤ 400) ∧ Γ (42, 3, 0) 1 ≤ u.2 (42, 3, 0) 1) (tp_BG D cy L K Γ f [39, 42, 43, 44, 52, 45, 46, 53, 47, 54, 55, 56, 48, 49, 50, 51]) A) #[.ref o, .int p0] s 0 0 A) (F0 m 204 ls []) := by
        intro f_47 Γ_48  H locs ls hrg hrb htx9 q4 hP hI hfr hgr hS hl
        have hD : va_D A (va_pl L f_47) := tp_D hL hAL
        refine lv_aload_n hx hb dX12_text_204 rfl (lv_at hl 0 rfl) ?_
        refine lv_iconst (v := 0) hx hb dX12_text_205 (by decide) ?_
        obtain ⟨r_50, v_51, q_52, hf_49, hr_53, hv_54⟩ := (show tp_o_M L K 0 0 (Γ_48 (39, 0, 0)) (f_47 o) from hI.at ho)
        have hx_55 : (v_51 0).toInt = Γ_48 (39, 0, 0) 0 := hv_54 0 (by decide)
        have hx_56 : (v_51 1).toInt = Γ_48 (39, 0, 0) 1 := hv_54 1 (by decide)
        have hx_57 : (v_51 2).toInt = Γ_48 (39, 0, 0) 2 := hv_54 2 (by decide)
        have hx_58 : (v_51 3).toInt = Γ_48 (39, 0, 0) 3 := hv_54 3 (by decide)
        have hx_59 : (v_51 4).toInt = Γ_48 (39, 0, 0) 4 := hv_54 4 (by decide)
        have hx_60 : (v_51 5).toInt = Γ_48 (39, 0, 0) 5 := hv_54 5 (by decide)
        have hx_61 : (v_51 6).toInt = Γ_48 (39, 0, 0) 6 := hv_54 6 (by decide)
        have hx_62 : (v_51 7).toInt = Γ_48 (39, 0, 0) 7 := hv_54 7 (by decide)
        have hx_63 : (v_51 8).toInt = Γ_48 (39, 0, 0) 8 := hv_54 8 (by decide)
        obtain ⟨Γ_64, eΓ_64⟩ : ∃ y : tk_G, y = tg Γ_48 (39, 0, 0) 0 (0 : Int) := ⟨_, rfl⟩
        have hv_65 : ∀ i : Nat, i < 16 → ((upd v_51 0 (0 : Int32)) i).toInt = Γ_64 (39, 0, 0) i := by rw [eΓ_64, tg_f]; exact tp_gi_upd hv_54
        have hI9 : tp_I cy L K Γ_64 (va_up f_47 o (.inr (12, [.ref (r_50 0), .ref (r_50 1), .int 0, .ref (r_50 2), .ref (r_50 3), .ref (r_50 4), .ref (r_50 5), .ref (r_50 6), .ref (r_50 7), .ref (r_50 8), .ref (r_50 9), .ref (r_50 10), .ref (r_50 11), .ref (r_50 12), .ref (r_50 13), .ref (r_50 14), .ref (r_50 15), .int (v_51 1), .int (v_51 2), .int (v_51 3), .int (v_51 4), .int (v_51 5), .int (v_51 6), .int (v_51 7), .ref (r_50 16), .int (v_51 8), .ref (r_50 17), .int (v_51 9), .ref (r_50 18), .long q_52, .ref (r_50 19), .ref (r_50 20), .int (v_51 10), .int (v_51 11), .int (v_51 12), .ref (r_50 21), .ref (r_50 22), .int (v_51 13), .ref (r_50 23), .int (v_51 14), .int (v_51 15), .ref (r_50 24), .ref (r_50 25), .ref (r_50 26), .ref (r_50 27), .ref (r_50 28), .ref (r_50 29), .ref (r_50 30), .ref (r_50 31)]))) := by have q9 := hv_65; rw [eΓ_64, tg_f] at q9; rw [eΓ_64]; exact hI.setg hU rfl ho (show tp_o_M L K 0 0 (tgu (Γ_48 (39, 0, 0)) 0 (0 : Int)) _ from ⟨r_50, (upd v_51 0 (0 : Int32)), q_52, rfl, hr_53, q9⟩)
        have hfr9 : ∀ b, (K b).1 ∉ ([39, 42, 43, 44, 52, 45, 46, 53, 47, 54, 55, 56, 48, 49, 50, 51] : List Nat) → va_up f_47 o (.inr (12, [.ref (r_50 0), .ref (r_50 1), .int 0, .ref (r_50 2), .ref (r_50 3), .ref (r_50 4), .ref (r_50 5), .ref (r_50 6), .ref (r_50 7), .ref (r_50 8), .ref (r_50 9), .ref (r_50 10), .ref (r_50 11), .ref (r_50 12), .ref (r_50 13), .ref (r_50 14), .ref (r_50 15), .int (v_51 1), .int (v_51 2), .int (v_51 3), .int (v_51 4), .int (v_51 5), .int (v_51 6), .int (v_51 7), .ref (r_50 16), .int (v_51 8), .ref (r_50 17), .int (v_51 9), .ref (r_50 18), .long q_52, .ref (r_50 19), .ref (r_50 20), .int (v_51 10), .int (v_51 11), .int (v_51 12), .ref (r_50 21), .ref (r_50 22), .int (v_51 13), .ref (r_50 23), .int (v_51 14), .int (v_51 15), .ref (r_50 24), .ref (r_50 25), .ref (r_50 26), .ref (r_50 27), .ref (r_50 28), .ref (r_50 29), .ref (r_50 30), .ref (r_50 31)])) b = f b := tp_fr hfr ho (by decide)
        refine tp_put (cy := cy) (ci := 12) (v := .int 0) (ty := tyX12 2) (C := RX12) (T := TX12) (N := 49) hx hb hta inlX12 tyX12 tyX12_ok nmX12 hown hK hP hD hS ho.1 hf_49 rfl 2 (by decide) (hta _ wk_347) (fun _ h9 => h9) rfl (tyX12_ok 2 (by decide)) rfl rfl (Nat.le_of_ble_eq_true rfl) dX12_text_206 (fun H locs hP hD hS => ?_)
        have hP : va_P D vwCl (va_pl L (va_up f_47 o (.inr (12, [.ref (r_50 0), .ref (r_50 1), .int 0, .ref (r_50 2), .ref (r_50 3), .ref (r_50 4), .ref (r_50 5), .ref (r_50 6), .ref (r_50 7), .ref (r_50 8), .ref (r_50 9), .ref (r_50 10), .ref (r_50 11), .ref (r_50 12), .ref (r_50 13), .ref (r_50 14), .ref (r_50 15), .int (v_51 1), .int (v_51 2), .int (v_51 3), .int (v_51 4), .int (v_51 5), .int (v_51 6), .int (v_51 7), .ref (r_50 16), .int (v_51 8), .ref (r_50 17), .int (v_51 9), .ref (r_50 18), .long q_52, .ref (r_50 19), .ref (r_50 20), .int (v_51 10), .int (v_51 11), .int (v_51 12), .ref (r_50 21), .ref (r_50 22), .int (v_51 13), .ref (r_50 23), .int (v_51 14), .int (v_51 15), .ref (r_50 24), .ref (r_50 25), .ref (r_50 26), .ref (r_50 27), .ref (r_50 28), .ref (r_50 29), .ref (r_50 30), .ref (r_50 31)])))) H := hP
        generalize hfe : va_up f_47 o (.inr (12, [.ref (r_50 0), .ref (r_50 1), .int 0, .ref (r_50 2), .ref (r_50 3), .ref (r_50 4), .ref (r_50 5), .ref (r_50 6), .ref (r_50 7), .ref (r_50 8), .ref (r_50 9), .ref (r_50 10), .ref (r_50 11), .ref (r_50 12), .ref (r_50 13), .ref (r_50 14), .ref (r_50 15), .int (v_51 1), .int (v_51 2), .int (v_51 3), .int (v_51 4), .int (v_51 5), .int (v_51 6), .int (v_51 7), .ref (r_50 16), .int (v_51 8), .ref (r_50 17), .int (v_51 9), .ref (r_50 18), .long q_52, .ref (r_50 19), .ref (r_50 20), .int (v_51 10), .int (v_51 11), .int (v_51 12), .ref (r_50 21), .ref (r_50 22), .int (v_51 13), .ref (r_50 23), .int (v_51 14), .int (v_51 15), .ref (r_50 24), .ref (r_50 25), .ref (r_50 26), .ref (r_50 27), .ref (r_50 28), .ref (r_50 29), .ref (r_50 30), .ref (r_50 31)])) = f_66 at hP hI9 hfr9
        have hD : va_D A (va_pl L f_66) := tp_D hL hAL
        have hf_67 : f_66 o = .inr (12, [.ref (r_50 0), .ref (r_50 1), .int 0, .ref (r_50 2), .ref (r_50 3), .ref (r_50 4), .ref (r_50 5), .ref (r_50 6), .ref (r_50 7), .ref (r_50 8), .ref (r_50 9), .ref (r_50 10), .ref (r_50 11), .ref (r_50 12), .ref (r_50 13), .ref (r_50 14), .ref (r_50 15), .int (v_51 1), .int (v_51 2), .int (v_51 3), .int (v_51 4), .int (v_51 5), .int (v_51 6), .int (v_51 7), .ref (r_50 16), .int (v_51 8), .ref (r_50 17), .int (v_51 9), .ref (r_50 18), .long q_52, .ref (r_50 19), .ref (r_50 20), .int (v_51 10), .int (v_51 11), .int (v_51 12), .ref (r_50 21), .ref (r_50 22), .int (v_51 13), .ref (r_50 23), .int (v_51 14), .int (v_51 15), .ref (r_50 24), .ref (r_50 25), .ref (r_50 26), .ref (r_50 27), .ref (r_50 28), .ref (r_50 29), .ref (r_50 30), .ref (r_50 31)]) := by rw [← hfe]; exact va_up_self _ _ _
        clear hfe
        have hI := hI9
        have hfr := hfr9
        clear hI9 hfr9
        have hgr : ∀ κ : tk_K, κ.1 ∉ ([39, 42, 43, 44, 52, 45, 46, 53, 47, 54, 55, 56, 48, 49, 50, 51] : List Nat) → Γ_64 κ = Γ κ := tg_fr hgr eΓ_64 (by decide)
        have hx_68 : (0 : Int) = Γ_64 (39, 0, 0) 0 := hv_65 0 (by decide)
        have hx_69 : (v_51 1).toInt = Γ_64 (39, 0, 0) 1 := hv_65 1 (by decide)
        have hx_70 : (v_51 2).toInt = Γ_64 (39, 0, 0) 2 := hv_65 2 (by decide)
        have hx_71 : (v_51 3).toInt = Γ_64 (39, 0, 0) 3 := hv_65 3 (by decide)
        have hx_72 : (v_51 4).toInt = Γ_64 (39, 0, 0) 4 := hv_65 4 (by decide)
        have hx_73 : (v_51 5).toInt = Γ_64 (39, 0, 0) 5 := hv_65 5 (by decide)
        have hx_74 : (v_51 6).toInt = Γ_64 (39, 0, 0) 6 := hv_65 6 (by decide)
        have hx_75 : (v_51 7).toInt = Γ_64 (39, 0, 0) 7 := hv_65 7 (by decide)
        have hx_76 : (v_51 8).toInt = Γ_64 (39, 0, 0) 8 := hv_65 8 (by decide)
        have wz_64_MLEN : Γ_64 (44, 22, 0) t0.toNat = Γ_48 (44, 22, 0) t0.toNat := by rw [eΓ_64, tg_r (by decide)]
        have wz_64_MCLS : Γ_64 (46, 22, 0) t0.toNat = Γ_48 (46, 22, 0) t0.toNat := by rw [eΓ_64, tg_r (by decide)]
        have wz_64_EATERS : Γ_64 (47, 6, 0) t0.toNat = Γ_48 (47, 6, 0) t0.toNat := by rw [eΓ_64, tg_r (by decide)]
        have wz_64_MBENDS : Γ_64 (48, 22, 0) t0.toNat = Γ_48 (48, 22, 0) t0.toNat := by rw [eΓ_64, tg_r (by decide)]
        have wz_64_GFROM : Γ_64 (49, 22, 0) t0.toNat = Γ_48 (49, 22, 0) t0.toNat := by rw [eΓ_64, tg_r (by decide)]
        have wz_64_GTO : Γ_64 (50, 22, 0) t0.toNat = Γ_48 (50, 22, 0) t0.toNat := by rw [eΓ_64, tg_r (by decide)]
        have wz_64_MWIDE : Γ_64 (51, 22, 0) t0.toNat = Γ_48 (51, 22, 0) t0.toNat := by rw [eΓ_64, tg_r (by decide)]
        have hrg : rg Γ Γ_64 t0 := hrg.same (by rw [eΓ_64]; exact tg_M)
        have htx9 : Γ_64 (42, 3, 0) = Γ (42, 3, 0) := by rw [eΓ_64, tg_rf (by decide)]; exact htx9
        have hrb : rb Γ_64 t0 := hrb.same (by rw [eΓ_64]; exact tg_M)
        refine lv_aload_n hx hb dX12_text_209 rfl (lv_at hl 0 rfl) ?_
        refine tp_get (cy := cy) (ci := 12) (v := .int (v_51 2)) (C := RX12) (T := TX12) (N := 49) hx hb hta inlX12 hown hK hP ho.1 hf_67 rfl 18 (by decide) (hta _ wk_540) (fun _ h9 => h9) rfl dX12_text_210 ?_
        refine lv_if_le (tgt := 224) hx hb dX12_text_213 (by decide) (fun c_77 => ?_) (fun c_77 => ?_)
        · have c_77 : (v_51 2).toInt ≤ (0 : Int) := tl_le c_77
          have hjn246 : ∀ (f_78 : Nat → va_E) (Γ_79 : tk_G) (H : Heap) (locs : List Loc) (ls : Array Slot), (rg Γ Γ_79 t0) → (rb Γ_79 t0) → (Γ_79 (42, 3, 0) = Γ (42, 3, 0)) → (Γ_79 (39, 0, 0) 4 = t0) → (Γ_79 (39, 0, 0) 0 = 0) → va_P D vwCl (va_pl L f_78) H → tp_I cy L K Γ_79 f_78 → (∀ b, (K b).1 ∉ ([39, 42, 43, 44, 52, 45, 46, 53, 47, 54, 55, 56, 48, 49, 50, 51] : List Nat) → f_78 b = f b) → (∀ κ : tk_K, κ.1 ∉ ([39, 42, 43, 44, 52, 45, 46, 53, 47, 54, 55, 56, 48, 49, 50, 51] : List Nat) → Γ_79 κ = Γ κ) → va_S A s.heap H locs → lv_has ls 3 [(0, .ref o), (1, .int p0)] → W p l e ((headSpec (tl_w yX12_text cX12_text 3 (some .int)) ({ frames := 11, cells := 0, slots := 0, locals := 243 })).room) s m #[.ref o, .int p0] below meth c H locs 0 0 (MQ below (va_Qi (fun (r : Int32) (u : (Nat → va_E) × tk_G) => tx_ok (u.2 (43, 8800, 0)) (u.2 (45, 1056, 0)) (u.2 (46, 22, 0)) (u.2 (47, 6, 0)) (u.2 (48, 22, 0)) (u.2 (49, 22, 0)) (u.2 (50, 22, 0)) (u.2 (51, 22, 0)) (u.2 (42, 3, 0)) ∧ (0 ≤ u.2 (39, 0, 0) 0 ∧ u.2 (39, 0, 0) 0 ≤ 400) ∧ Γ (42, 3, 0) 1 ≤ u.2 (42, 3, 0) 1) (tp_BG D cy L K Γ f [39, 42, 43, 44, 52, 45, 46, 53, 47, 54, 55, 56, 48, 49, 50, 51]) A) #[.ref o, .int p0] s 0 0 A) (F0 m 246 ls []) := by
            intro f_78 Γ_79  H locs ls hrg hrb htx9 q4 q00 hP hI hfr hgr hS hl
            have hD : va_D A (va_pl L f_78) := tp_D hL hAL
            have hjn269 : ∀ (f_80 : Nat → va_E) (Γ_81 : tk_G) (H : Heap) (locs : List Loc) (ls : Array Slot), (rg Γ Γ_81 t0) → (rb Γ_81 t0) → (Γ_81 (42, 3, 0) = Γ (42, 3, 0)) → (Γ_81 (39, 0, 0) 4 = t0) → (Γ_81 (39, 0, 0) 0 = 0) → (0 ≤ Γ_81 (48, 22, 0) t0.toNat) → va_P D vwCl (va_pl L f_80) H → tp_I cy L K Γ_81 f_80 → (∀ b, (K b).1 ∉ ([39, 42, 43, 44, 52, 45, 46, 53, 47, 54, 55, 56, 48, 49, 50, 51] : List Nat) → f_80 b = f b) → (∀ κ : tk_K, κ.1 ∉ ([39, 42, 43, 44, 52, 45, 46, 53, 47, 54, 55, 56, 48, 49, 50, 51] : List Nat) → Γ_81 κ = Γ κ) → va_S A s.heap H locs → lv_has ls 3 [(0, .ref o), (1, .int p0)] → W p l e ((headSpec (tl_w yX12_text cX12_text 3 (some .int)) ({ frames := 11, cells := 0, slots := 0, locals := 243 })).room) s m #[.ref o, .int p0] below meth c H locs 0 0 (MQ below (va_Qi (fun (r : Int32) (u : (Nat → va_E) × tk_G) => tx_ok (u.2 (43, 8800, 0)) (u.2 (45, 1056, 0)) (u.2 (46, 22, 0)) (u.2 (47, 6, 0)) (u.2 (48, 22, 0)) (u.2 (49, 22, 0)) (u.2 (50, 22, 0)) (u.2 (51, 22, 0)) (u.2 (42, 3, 0)) ∧ (0 ≤ u.2 (39, 0, 0) 0 ∧ u.2 (39, 0, 0) 0 ≤ 400) ∧ Γ (42, 3, 0) 1 ≤ u.2 (42, 3, 0) 1) (tp_BG D cy L K Γ f [39, 42, 43, 44, 52, 45, 46, 53, 47, 54, 55, 56, 48, 49, 50, 51]) A) #[.ref o, .int p0] s 0 0 A) (F0 m 269 ls []) := by
              intro f_80 Γ_81  H locs ls hrg hrb htx9 q4 q00 hsBE hP hI hfr hgr hS hl
              have hD : va_D A (va_pl L f_80) := tp_D hL hAL
              have hjn305 : ∀ (f_82 : Nat → va_E) (Γ_83 : tk_G) (H : Heap) (locs : List Loc) (ls : Array Slot), (rg Γ Γ_83 t0) → (rb Γ_83 t0) → (Γ_83 (42, 3, 0) = Γ (42, 3, 0)) → (Γ_83 (39, 0, 0) 4 = t0) → (Γ_83 (39, 0, 0) 0 = 0) → (0 ≤ Γ_83 (48, 22, 0) t0.toNat) → (0 ≤ Γ_83 (49, 22, 0) t0.toNat) → va_P D vwCl (va_pl L f_82) H → tp_I cy L K Γ_83 f_82 → (∀ b, (K b).1 ∉ ([39, 42, 43, 44, 52, 45, 46, 53, 47, 54, 55, 56, 48, 49, 50, 51] : List Nat) → f_82 b = f b) → (∀ κ : tk_K, κ.1 ∉ ([39, 42, 43, 44, 52, 45, 46, 53, 47, 54, 55, 56, 48, 49, 50, 51] : List Nat) → Γ_83 κ = Γ κ) → va_S A s.heap H locs → lv_has ls 3 [(0, .ref o), (1, .int p0)] → W p l e ((headSpec (tl_w yX12_text cX12_text 3 (some .int)) ({ frames := 11, cells := 0, slots := 0, locals := 243 })).room) s m #[.ref o, .int p0] below meth c H locs 0 0 (MQ below (va_Qi (fun (r : Int32) (u : (Nat → va_E) × tk_G) => tx_ok (u.2 (43, 8800, 0)) (u.2 (45, 1056, 0)) (u.2 (46, 22, 0)) (u.2 (47, 6, 0)) (u.2 (48, 22, 0)) (u.2 (49, 22, 0)) (u.2 (50, 22, 0)) (u.2 (51, 22, 0)) (u.2 (42, 3, 0)) ∧ (0 ≤ u.2 (39, 0, 0) 0 ∧ u.2 (39, 0, 0) 0 ≤ 400) ∧ Γ (42, 3, 0) 1 ≤ u.2 (42, 3, 0) 1) (tp_BG D cy L K Γ f [39, 42, 43, 44, 52, 45, 46, 53, 47, 54, 55, 56, 48, 49, 50, 51]) A) #[.ref o, .int p0] s 0 0 A) (F0 m 305 ls []) := by
                intro f_82 Γ_83  H locs ls hrg hrb htx9 q4 q00 hsBE hsGF hP hI hfr hgr hS hl
                have hD : va_D A (va_pl L f_82) := tp_D hL hAL
                have hjn327 : ∀ (f_84 : Nat → va_E) (Γ_85 : tk_G) (H : Heap) (locs : List Loc) (ls : Array Slot), (rg Γ Γ_85 t0) → (rb Γ_85 t0) → (Γ_85 (42, 3, 0) = Γ (42, 3, 0)) → (Γ_85 (39, 0, 0) 4 = t0) → (Γ_85 (39, 0, 0) 0 = 0) → (0 ≤ Γ_85 (48, 22, 0) t0.toNat) → (0 ≤ Γ_85 (49, 22, 0) t0.toNat) → (0 ≤ Γ_85 (51, 22, 0) t0.toNat) → va_P D vwCl (va_pl L f_84) H → tp_I cy L K Γ_85 f_84 → (∀ b, (K b).1 ∉ ([39, 42, 43, 44, 52, 45, 46, 53, 47, 54, 55, 56, 48, 49, 50, 51] : List Nat) → f_84 b = f b) → (∀ κ : tk_K, κ.1 ∉ ([39, 42, 43, 44, 52, 45, 46, 53, 47, 54, 55, 56, 48, 49, 50, 51] : List Nat) → Γ_85 κ = Γ κ) → va_S A s.heap H locs → lv_has ls 3 [(0, .ref o), (1, .int p0)] → W p l e ((headSpec (tl_w yX12_text cX12_text 3 (some .int)) ({ frames := 11, cells := 0, slots := 0, locals := 243 })).room) s m #[.ref o, .int p0] below meth c H locs 0 0 (MQ below (va_Qi (fun (r : Int32) (u : (Nat → va_E) × tk_G) => tx_ok (u.2 (43, 8800, 0)) (u.2 (45, 1056, 0)) (u.2 (46, 22, 0)) (u.2 (47, 6, 0)) (u.2 (48, 22, 0)) (u.2 (49, 22, 0)) (u.2 (50, 22, 0)) (u.2 (51, 22, 0)) (u.2 (42, 3, 0)) ∧ (0 ≤ u.2 (39, 0, 0) 0 ∧ u.2 (39, 0, 0) 0 ≤ 400) ∧ Γ (42, 3, 0) 1 ≤ u.2 (42, 3, 0) 1) (tp_BG D cy L K Γ f [39, 42, 43, 44, 52, 45, 46, 53, 47, 54, 55, 56, 48, 49, 50, 51]) A) #[.ref o, .int p0] s 0 0 A) (F0 m 327 ls []) := by
                  intro f_84 Γ_85  H locs ls hrg hrb htx9 q4 q00 hsBE hsGF hsWI hP hI hfr hgr hS hl
                  have hD : va_D A (va_pl L f_84) := tp_D hL hAL
                  refine lv_aload_n hx hb dX12_text_327 rfl (lv_at hl 0 rfl) ?_
                  obtain ⟨r_87, v_88, q_89, hf_86, hr_90, hv_91⟩ := (show tp_o_M L K 0 0 (Γ_85 (39, 0, 0)) (f_84 o) from hI.at ho)
                  have hx_92 : (v_88 0).toInt = Γ_85 (39, 0, 0) 0 := hv_91 0 (by decide)
                  have hx_93 : (v_88 1).toInt = Γ_85 (39, 0, 0) 1 := hv_91 1 (by decide)
                  have hx_94 : (v_88 2).toInt = Γ_85 (39, 0, 0) 2 := hv_91 2 (by decide)
                  have hx_95 : (v_88 3).toInt = Γ_85 (39, 0, 0) 3 := hv_91 3 (by decide)
                  have hx_96 : (v_88 4).toInt = Γ_85 (39, 0, 0) 4 := hv_91 4 (by decide)
                  have hx_97 : (v_88 5).toInt = Γ_85 (39, 0, 0) 5 := hv_91 5 (by decide)
                  have hx_98 : (v_88 6).toInt = Γ_85 (39, 0, 0) 6 := hv_91 6 (by decide)
                  have hx_99 : (v_88 7).toInt = Γ_85 (39, 0, 0) 7 := hv_91 7 (by decide)
                  have hx_100 : (v_88 8).toInt = Γ_85 (39, 0, 0) 8 := hv_91 8 (by decide)
                  refine tp_get (cy := cy) (ci := 12) (v := .ref (r_87 2)) (C := RX12) (T := TX12) (N := 49) hx hb hta inlX12 hown hK hP ho.1 hf_86 rfl 3 (by decide) (hta _ wk_152) (fun _ h9 => h9) rfl dX12_text_328 ?_
                  refine lv_iload_n hx hb dX12_text_331 rfl (lv_at hl 1 rfl) ?_
                  refine lv_dup2_11 hx hb dX12_text_332 rfl rfl ?_
                  obtain ⟨g_102, hf_101, hg_103⟩ := (show tp_gi cy (3) (Γ_85 (42, 3, 0)) (f_84 (r_87 2)) from hI.at (show tp_r L K 42 3 0 (r_87 2) from hr_90 2 (by decide)))
                  have hn_104 : vp_in p0 (3) := tl_in (by omega) (by omega)
                  refine tp_iald (cy := cy) hx hb hK hP (show tp_r L K 42 3 0 (r_87 2) from hr_90 2 (by decide)).1 hf_101 hn_104 dX12_text_333 ?_
                  refine lv_topi (fun z_105 ez_105 => ?_)
                  have iz_105 : z_105.toInt = Γ_85 (42, 3, 0) p0.toInt.toNat := by rw [ez_105]; exact hg_103 _ (tp_pin hn_104)
                  refine lv_iconst (v := 1) hx hb dX12_text_334 (by decide) ?_
                  refine lv_iadd hx hb dX12_text_335 ?_
                  refine lv_topi (fun z_106 ez_106 => ?_)
                  try have iz_106 : z_106.toInt = z_105.toInt + (1 : Int) := by rw [ez_106]; exact tl_addN z_105 1 rfl rfl (by omega) (by omega)
                  have hn_107 : vp_in p0 (3) := tl_in (by omega) (by omega)
                  have hj_108 : p0.toNatClampNeg = p0.toInt.toNat := by show p0.toInt.toNat = _; omega
                  have hv_109 : z_106.toInt = Γ (42, 3, 0) p0.toInt.toNat + 1 := by omega
                  obtain ⟨Γ_110, eΓ_110⟩ : ∃ y : tk_G, y = tg Γ_85 (42, 3, 0) p0.toInt.toNat (Γ (42, 3, 0) p0.toInt.toNat + 1) := ⟨_, rfl⟩
                  have hI9 : tp_I cy L K Γ_110 (va_up f_84 (r_87 2) (.inl (cy 0, 3, .inl (upd g_102 p0.toNatClampNeg z_106)))) := by have q9 : tg Γ_85 (42, 3, 0) p0.toInt.toNat (Γ (42, 3, 0) p0.toInt.toNat + 1) = tg Γ_85 (42, 3, 0) p0.toNatClampNeg z_106.toInt := (by rw [hj_108, hv_109]); rw [eΓ_110, q9]; exact hI.setg hU rfl (show tp_r L K 42 3 0 (r_87 2) from hr_90 2 (by decide)) (show tp_gi cy (3) (tgu (Γ_85 (42, 3, 0)) _ _) _ from ⟨_, rfl, tp_gi_upd hg_103⟩)
                  have hfr9 : ∀ b, (K b).1 ∉ ([39, 42, 43, 44, 52, 45, 46, 53, 47, 54, 55, 56, 48, 49, 50, 51] : List Nat) → va_up f_84 (r_87 2) (.inl (cy 0, 3, .inl (upd g_102 p0.toNatClampNeg z_106))) b = f b := tp_fr hfr (show tp_r L K 42 3 0 (r_87 2) from hr_90 2 (by decide)) (by decide)
                  refine tp_iast (cy := cy) hx hb hK hP hD hS (show tp_r L K 42 3 0 (r_87 2) from hr_90 2 (by decide)).1 hf_101 hn_107 dX12_text_336 (fun H locs hP hD hS => ?_)
                  have hP : va_P D vwCl (va_pl L (va_up f_84 (r_87 2) (.inl (cy 0, 3, .inl (upd g_102 p0.toNatClampNeg z_106))))) H := hP
                  generalize hfe : va_up f_84 (r_87 2) (.inl (cy 0, 3, .inl (upd g_102 p0.toNatClampNeg z_106))) = f_111 at hP hI9 hfr9
                  have hD : va_D A (va_pl L f_111) := tp_D hL hAL
                  have hf_112 := (show f_111 o = _ from by rw [← hfe, va_up_ne _ _ (tp_ne ho (show tp_r L K 42 3 0 (r_87 2) from hr_90 2 (by decide)) (by decide))]).trans hf_86
                  have hf_113 : f_111 (r_87 2) = .inl (cy 0, 3, .inl (upd g_102 p0.toNatClampNeg z_106)) := by rw [← hfe]; exact va_up_self _ _ _
                  clear hfe
                  have hI := hI9
                  have hfr := hfr9
                  clear hI9 hfr9
                  have wxΓ_110_MLEN : Γ_110 (44, 22, 0) t0.toNat = Γ_85 (44, 22, 0) t0.toNat := by rw [eΓ_110, tg_r (by decide)]
                  have wxΓ_110_MCLS : Γ_110 (46, 22, 0) t0.toNat = Γ_85 (46, 22, 0) t0.toNat := by rw [eΓ_110, tg_r (by decide)]
                  have wxΓ_110_EATERS : Γ_110 (47, 6, 0) t0.toNat = Γ_85 (47, 6, 0) t0.toNat := by rw [eΓ_110, tg_r (by decide)]
                  have wxΓ_110_MBENDS : Γ_110 (48, 22, 0) t0.toNat = Γ_85 (48, 22, 0) t0.toNat := by rw [eΓ_110, tg_r (by decide)]
                  have wxΓ_110_GFROM : Γ_110 (49, 22, 0) t0.toNat = Γ_85 (49, 22, 0) t0.toNat := by rw [eΓ_110, tg_r (by decide)]
                  have wxΓ_110_GTO : Γ_110 (50, 22, 0) t0.toNat = Γ_85 (50, 22, 0) t0.toNat := by rw [eΓ_110, tg_r (by decide)]
                  have wxΓ_110_MWIDE : Γ_110 (51, 22, 0) t0.toNat = Γ_85 (51, 22, 0) t0.toNat := by rw [eΓ_110, tg_r (by decide)]
                  have wsΓ_110 : Γ_110 (42, 3, 0) p0.toInt.toNat = Γ (42, 3, 0) p0.toInt.toNat + 1 := by rw [eΓ_110]; exact tg_s
                  have hrg : rg Γ Γ_110 t0 := hrg.trans (rg_tx eΓ_110 (by decide))
                  have hrb : rb Γ_110 t0 := rb_tx hrb eΓ_110 (by decide)
                  have htx8 : Γ_110 (42, 3, 0) = tgu (Γ (42, 3, 0)) p0.toInt.toNat (Γ (42, 3, 0) p0.toInt.toNat + 1) := by rw [eΓ_110, tg_f, htx9]
                  have hgr : ∀ κ : tk_K, κ.1 ∉ ([39, 42, 43, 44, 52, 45, 46, 53, 47, 54, 55, 56, 48, 49, 50, 51] : List Nat) → Γ_110 κ = Γ κ := tg_fr hgr eΓ_110 (by decide)
                  have hv_114 : ∀ i : Nat, i < 16 → (v_88 i).toInt = Γ_110 (39, 0, 0) i := fun i hi => by rw [eΓ_110, tg_r (by decide)]; exact hv_91 i hi
                  have hx_115 : (v_88 0).toInt = Γ_110 (39, 0, 0) 0 := hv_114 0 (by decide)
                  have hx_116 : (v_88 1).toInt = Γ_110 (39, 0, 0) 1 := hv_114 1 (by decide)
                  have hx_117 : (v_88 2).toInt = Γ_110 (39, 0, 0) 2 := hv_114 2 (by decide)
                  have hx_118 : (v_88 3).toInt = Γ_110 (39, 0, 0) 3 := hv_114 3 (by decide)
                  have hx_119 : (v_88 4).toInt = Γ_110 (39, 0, 0) 4 := hv_114 4 (by decide)
                  have hx_120 : (v_88 5).toInt = Γ_110 (39, 0, 0) 5 := hv_114 5 (by decide)
                  have hx_121 : (v_88 6).toInt = Γ_110 (39, 0, 0) 6 := hv_114 6 (by decide)
                  have hx_122 : (v_88 7).toInt = Γ_110 (39, 0, 0) 7 := hv_114 7 (by decide)
                  have hx_123 : (v_88 8).toInt = Γ_110 (39, 0, 0) 8 := hv_114 8 (by decide)
                  refine lv_aload_n hx hb dX12_text_337 rfl (lv_at hl 0 rfl) ?_
                  refine tp_get (cy := cy) (ci := 12) (v := .ref (r_87 2)) (C := RX12) (T := TX12) (N := 49) hx hb hta inlX12 hown hK hP ho.1 hf_112 rfl 3 (by decide) (hta _ wk_152) (fun _ h9 => h9) rfl dX12_text_338 ?_
                  refine lv_iload_n hx hb dX12_text_341 rfl (lv_at hl 1 rfl) ?_
                  obtain ⟨g_125, hf_124, hg_126⟩ := (show tp_gi cy (3) (Γ_110 (42, 3, 0)) (f_111 (r_87 2)) from hI.at (show tp_r L K 42 3 0 (r_87 2) from hr_90 2 (by decide)))
                  have hn_127 : vp_in p0 (3) := tl_in (by omega) (by omega)
                  refine tp_iald (cy := cy) hx hb hK hP (show tp_r L K 42 3 0 (r_87 2) from hr_90 2 (by decide)).1 hf_124 hn_127 dX12_text_342 ?_
                  refine lv_topi (fun z_128 ez_128 => ?_)
                  have iz_128 : z_128.toInt = Γ_110 (42, 3, 0) p0.toInt.toNat := by rw [ez_128]; exact hg_126 _ (tp_pin hn_127)
                  refine lv_iconst (v := 1) hx hb dX12_text_343 (by decide) ?_
                  refine lv_isub hx hb dX12_text_344 ?_
                  refine lv_topi (fun z_129 ez_129 => ?_)
                  try have iz_129 : z_129.toInt = z_128.toInt - (1 : Int) := by rw [ez_129]; exact tl_subN z_128 1 rfl rfl (by omega) (by omega)
                  have hpo9 : tx_ok (Γ_110 (43, 8800, 0)) (Γ_110 (45, 1056, 0)) (Γ_110 (46, 22, 0)) (Γ_110 (47, 6, 0)) (Γ_110 (48, 22, 0)) (Γ_110 (49, 22, 0)) (Γ_110 (50, 22, 0)) (Γ_110 (51, 22, 0)) (Γ_110 (42, 3, 0)) ∧ (0 ≤ Γ_110 (39, 0, 0) 0 ∧ Γ_110 (39, 0, 0) 0 ≤ 400) ∧ Γ (42, 3, 0) 1 ≤ Γ_110 (42, 3, 0) 1 := ⟨(by rw [htx8]; exact tx_add htx hrg hrb ⟨hsBE, hsGF, hsWI⟩ hps), (by omega), (by rw [htx8]; exact tx_grow hps)⟩
                  exact W.iret (v := z_129) hx hb hr (fun t ht hW => ⟨⟨_, (f_111, Γ_110), rfl, hpo9, by rw [ht]; exact hP, hI, hfr, hgr⟩, hS.F ht⟩) hS.2.2 dX12_text_345
                refine lv_aload_n hx hb dX12_text_305 rfl (lv_at hl 0 rfl) ?_
                obtain ⟨r_131, v_132, q_133, hf_130, hr_134, hv_135⟩ := (show tp_o_M L K 0 0 (Γ_83 (39, 0, 0)) (f_82 o) from hI.at ho)
                have hx_136 : (v_132 0).toInt = Γ_83 (39, 0, 0) 0 := hv_135 0 (by decide)
                have hx_137 : (v_132 1).toInt = Γ_83 (39, 0, 0) 1 := hv_135 1 (by decide)
                have hx_138 : (v_132 2).toInt = Γ_83 (39, 0, 0) 2 := hv_135 2 (by decide)
                have hx_139 : (v_132 3).toInt = Γ_83 (39, 0, 0) 3 := hv_135 3 (by decide)
                have hx_140 : (v_132 4).toInt = Γ_83 (39, 0, 0) 4 := hv_135 4 (by decide)
                have hx_141 : (v_132 5).toInt = Γ_83 (39, 0, 0) 5 := hv_135 5 (by decide)
                have hx_142 : (v_132 6).toInt = Γ_83 (39, 0, 0) 6 := hv_135 6 (by decide)
                have hx_143 : (v_132 7).toInt = Γ_83 (39, 0, 0) 7 := hv_135 7 (by decide)
                have hx_144 : (v_132 8).toInt = Γ_83 (39, 0, 0) 8 := hv_135 8 (by decide)
                refine tp_get (cy := cy) (ci := 12) (v := .ref (r_131 15)) (C := RX12) (T := TX12) (N := 49) hx hb hta inlX12 hown hK hP ho.1 hf_130 rfl 16 (by decide) (hta _ wk_165) (fun _ h9 => h9) rfl dX12_text_306 ?_
                refine lv_aload_n hx hb dX12_text_309 rfl (lv_at hl 0 rfl) ?_
                refine tp_get (cy := cy) (ci := 12) (v := .int (v_132 4)) (C := RX12) (T := TX12) (N := 49) hx hb hta inlX12 hown hK hP ho.1 hf_130 rfl 20 (by decide) (hta _ wk_537) (fun _ h9 => h9) rfl dX12_text_310 ?_
                obtain ⟨g_146, hf_145, hg_147⟩ := (show tp_gi cy (22) (Γ_83 (51, 22, 0)) (f_82 (r_131 15)) from hI.at (show tp_r L K 51 22 0 (r_131 15) from hr_134 15 (by decide)))
                have hn_148 : vp_in (v_132 4) (22) := tl_in (by omega) (by omega)
                refine tp_iald (cy := cy) hx hb hK hP (show tp_r L K 51 22 0 (r_131 15) from hr_134 15 (by decide)).1 hf_145 hn_148 dX12_text_313 ?_
                refine lv_topi (fun z_149 ez_149 => ?_)
                have iz_149 : z_149.toInt = Γ_83 (51, 22, 0) (v_132 4).toInt.toNat := by rw [ez_149]; exact hg_147 _ (tp_pin hn_148)
                have jz_149 : z_149.toInt = Γ_83 (51, 22, 0) (Γ_83 (39, 0, 0) 4).toNat := by rw [← hx_140]; exact iz_149
                refine lv_if_ge (tgt := 327) hx hb dX12_text_314 (by decide) (fun c_150 => ?_) (fun c_150 => ?_)
                · have c_150 : (0 : Int) ≤ z_149.toInt := tl_le c_150
                  exact hjn327 f_82 Γ_83  H locs ls (show rg Γ Γ_83 t0 from hrg) (show rb Γ_83 t0 from hrb) (show Γ_83 (42, 3, 0) = Γ (42, 3, 0) from htx9) (show Γ_83 (39, 0, 0) 4 = t0 from (by omega)) (show Γ_83 (39, 0, 0) 0 = 0 from (by omega)) (show 0 ≤ Γ_83 (48, 22, 0) t0.toNat from (by omega)) (show 0 ≤ Γ_83 (49, 22, 0) t0.toNat from (by omega)) (show 0 ≤ Γ_83 (51, 22, 0) t0.toNat from (by omega)) hP hI hfr hgr hS (lv_sub hl [0, 1] rfl)
                · have c_150 : z_149.toInt < (0 : Int) := tl_nle c_150
                  refine lv_aload_n hx hb dX12_text_317 rfl (lv_at hl 0 rfl) ?_
                  refine tp_get (cy := cy) (ci := 12) (v := .ref (r_131 15)) (C := RX12) (T := TX12) (N := 49) hx hb hta inlX12 hown hK hP ho.1 hf_130 rfl 16 (by decide) (hta _ wk_165) (fun _ h9 => h9) rfl dX12_text_318 ?_
                  refine lv_aload_n hx hb dX12_text_321 rfl (lv_at hl 0 rfl) ?_
                  refine tp_get (cy := cy) (ci := 12) (v := .int (v_132 4)) (C := RX12) (T := TX12) (N := 49) hx hb hta inlX12 hown hK hP ho.1 hf_130 rfl 20 (by decide) (hta _ wk_537) (fun _ h9 => h9) rfl dX12_text_322 ?_
                  refine lv_iconst (v := 3) hx hb dX12_text_325 (by decide) ?_
                  have hn_151 : vp_in (v_132 4) (22) := tl_in (by omega) (by omega)
                  have hj_152 : (v_132 4).toNatClampNeg = t0.toNat := by show (v_132 4).toInt.toNat = _; omega
                  have hv_153 : (3 : Int32).toInt = (3 : Int) := by decide
                  obtain ⟨Γ_154, eΓ_154⟩ : ∃ y : tk_G, y = tg Γ_83 (51, 22, 0) t0.toNat (3 : Int) := ⟨_, rfl⟩
                  have hI9 : tp_I cy L K Γ_154 (va_up f_82 (r_131 15) (.inl (cy 0, 22, .inl (upd g_146 (v_132 4).toNatClampNeg 3)))) := by have q9 : tg Γ_83 (51, 22, 0) t0.toNat (3 : Int) = tg Γ_83 (51, 22, 0) (v_132 4).toNatClampNeg (3 : Int32).toInt := (by rw [hj_152, hv_153]); rw [eΓ_154, q9]; exact hI.setg hU rfl (show tp_r L K 51 22 0 (r_131 15) from hr_134 15 (by decide)) (show tp_gi cy (22) (tgu (Γ_83 (51, 22, 0)) _ _) _ from ⟨_, rfl, tp_gi_upd hg_147⟩)
                  have hfr9 : ∀ b, (K b).1 ∉ ([39, 42, 43, 44, 52, 45, 46, 53, 47, 54, 55, 56, 48, 49, 50, 51] : List Nat) → va_up f_82 (r_131 15) (.inl (cy 0, 22, .inl (upd g_146 (v_132 4).toNatClampNeg 3))) b = f b := tp_fr hfr (show tp_r L K 51 22 0 (r_131 15) from hr_134 15 (by decide)) (by decide)
                  refine tp_iast (cy := cy) hx hb hK hP hD hS (show tp_r L K 51 22 0 (r_131 15) from hr_134 15 (by decide)).1 hf_145 hn_151 dX12_text_326 (fun H locs hP hD hS => ?_)
                  have hP : va_P D vwCl (va_pl L (va_up f_82 (r_131 15) (.inl (cy 0, 22, .inl (upd g_146 (v_132 4).toNatClampNeg 3))))) H := hP
                  generalize hfe : va_up f_82 (r_131 15) (.inl (cy 0, 22, .inl (upd g_146 (v_132 4).toNatClampNeg 3))) = f_155 at hP hI9 hfr9
                  have hD : va_D A (va_pl L f_155) := tp_D hL hAL
                  have hf_156 := (show f_155 o = _ from by rw [← hfe, va_up_ne _ _ (tp_ne ho (show tp_r L K 51 22 0 (r_131 15) from hr_134 15 (by decide)) (by decide))]).trans hf_130
                  have hf_157 : f_155 (r_131 15) = .inl (cy 0, 22, .inl (upd g_146 (v_132 4).toNatClampNeg 3)) := by rw [← hfe]; exact va_up_self _ _ _
                  clear hfe
                  have hI := hI9
                  have hfr := hfr9
                  clear hI9 hfr9
                  have wxΓ_154_MLEN : Γ_154 (44, 22, 0) t0.toNat = Γ_83 (44, 22, 0) t0.toNat := by rw [eΓ_154, tg_r (by decide)]
                  have wxΓ_154_MCLS : Γ_154 (46, 22, 0) t0.toNat = Γ_83 (46, 22, 0) t0.toNat := by rw [eΓ_154, tg_r (by decide)]
                  have wxΓ_154_EATERS : Γ_154 (47, 6, 0) t0.toNat = Γ_83 (47, 6, 0) t0.toNat := by rw [eΓ_154, tg_r (by decide)]
                  have wxΓ_154_MBENDS : Γ_154 (48, 22, 0) t0.toNat = Γ_83 (48, 22, 0) t0.toNat := by rw [eΓ_154, tg_r (by decide)]
                  have wxΓ_154_GFROM : Γ_154 (49, 22, 0) t0.toNat = Γ_83 (49, 22, 0) t0.toNat := by rw [eΓ_154, tg_r (by decide)]
                  have wxΓ_154_GTO : Γ_154 (50, 22, 0) t0.toNat = Γ_83 (50, 22, 0) t0.toNat := by rw [eΓ_154, tg_r (by decide)]
                  have wsΓ_154 : Γ_154 (51, 22, 0) t0.toNat = (3 : Int) := by rw [eΓ_154]; exact tg_s
                  have hrg : rg Γ Γ_154 t0 := hrg.put (by omega) eΓ_154 (by decide) (by decide)
                  have htx9 : Γ_154 (42, 3, 0) = Γ (42, 3, 0) := by rw [eΓ_154, tg_rf (by decide)]; exact htx9
                  have hrb : rb Γ_154 t0 := hrb.put eΓ_154 (by decide) (fun _ => by first | omega | contradiction) (fun _ => by first | omega | contradiction) (fun _ => by first | omega | contradiction) (fun _ => by first | omega | contradiction)
                  have hgr : ∀ κ : tk_K, κ.1 ∉ ([39, 42, 43, 44, 52, 45, 46, 53, 47, 54, 55, 56, 48, 49, 50, 51] : List Nat) → Γ_154 κ = Γ κ := tg_fr hgr eΓ_154 (by decide)
                  have hv_158 : ∀ i : Nat, i < 16 → (v_132 i).toInt = Γ_154 (39, 0, 0) i := fun i hi => by rw [eΓ_154, tg_r (by decide)]; exact hv_135 i hi
                  have hx_159 : (v_132 0).toInt = Γ_154 (39, 0, 0) 0 := hv_158 0 (by decide)
                  have hx_160 : (v_132 1).toInt = Γ_154 (39, 0, 0) 1 := hv_158 1 (by decide)
                  have hx_161 : (v_132 2).toInt = Γ_154 (39, 0, 0) 2 := hv_158 2 (by decide)
                  have hx_162 : (v_132 3).toInt = Γ_154 (39, 0, 0) 3 := hv_158 3 (by decide)
                  have hx_163 : (v_132 4).toInt = Γ_154 (39, 0, 0) 4 := hv_158 4 (by decide)
                  have hx_164 : (v_132 5).toInt = Γ_154 (39, 0, 0) 5 := hv_158 5 (by decide)
                  have hx_165 : (v_132 6).toInt = Γ_154 (39, 0, 0) 6 := hv_158 6 (by decide)
                  have hx_166 : (v_132 7).toInt = Γ_154 (39, 0, 0) 7 := hv_158 7 (by decide)
                  have hx_167 : (v_132 8).toInt = Γ_154 (39, 0, 0) 8 := hv_158 8 (by decide)
                  exact hjn327 f_155 Γ_154  H locs ls (show rg Γ Γ_154 t0 from hrg) (show rb Γ_154 t0 from hrb) (show Γ_154 (42, 3, 0) = Γ (42, 3, 0) from htx9) (show Γ_154 (39, 0, 0) 4 = t0 from (by omega)) (show Γ_154 (39, 0, 0) 0 = 0 from (by omega)) (show 0 ≤ Γ_154 (48, 22, 0) t0.toNat from (by omega)) (show 0 ≤ Γ_154 (49, 22, 0) t0.toNat from (by omega)) (show 0 ≤ Γ_154 (51, 22, 0) t0.toNat from (by omega)) hP hI hfr hgr hS (lv_sub hl [0, 1] rfl)
              refine lv_aload_n hx hb dX12_text_269 rfl (lv_at hl 0 rfl) ?_
              obtain ⟨r_169, v_170, q_171, hf_168, hr_172, hv_173⟩ := (show tp_o_M L K 0 0 (Γ_81 (39, 0, 0)) (f_80 o) from hI.at ho)
              have hx_174 : (v_170 0).toInt = Γ_81 (39, 0, 0) 0 := hv_173 0 (by decide)
              have hx_175 : (v_170 1).toInt = Γ_81 (39, 0, 0) 1 := hv_173 1 (by decide)
              have hx_176 : (v_170 2).toInt = Γ_81 (39, 0, 0) 2 := hv_173 2 (by decide)
              have hx_177 : (v_170 3).toInt = Γ_81 (39, 0, 0) 3 := hv_173 3 (by decide)
              have hx_178 : (v_170 4).toInt = Γ_81 (39, 0, 0) 4 := hv_173 4 (by decide)
              have hx_179 : (v_170 5).toInt = Γ_81 (39, 0, 0) 5 := hv_173 5 (by decide)
              have hx_180 : (v_170 6).toInt = Γ_81 (39, 0, 0) 6 := hv_173 6 (by decide)
              have hx_181 : (v_170 7).toInt = Γ_81 (39, 0, 0) 7 := hv_173 7 (by decide)
              have hx_182 : (v_170 8).toInt = Γ_81 (39, 0, 0) 8 := hv_173 8 (by decide)
              refine tp_get (cy := cy) (ci := 12) (v := .ref (r_169 13)) (C := RX12) (T := TX12) (N := 49) hx hb hta inlX12 hown hK hP ho.1 hf_168 rfl 14 (by decide) (hta _ wk_163) (fun _ h9 => h9) rfl dX12_text_270 ?_
              refine lv_aload_n hx hb dX12_text_273 rfl (lv_at hl 0 rfl) ?_
              refine tp_get (cy := cy) (ci := 12) (v := .int (v_170 4)) (C := RX12) (T := TX12) (N := 49) hx hb hta inlX12 hown hK hP ho.1 hf_168 rfl 20 (by decide) (hta _ wk_537) (fun _ h9 => h9) rfl dX12_text_274 ?_
              obtain ⟨g_184, hf_183, hg_185⟩ := (show tp_gi cy (22) (Γ_81 (49, 22, 0)) (f_80 (r_169 13)) from hI.at (show tp_r L K 49 22 0 (r_169 13) from hr_172 13 (by decide)))
              have hn_186 : vp_in (v_170 4) (22) := tl_in (by omega) (by omega)
              refine tp_iald (cy := cy) hx hb hK hP (show tp_r L K 49 22 0 (r_169 13) from hr_172 13 (by decide)).1 hf_183 hn_186 dX12_text_277 ?_
              refine lv_topi (fun z_187 ez_187 => ?_)
              have iz_187 : z_187.toInt = Γ_81 (49, 22, 0) (v_170 4).toInt.toNat := by rw [ez_187]; exact hg_185 _ (tp_pin hn_186)
              have jz_187 : z_187.toInt = Γ_81 (49, 22, 0) (Γ_81 (39, 0, 0) 4).toNat := by rw [← hx_178]; exact iz_187
              refine lv_if_ge (tgt := 305) hx hb dX12_text_278 (by decide) (fun c_188 => ?_) (fun c_188 => ?_)
              · have c_188 : (0 : Int) ≤ z_187.toInt := tl_le c_188
                exact hjn305 f_80 Γ_81  H locs ls (show rg Γ Γ_81 t0 from hrg) (show rb Γ_81 t0 from hrb) (show Γ_81 (42, 3, 0) = Γ (42, 3, 0) from htx9) (show Γ_81 (39, 0, 0) 4 = t0 from (by omega)) (show Γ_81 (39, 0, 0) 0 = 0 from (by omega)) (show 0 ≤ Γ_81 (48, 22, 0) t0.toNat from (by omega)) (show 0 ≤ Γ_81 (49, 22, 0) t0.toNat from (by omega)) hP hI hfr hgr hS (lv_sub hl [0, 1] rfl)
              · have c_188 : z_187.toInt < (0 : Int) := tl_nle c_188
                refine lv_aload_n hx hb dX12_text_281 rfl (lv_at hl 0 rfl) ?_
                refine tp_get (cy := cy) (ci := 12) (v := .ref (r_169 13)) (C := RX12) (T := TX12) (N := 49) hx hb hta inlX12 hown hK hP ho.1 hf_168 rfl 14 (by decide) (hta _ wk_163) (fun _ h9 => h9) rfl dX12_text_282 ?_
                refine lv_aload_n hx hb dX12_text_285 rfl (lv_at hl 0 rfl) ?_
                refine tp_get (cy := cy) (ci := 12) (v := .int (v_170 4)) (C := RX12) (T := TX12) (N := 49) hx hb hta inlX12 hown hK hP ho.1 hf_168 rfl 20 (by decide) (hta _ wk_537) (fun _ h9 => h9) rfl dX12_text_286 ?_
                refine lv_sipush (v := 140) hx hb dX12_text_289 (by decide) ?_
                have hn_189 : vp_in (v_170 4) (22) := tl_in (by omega) (by omega)
                have hj_190 : (v_170 4).toNatClampNeg = t0.toNat := by show (v_170 4).toInt.toNat = _; omega
                have hv_191 : (140 : Int32).toInt = (140 : Int) := by decide
                obtain ⟨Γ_192, eΓ_192⟩ : ∃ y : tk_G, y = tg Γ_81 (49, 22, 0) t0.toNat (140 : Int) := ⟨_, rfl⟩
                have hI9 : tp_I cy L K Γ_192 (va_up f_80 (r_169 13) (.inl (cy 0, 22, .inl (upd g_184 (v_170 4).toNatClampNeg 140)))) := by have q9 : tg Γ_81 (49, 22, 0) t0.toNat (140 : Int) = tg Γ_81 (49, 22, 0) (v_170 4).toNatClampNeg (140 : Int32).toInt := (by rw [hj_190, hv_191]); rw [eΓ_192, q9]; exact hI.setg hU rfl (show tp_r L K 49 22 0 (r_169 13) from hr_172 13 (by decide)) (show tp_gi cy (22) (tgu (Γ_81 (49, 22, 0)) _ _) _ from ⟨_, rfl, tp_gi_upd hg_185⟩)
                have hfr9 : ∀ b, (K b).1 ∉ ([39, 42, 43, 44, 52, 45, 46, 53, 47, 54, 55, 56, 48, 49, 50, 51] : List Nat) → va_up f_80 (r_169 13) (.inl (cy 0, 22, .inl (upd g_184 (v_170 4).toNatClampNeg 140))) b = f b := tp_fr hfr (show tp_r L K 49 22 0 (r_169 13) from hr_172 13 (by decide)) (by decide)
                refine tp_iast (cy := cy) hx hb hK hP hD hS (show tp_r L K 49 22 0 (r_169 13) from hr_172 13 (by decide)).1 hf_183 hn_189 dX12_text_292 (fun H locs hP hD hS => ?_)
                have hP : va_P D vwCl (va_pl L (va_up f_80 (r_169 13) (.inl (cy 0, 22, .inl (upd g_184 (v_170 4).toNatClampNeg 140))))) H := hP
                generalize hfe : va_up f_80 (r_169 13) (.inl (cy 0, 22, .inl (upd g_184 (v_170 4).toNatClampNeg 140))) = f_193 at hP hI9 hfr9
                have hD : va_D A (va_pl L f_193) := tp_D hL hAL
                have hf_194 := (show f_193 o = _ from by rw [← hfe, va_up_ne _ _ (tp_ne ho (show tp_r L K 49 22 0 (r_169 13) from hr_172 13 (by decide)) (by decide))]).trans hf_168
                have hf_195 : f_193 (r_169 13) = .inl (cy 0, 22, .inl (upd g_184 (v_170 4).toNatClampNeg 140)) := by rw [← hfe]; exact va_up_self _ _ _
                clear hfe
                have hI := hI9
                have hfr := hfr9
                clear hI9 hfr9
                have wxΓ_192_MLEN : Γ_192 (44, 22, 0) t0.toNat = Γ_81 (44, 22, 0) t0.toNat := by rw [eΓ_192, tg_r (by decide)]
                have wxΓ_192_MCLS : Γ_192 (46, 22, 0) t0.toNat = Γ_81 (46, 22, 0) t0.toNat := by rw [eΓ_192, tg_r (by decide)]
                have wxΓ_192_EATERS : Γ_192 (47, 6, 0) t0.toNat = Γ_81 (47, 6, 0) t0.toNat := by rw [eΓ_192, tg_r (by decide)]
                have wxΓ_192_MBENDS : Γ_192 (48, 22, 0) t0.toNat = Γ_81 (48, 22, 0) t0.toNat := by rw [eΓ_192, tg_r (by decide)]
                have wxΓ_192_GTO : Γ_192 (50, 22, 0) t0.toNat = Γ_81 (50, 22, 0) t0.toNat := by rw [eΓ_192, tg_r (by decide)]
                have wxΓ_192_MWIDE : Γ_192 (51, 22, 0) t0.toNat = Γ_81 (51, 22, 0) t0.toNat := by rw [eΓ_192, tg_r (by decide)]
                have wsΓ_192 : Γ_192 (49, 22, 0) t0.toNat = (140 : Int) := by rw [eΓ_192]; exact tg_s
                have hrg : rg Γ Γ_192 t0 := hrg.put (by omega) eΓ_192 (by decide) (by decide)
                have htx9 : Γ_192 (42, 3, 0) = Γ (42, 3, 0) := by rw [eΓ_192, tg_rf (by decide)]; exact htx9
                have hrb : rb Γ_192 t0 := hrb.put eΓ_192 (by decide) (fun _ => by first | omega | contradiction) (fun _ => by first | omega | contradiction) (fun _ => by first | omega | contradiction) (fun _ => by first | omega | contradiction)
                have hgr : ∀ κ : tk_K, κ.1 ∉ ([39, 42, 43, 44, 52, 45, 46, 53, 47, 54, 55, 56, 48, 49, 50, 51] : List Nat) → Γ_192 κ = Γ κ := tg_fr hgr eΓ_192 (by decide)
                have hv_196 : ∀ i : Nat, i < 16 → (v_170 i).toInt = Γ_192 (39, 0, 0) i := fun i hi => by rw [eΓ_192, tg_r (by decide)]; exact hv_173 i hi
                have hx_197 : (v_170 0).toInt = Γ_192 (39, 0, 0) 0 := hv_196 0 (by decide)
                have hx_198 : (v_170 1).toInt = Γ_192 (39, 0, 0) 1 := hv_196 1 (by decide)
                have hx_199 : (v_170 2).toInt = Γ_192 (39, 0, 0) 2 := hv_196 2 (by decide)
                have hx_200 : (v_170 3).toInt = Γ_192 (39, 0, 0) 3 := hv_196 3 (by decide)
                have hx_201 : (v_170 4).toInt = Γ_192 (39, 0, 0) 4 := hv_196 4 (by decide)
                have hx_202 : (v_170 5).toInt = Γ_192 (39, 0, 0) 5 := hv_196 5 (by decide)
                have hx_203 : (v_170 6).toInt = Γ_192 (39, 0, 0) 6 := hv_196 6 (by decide)
                have hx_204 : (v_170 7).toInt = Γ_192 (39, 0, 0) 7 := hv_196 7 (by decide)
                have hx_205 : (v_170 8).toInt = Γ_192 (39, 0, 0) 8 := hv_196 8 (by decide)
                refine lv_aload_n hx hb dX12_text_293 rfl (lv_at hl 0 rfl) ?_
                refine tp_get (cy := cy) (ci := 12) (v := .ref (r_169 14)) (C := RX12) (T := TX12) (N := 49) hx hb hta inlX12 hown hK hP ho.1 hf_194 rfl 15 (by decide) (hta _ wk_164) (fun _ h9 => h9) rfl dX12_text_294 ?_
                refine lv_aload_n hx hb dX12_text_297 rfl (lv_at hl 0 rfl) ?_
                refine tp_get (cy := cy) (ci := 12) (v := .int (v_170 4)) (C := RX12) (T := TX12) (N := 49) hx hb hta inlX12 hown hK hP ho.1 hf_194 rfl 20 (by decide) (hta _ wk_537) (fun _ h9 => h9) rfl dX12_text_298 ?_
                refine lv_sipush (v := 159) hx hb dX12_text_301 (by decide) ?_
                obtain ⟨g_207, hf_206, hg_208⟩ := (show tp_gi cy (22) (Γ_192 (50, 22, 0)) (f_193 (r_169 14)) from hI.at (show tp_r L K 50 22 0 (r_169 14) from hr_172 14 (by decide)))
                have hn_209 : vp_in (v_170 4) (22) := tl_in (by omega) (by omega)
                have hj_210 : (v_170 4).toNatClampNeg = t0.toNat := by show (v_170 4).toInt.toNat = _; omega
                have hv_211 : (159 : Int32).toInt = (159 : Int) := by decide
                obtain ⟨Γ_212, eΓ_212⟩ : ∃ y : tk_G, y = tg Γ_192 (50, 22, 0) t0.toNat (159 : Int) := ⟨_, rfl⟩
                have hI9 : tp_I cy L K Γ_212 (va_up f_193 (r_169 14) (.inl (cy 0, 22, .inl (upd g_207 (v_170 4).toNatClampNeg 159)))) := by have q9 : tg Γ_192 (50, 22, 0) t0.toNat (159 : Int) = tg Γ_192 (50, 22, 0) (v_170 4).toNatClampNeg (159 : Int32).toInt := (by rw [hj_210, hv_211]); rw [eΓ_212, q9]; exact hI.setg hU rfl (show tp_r L K 50 22 0 (r_169 14) from hr_172 14 (by decide)) (show tp_gi cy (22) (tgu (Γ_192 (50, 22, 0)) _ _) _ from ⟨_, rfl, tp_gi_upd hg_208⟩)
                have hfr9 : ∀ b, (K b).1 ∉ ([39, 42, 43, 44, 52, 45, 46, 53, 47, 54, 55, 56, 48, 49, 50, 51] : List Nat) → va_up f_193 (r_169 14) (.inl (cy 0, 22, .inl (upd g_207 (v_170 4).toNatClampNeg 159))) b = f b := tp_fr hfr (show tp_r L K 50 22 0 (r_169 14) from hr_172 14 (by decide)) (by decide)
                refine tp_iast (cy := cy) hx hb hK hP hD hS (show tp_r L K 50 22 0 (r_169 14) from hr_172 14 (by decide)).1 hf_206 hn_209 dX12_text_304 (fun H locs hP hD hS => ?_)
                have hP : va_P D vwCl (va_pl L (va_up f_193 (r_169 14) (.inl (cy 0, 22, .inl (upd g_207 (v_170 4).toNatClampNeg 159))))) H := hP
                generalize hfe : va_up f_193 (r_169 14) (.inl (cy 0, 22, .inl (upd g_207 (v_170 4).toNatClampNeg 159))) = f_213 at hP hI9 hfr9
                have hD : va_D A (va_pl L f_213) := tp_D hL hAL
                have hf_214 := (show f_213 o = _ from by rw [← hfe, va_up_ne _ _ (tp_ne ho (show tp_r L K 50 22 0 (r_169 14) from hr_172 14 (by decide)) (by decide))]).trans hf_194
                have hf_215 : f_213 (r_169 14) = .inl (cy 0, 22, .inl (upd g_207 (v_170 4).toNatClampNeg 159)) := by rw [← hfe]; exact va_up_self _ _ _
                clear hfe
                have hI := hI9
                have hfr := hfr9
                clear hI9 hfr9
                have wxΓ_212_MLEN : Γ_212 (44, 22, 0) t0.toNat = Γ_192 (44, 22, 0) t0.toNat := by rw [eΓ_212, tg_r (by decide)]
                have wxΓ_212_MCLS : Γ_212 (46, 22, 0) t0.toNat = Γ_192 (46, 22, 0) t0.toNat := by rw [eΓ_212, tg_r (by decide)]
                have wxΓ_212_EATERS : Γ_212 (47, 6, 0) t0.toNat = Γ_192 (47, 6, 0) t0.toNat := by rw [eΓ_212, tg_r (by decide)]
                have wxΓ_212_MBENDS : Γ_212 (48, 22, 0) t0.toNat = Γ_192 (48, 22, 0) t0.toNat := by rw [eΓ_212, tg_r (by decide)]
                have wxΓ_212_GFROM : Γ_212 (49, 22, 0) t0.toNat = Γ_192 (49, 22, 0) t0.toNat := by rw [eΓ_212, tg_r (by decide)]
                have wxΓ_212_MWIDE : Γ_212 (51, 22, 0) t0.toNat = Γ_192 (51, 22, 0) t0.toNat := by rw [eΓ_212, tg_r (by decide)]
                have wsΓ_212 : Γ_212 (50, 22, 0) t0.toNat = (159 : Int) := by rw [eΓ_212]; exact tg_s
                have hrg : rg Γ Γ_212 t0 := hrg.put (by omega) eΓ_212 (by decide) (by decide)
                have htx9 : Γ_212 (42, 3, 0) = Γ (42, 3, 0) := by rw [eΓ_212, tg_rf (by decide)]; exact htx9
                have hrb : rb Γ_212 t0 := hrb.put eΓ_212 (by decide) (fun _ => by first | omega | contradiction) (fun _ => by first | omega | contradiction) (fun _ => by first | omega | contradiction) (fun _ => by first | omega | contradiction)
                have hgr : ∀ κ : tk_K, κ.1 ∉ ([39, 42, 43, 44, 52, 45, 46, 53, 47, 54, 55, 56, 48, 49, 50, 51] : List Nat) → Γ_212 κ = Γ κ := tg_fr hgr eΓ_212 (by decide)
                have hv_216 : ∀ i : Nat, i < 16 → (v_170 i).toInt = Γ_212 (39, 0, 0) i := fun i hi => by rw [eΓ_212, tg_r (by decide)]; exact hv_196 i hi
                have hx_217 : (v_170 0).toInt = Γ_212 (39, 0, 0) 0 := hv_216 0 (by decide)
                have hx_218 : (v_170 1).toInt = Γ_212 (39, 0, 0) 1 := hv_216 1 (by decide)
                have hx_219 : (v_170 2).toInt = Γ_212 (39, 0, 0) 2 := hv_216 2 (by decide)
                have hx_220 : (v_170 3).toInt = Γ_212 (39, 0, 0) 3 := hv_216 3 (by decide)
                have hx_221 : (v_170 4).toInt = Γ_212 (39, 0, 0) 4 := hv_216 4 (by decide)
                have hx_222 : (v_170 5).toInt = Γ_212 (39, 0, 0) 5 := hv_216 5 (by decide)
                have hx_223 : (v_170 6).toInt = Γ_212 (39, 0, 0) 6 := hv_216 6 (by decide)
                have hx_224 : (v_170 7).toInt = Γ_212 (39, 0, 0) 7 := hv_216 7 (by decide)
                have hx_225 : (v_170 8).toInt = Γ_212 (39, 0, 0) 8 := hv_216 8 (by decide)
                exact hjn305 f_213 Γ_212  H locs ls (show rg Γ Γ_212 t0 from hrg) (show rb Γ_212 t0 from hrb) (show Γ_212 (42, 3, 0) = Γ (42, 3, 0) from htx9) (show Γ_212 (39, 0, 0) 4 = t0 from (by omega)) (show Γ_212 (39, 0, 0) 0 = 0 from (by omega)) (show 0 ≤ Γ_212 (48, 22, 0) t0.toNat from (by omega)) (show 0 ≤ Γ_212 (49, 22, 0) t0.toNat from (by omega)) hP hI hfr hgr hS (lv_sub hl [0, 1] rfl)
            refine lv_aload_n hx hb dX12_text_246 rfl (lv_at hl 0 rfl) ?_
            obtain ⟨r_227, v_228, q_229, hf_226, hr_230, hv_231⟩ := (show tp_o_M L K 0 0 (Γ_79 (39, 0, 0)) (f_78 o) from hI.at ho)
            have hx_232 : (v_228 0).toInt = Γ_79 (39, 0, 0) 0 := hv_231 0 (by decide)
            have hx_233 : (v_228 1).toInt = Γ_79 (39, 0, 0) 1 := hv_231 1 (by decide)
            have hx_234 : (v_228 2).toInt = Γ_79 (39, 0, 0) 2 := hv_231 2 (by decide)
            have hx_235 : (v_228 3).toInt = Γ_79 (39, 0, 0) 3 := hv_231 3 (by decide)
            have hx_236 : (v_228 4).toInt = Γ_79 (39, 0, 0) 4 := hv_231 4 (by decide)
            have hx_237 : (v_228 5).toInt = Γ_79 (39, 0, 0) 5 := hv_231 5 (by decide)
            have hx_238 : (v_228 6).toInt = Γ_79 (39, 0, 0) 6 := hv_231 6 (by decide)
            have hx_239 : (v_228 7).toInt = Γ_79 (39, 0, 0) 7 := hv_231 7 (by decide)
            have hx_240 : (v_228 8).toInt = Γ_79 (39, 0, 0) 8 := hv_231 8 (by decide)
            refine tp_get (cy := cy) (ci := 12) (v := .ref (r_227 12)) (C := RX12) (T := TX12) (N := 49) hx hb hta inlX12 hown hK hP ho.1 hf_226 rfl 13 (by decide) (hta _ wk_162) (fun _ h9 => h9) rfl dX12_text_247 ?_
            refine lv_aload_n hx hb dX12_text_250 rfl (lv_at hl 0 rfl) ?_
            refine tp_get (cy := cy) (ci := 12) (v := .int (v_228 4)) (C := RX12) (T := TX12) (N := 49) hx hb hta inlX12 hown hK hP ho.1 hf_226 rfl 20 (by decide) (hta _ wk_537) (fun _ h9 => h9) rfl dX12_text_251 ?_
            obtain ⟨g_242, hf_241, hg_243⟩ := (show tp_gi cy (22) (Γ_79 (48, 22, 0)) (f_78 (r_227 12)) from hI.at (show tp_r L K 48 22 0 (r_227 12) from hr_230 12 (by decide)))
            have hn_244 : vp_in (v_228 4) (22) := tl_in (by omega) (by omega)
            refine tp_iald (cy := cy) hx hb hK hP (show tp_r L K 48 22 0 (r_227 12) from hr_230 12 (by decide)).1 hf_241 hn_244 dX12_text_254 ?_
            refine lv_topi (fun z_245 ez_245 => ?_)
            have iz_245 : z_245.toInt = Γ_79 (48, 22, 0) (v_228 4).toInt.toNat := by rw [ez_245]; exact hg_243 _ (tp_pin hn_244)
            have jz_245 : z_245.toInt = Γ_79 (48, 22, 0) (Γ_79 (39, 0, 0) 4).toNat := by rw [← hx_236]; exact iz_245
            refine lv_if_ge (tgt := 269) hx hb dX12_text_255 (by decide) (fun c_246 => ?_) (fun c_246 => ?_)
            · have c_246 : (0 : Int) ≤ z_245.toInt := tl_le c_246
              exact hjn269 f_78 Γ_79  H locs ls (show rg Γ Γ_79 t0 from hrg) (show rb Γ_79 t0 from hrb) (show Γ_79 (42, 3, 0) = Γ (42, 3, 0) from htx9) (show Γ_79 (39, 0, 0) 4 = t0 from (by omega)) (show Γ_79 (39, 0, 0) 0 = 0 from (by omega)) (show 0 ≤ Γ_79 (48, 22, 0) t0.toNat from (by omega)) hP hI hfr hgr hS (lv_sub hl [0, 1] rfl)
            · have c_246 : z_245.toInt < (0 : Int) := tl_nle c_246
              refine lv_aload_n hx hb dX12_text_258 rfl (lv_at hl 0 rfl) ?_
              refine tp_get (cy := cy) (ci := 12) (v := .ref (r_227 12)) (C := RX12) (T := TX12) (N := 49) hx hb hta inlX12 hown hK hP ho.1 hf_226 rfl 13 (by decide) (hta _ wk_162) (fun _ h9 => h9) rfl dX12_text_259 ?_
              refine lv_aload_n hx hb dX12_text_262 rfl (lv_at hl 0 rfl) ?_
              refine tp_get (cy := cy) (ci := 12) (v := .int (v_228 4)) (C := RX12) (T := TX12) (N := 49) hx hb hta inlX12 hown hK hP ho.1 hf_226 rfl 20 (by decide) (hta _ wk_537) (fun _ h9 => h9) rfl dX12_text_263 ?_
              refine lv_bipush (v := 12) hx hb dX12_text_266 (by decide) ?_
              have hn_247 : vp_in (v_228 4) (22) := tl_in (by omega) (by omega)
              have hj_248 : (v_228 4).toNatClampNeg = t0.toNat := by show (v_228 4).toInt.toNat = _; omega
              have hv_249 : (12 : Int32).toInt = (12 : Int) := by decide
              obtain ⟨Γ_250, eΓ_250⟩ : ∃ y : tk_G, y = tg Γ_79 (48, 22, 0) t0.toNat (12 : Int) := ⟨_, rfl⟩
              have hI9 : tp_I cy L K Γ_250 (va_up f_78 (r_227 12) (.inl (cy 0, 22, .inl (upd g_242 (v_228 4).toNatClampNeg 12)))) := by have q9 : tg Γ_79 (48, 22, 0) t0.toNat (12 : Int) = tg Γ_79 (48, 22, 0) (v_228 4).toNatClampNeg (12 : Int32).toInt := (by rw [hj_248, hv_249]); rw [eΓ_250, q9]; exact hI.setg hU rfl (show tp_r L K 48 22 0 (r_227 12) from hr_230 12 (by decide)) (show tp_gi cy (22) (tgu (Γ_79 (48, 22, 0)) _ _) _ from ⟨_, rfl, tp_gi_upd hg_243⟩)
              have hfr9 : ∀ b, (K b).1 ∉ ([39, 42, 43, 44, 52, 45, 46, 53, 47, 54, 55, 56, 48, 49, 50, 51] : List Nat) → va_up f_78 (r_227 12) (.inl (cy 0, 22, .inl (upd g_242 (v_228 4).toNatClampNeg 12))) b = f b := tp_fr hfr (show tp_r L K 48 22 0 (r_227 12) from hr_230 12 (by decide)) (by decide)
              refine tp_iast (cy := cy) hx hb hK hP hD hS (show tp_r L K 48 22 0 (r_227 12) from hr_230 12 (by decide)).1 hf_241 hn_247 dX12_text_268 (fun H locs hP hD hS => ?_)
              have hP : va_P D vwCl (va_pl L (va_up f_78 (r_227 12) (.inl (cy 0, 22, .inl (upd g_242 (v_228 4).toNatClampNeg 12))))) H := hP
              generalize hfe : va_up f_78 (r_227 12) (.inl (cy 0, 22, .inl (upd g_242 (v_228 4).toNatClampNeg 12))) = f_251 at hP hI9 hfr9
              have hD : va_D A (va_pl L f_251) := tp_D hL hAL
              have hf_252 := (show f_251 o = _ from by rw [← hfe, va_up_ne _ _ (tp_ne ho (show tp_r L K 48 22 0 (r_227 12) from hr_230 12 (by decide)) (by decide))]).trans hf_226
              have hf_253 : f_251 (r_227 12) = .inl (cy 0, 22, .inl (upd g_242 (v_228 4).toNatClampNeg 12)) := by rw [← hfe]; exact va_up_self _ _ _
              clear hfe
              have hI := hI9
              have hfr := hfr9
              clear hI9 hfr9
              have wxΓ_250_MLEN : Γ_250 (44, 22, 0) t0.toNat = Γ_79 (44, 22, 0) t0.toNat := by rw [eΓ_250, tg_r (by decide)]
              have wxΓ_250_MCLS : Γ_250 (46, 22, 0) t0.toNat = Γ_79 (46, 22, 0) t0.toNat := by rw [eΓ_250, tg_r (by decide)]
              have wxΓ_250_EATERS : Γ_250 (47, 6, 0) t0.toNat = Γ_79 (47, 6, 0) t0.toNat := by rw [eΓ_250, tg_r (by decide)]
              have wxΓ_250_GFROM : Γ_250 (49, 22, 0) t0.toNat = Γ_79 (49, 22, 0) t0.toNat := by rw [eΓ_250, tg_r (by decide)]
              have wxΓ_250_GTO : Γ_250 (50, 22, 0) t0.toNat = Γ_79 (50, 22, 0) t0.toNat := by rw [eΓ_250, tg_r (by decide)]
              have wxΓ_250_MWIDE : Γ_250 (51, 22, 0) t0.toNat = Γ_79 (51, 22, 0) t0.toNat := by rw [eΓ_250, tg_r (by decide)]
              have wsΓ_250 : Γ_250 (48, 22, 0) t0.toNat = (12 : Int) := by rw [eΓ_250]; exact tg_s
              have hrg : rg Γ Γ_250 t0 := hrg.put (by omega) eΓ_250 (by decide) (by decide)
              have htx9 : Γ_250 (42, 3, 0) = Γ (42, 3, 0) := by rw [eΓ_250, tg_rf (by decide)]; exact htx9
              have hrb : rb Γ_250 t0 := hrb.put eΓ_250 (by decide) (fun _ => by first | omega | contradiction) (fun _ => by first | omega | contradiction) (fun _ => by first | omega | contradiction) (fun _ => by first | omega | contradiction)
              have hgr : ∀ κ : tk_K, κ.1 ∉ ([39, 42, 43, 44, 52, 45, 46, 53, 47, 54, 55, 56, 48, 49, 50, 51] : List Nat) → Γ_250 κ = Γ κ := tg_fr hgr eΓ_250 (by decide)
              have hv_254 : ∀ i : Nat, i < 16 → (v_228 i).toInt = Γ_250 (39, 0, 0) i := fun i hi => by rw [eΓ_250, tg_r (by decide)]; exact hv_231 i hi
              have hx_255 : (v_228 0).toInt = Γ_250 (39, 0, 0) 0 := hv_254 0 (by decide)
              have hx_256 : (v_228 1).toInt = Γ_250 (39, 0, 0) 1 := hv_254 1 (by decide)
              have hx_257 : (v_228 2).toInt = Γ_250 (39, 0, 0) 2 := hv_254 2 (by decide)
              have hx_258 : (v_228 3).toInt = Γ_250 (39, 0, 0) 3 := hv_254 3 (by decide)
              have hx_259 : (v_228 4).toInt = Γ_250 (39, 0, 0) 4 := hv_254 4 (by decide)
              have hx_260 : (v_228 5).toInt = Γ_250 (39, 0, 0) 5 := hv_254 5 (by decide)
              have hx_261 : (v_228 6).toInt = Γ_250 (39, 0, 0) 6 := hv_254 6 (by decide)
              have hx_262 : (v_228 7).toInt = Γ_250 (39, 0, 0) 7 := hv_254 7 (by decide)
              have hx_263 : (v_228 8).toInt = Γ_250 (39, 0, 0) 8 := hv_254 8 (by decide)
              exact hjn269 f_251 Γ_250  H locs ls (show rg Γ Γ_250 t0 from hrg) (show rb Γ_250 t0 from hrb) (show Γ_250 (42, 3, 0) = Γ (42, 3, 0) from htx9) (show Γ_250 (39, 0, 0) 4 = t0 from (by omega)) (show Γ_250 (39, 0, 0) 0 = 0 from (by omega)) (show 0 ≤ Γ_250 (48, 22, 0) t0.toNat from (by omega)) hP hI hfr hgr hS (lv_sub hl [0, 1] rfl)
          refine lv_aload_n hx hb dX12_text_224 rfl (lv_at hl 0 rfl) ?_
          refine tp_get (cy := cy) (ci := 12) (v := .ref (r_50 11)) (C := RX12) (T := TX12) (N := 49) hx hb hta inlX12 hown hK hP ho.1 hf_67 rfl 12 (by decide) (hta _ wk_161) (fun _ h9 => h9) rfl dX12_text_225 ?_
          refine lv_aload_n hx hb dX12_text_228 rfl (lv_at hl 0 rfl) ?_
          refine tp_get (cy := cy) (ci := 12) (v := .int (v_51 4)) (C := RX12) (T := TX12) (N := 49) hx hb hta inlX12 hown hK hP ho.1 hf_67 rfl 20 (by decide) (hta _ wk_537) (fun _ h9 => h9) rfl dX12_text_229 ?_
          obtain ⟨g_265, hf_264, hg_266⟩ := (show tp_ai cy 56 (22) (f_66 (r_50 11)) from hI.at (show tp_r L K 56 22 0 (r_50 11) from hr_53 11 (by decide)))
          have hn_267 : vp_in (v_51 4) (22) := tl_in (by omega) (by omega)
          refine tp_iald (cy := cy) hx hb hK hP (show tp_r L K 56 22 0 (r_50 11) from hr_53 11 (by decide)).1 hf_264 hn_267 dX12_text_232 ?_
          refine lv_topi (fun z_268 ez_268 => ?_)
          refine lv_if_ge (tgt := 246) hx hb dX12_text_233 (by decide) (fun c_269 => ?_) (fun c_269 => ?_)
          · have c_269 : (0 : Int) ≤ z_268.toInt := tl_le c_269
            exact hjn246 f_66 Γ_64  H locs ls (show rg Γ Γ_64 t0 from hrg) (show rb Γ_64 t0 from hrb) (show Γ_64 (42, 3, 0) = Γ (42, 3, 0) from htx9) (show Γ_64 (39, 0, 0) 4 = t0 from (by omega)) (show Γ_64 (39, 0, 0) 0 = 0 from (by omega)) hP hI hfr hgr hS (lv_sub hl [0, 1] rfl)
          · have c_269 : z_268.toInt < (0 : Int) := tl_nle c_269
            refine lv_aload_n hx hb dX12_text_236 rfl (lv_at hl 0 rfl) ?_
            refine tp_get (cy := cy) (ci := 12) (v := .ref (r_50 11)) (C := RX12) (T := TX12) (N := 49) hx hb hta inlX12 hown hK hP ho.1 hf_67 rfl 12 (by decide) (hta _ wk_161) (fun _ h9 => h9) rfl dX12_text_237 ?_
            refine lv_aload_n hx hb dX12_text_240 rfl (lv_at hl 0 rfl) ?_
            refine tp_get (cy := cy) (ci := 12) (v := .int (v_51 4)) (C := RX12) (T := TX12) (N := 49) hx hb hta inlX12 hown hK hP ho.1 hf_67 rfl 20 (by decide) (hta _ wk_537) (fun _ h9 => h9) rfl dX12_text_241 ?_
            refine lv_iconst (v := 0) hx hb dX12_text_244 (by decide) ?_
            have hn_270 : vp_in (v_51 4) (22) := tl_in (by omega) (by omega)
            have hI9 : tp_I cy L K Γ_64 (va_up f_66 (r_50 11) (.inl (cy 0, 22, .inl (upd g_265 (v_51 4).toNatClampNeg 0)))) := hI.set (show tp_r L K 56 22 0 (r_50 11) from hr_53 11 (by decide)) (show tp_ai cy 56 (22) _ from ⟨_, rfl, tp_pi_upd hg_266 trivial⟩)
            have hfr9 : ∀ b, (K b).1 ∉ ([39, 42, 43, 44, 52, 45, 46, 53, 47, 54, 55, 56, 48, 49, 50, 51] : List Nat) → va_up f_66 (r_50 11) (.inl (cy 0, 22, .inl (upd g_265 (v_51 4).toNatClampNeg 0))) b = f b := tp_fr hfr (show tp_r L K 56 22 0 (r_50 11) from hr_53 11 (by decide)) (by decide)
            refine tp_iast (cy := cy) hx hb hK hP hD hS (show tp_r L K 56 22 0 (r_50 11) from hr_53 11 (by decide)).1 hf_264 hn_270 dX12_text_245 (fun H locs hP hD hS => ?_)
            have hP : va_P D vwCl (va_pl L (va_up f_66 (r_50 11) (.inl (cy 0, 22, .inl (upd g_265 (v_51 4).toNatClampNeg 0))))) H := hP
            generalize hfe : va_up f_66 (r_50 11) (.inl (cy 0, 22, .inl (upd g_265 (v_51 4).toNatClampNeg 0))) = f_271 at hP hI9 hfr9
            have hD : va_D A (va_pl L f_271) := tp_D hL hAL
            have hf_272 := (show f_271 o = _ from by rw [← hfe, va_up_ne _ _ (tp_ne ho (show tp_r L K 56 22 0 (r_50 11) from hr_53 11 (by decide)) (by decide))]).trans hf_67
            have hf_273 : f_271 (r_50 11) = .inl (cy 0, 22, .inl (upd g_265 (v_51 4).toNatClampNeg 0)) := by rw [← hfe]; exact va_up_self _ _ _
            clear hfe
            have hI := hI9
            have hfr := hfr9
            clear hI9 hfr9
            exact hjn246 f_271 Γ_64  H locs ls (show rg Γ Γ_64 t0 from hrg) (show rb Γ_64 t0 from hrb) (show Γ_64 (42, 3, 0) = Γ (42, 3, 0) from htx9) (show Γ_64 (39, 0, 0) 4 = t0 from (by omega)) (show Γ_64 (39, 0, 0) 0 = 0 from (by omega)) hP hI hfr hgr hS (lv_sub hl [0, 1] rfl)
        · have c_77 : (0 : Int) < (v_51 2).toInt := tl_nle c_77
          refine lv_bipush (v := (-2)) hx hb dX12_text_216 (by decide) ?_
          refine lv_aload_n hx hb dX12_text_218 rfl (lv_at hl 0 rfl) ?_
          refine tp_get (cy := cy) (ci := 12) (v := .int (v_51 2)) (C := RX12) (T := TX12) (N := 49) hx hb hta inlX12 hown hK hP ho.1 hf_67 rfl 18 (by decide) (hta _ wk_540) (fun _ h9 => h9) rfl dX12_text_219 ?_
          refine lv_isub hx hb dX12_text_222 ?_
          refine lv_topi (fun z_274 ez_274 => ?_)
          try have iz_274 : z_274.toInt = (-2 : Int) - (v_51 2).toInt := by rw [ez_274]; exact tl_subN (-2) (v_51 2) rfl rfl (by omega) (by omega)
          have hpo9 : tx_ok (Γ_64 (43, 8800, 0)) (Γ_64 (45, 1056, 0)) (Γ_64 (46, 22, 0)) (Γ_64 (47, 6, 0)) (Γ_64 (48, 22, 0)) (Γ_64 (49, 22, 0)) (Γ_64 (50, 22, 0)) (Γ_64 (51, 22, 0)) (Γ_64 (42, 3, 0)) ∧ (0 ≤ Γ_64 (39, 0, 0) 0 ∧ Γ_64 (39, 0, 0) 0 ≤ 400) ∧ Γ (42, 3, 0) 1 ≤ Γ_64 (42, 3, 0) 1 := ⟨(by rw [htx9]; exact tx_keep htx hrg hrb hps), (by omega), (by rw [htx9]; omega)⟩
          exact W.iret (v := z_274) hx hb hr (fun t ht hW => ⟨⟨_, (f_66, Γ_64), rfl, hpo9, by rw [ht]; exact hP, hI, hfr, hgr⟩, hS.F ht⟩) hS.2.2 dX12_text_223
      have hjn76 : ∀ (f_275 : Nat → va_E) (Γ_276 : tk_G) (H : Heap) (locs : List Loc) (ls : Array Slot), (rg Γ Γ_276 t0) → (Γ_276 (42, 3, 0) = Γ (42, 3, 0)) → (Γ_276 (39, 0, 0) 4 = t0) → (Γ_276 (39, 0, 0) 0 = Γ (39, 0, 0) 0) → (Γ_276 (44, 22, 0) t0.toNat = 0) → (Γ_276 (46, 22, 0) t0.toNat = 0) → (t0 ≤ 5 → Γ_276 (47, 6, 0) t0.toNat = 0) → (0 ≤ Γ_276 (50, 22, 0) t0.toNat ∧ Γ_276 (50, 22, 0) t0.toNat ≤ 299) → va_P D vwCl (va_pl L f_275) H → tp_I cy L K Γ_276 f_275 → (∀ b, (K b).1 ∉ ([39, 42, 43, 44, 52, 45, 46, 53, 47, 54, 55, 56, 48, 49, 50, 51] : List Nat) → f_275 b = f b) → (∀ κ : tk_K, κ.1 ∉ ([39, 42, 43, 44, 52, 45, 46, 53, 47, 54, 55, 56, 48, 49, 50, 51] : List Nat) → Γ_276 κ = Γ κ) → va_S A s.heap H locs → lv_has ls 3 [(0, .ref o), (1, .int p0)] → W p l e ((headSpec (tl_w yX12_text cX12_text 3 (some .int)) ({ frames := 11, cells := 0, slots := 0, locals := 243 })).room) s m #[.ref o, .int p0] below meth c H locs 0 0 (MQ below (va_Qi (fun (r : Int32) (u : (Nat → va_E) × tk_G) => tx_ok (u.2 (43, 8800, 0)) (u.2 (45, 1056, 0)) (u.2 (46, 22, 0)) (u.2 (47, 6, 0)) (u.2 (48, 22, 0)) (u.2 (49, 22, 0)) (u.2 (50, 22, 0)) (u.2 (51, 22, 0)) (u.2 (42, 3, 0)) ∧ (0 ≤ u.2 (39, 0, 0) 0 ∧ u.2 (39, 0, 0) 0 ≤ 400) ∧ Γ (42, 3, 0) 1 ≤ u.2 (42, 3, 0) 1) (tp_BG D cy L K Γ f [39, 42, 43, 44, 52, 45, 46, 53, 47, 54, 55, 56, 48, 49, 50, 51]) A) #[.ref o, .int p0] s 0 0 A) (F0 m 76 ls []) := by
        intro f_275 Γ_276  H locs ls hrg htx9 q4 q0 s1 s2 s3 s4 hP hI hfr hgr hS hl
        have hD : va_D A (va_pl L f_275) := tp_D hL hAL
        refine lv_aload_n hx hb dX12_text_76 rfl (lv_at hl 0 rfl) ?_
        obtain ⟨r_278, v_279, q_280, hf_277, hr_281, hv_282⟩ := (show tp_o_M L K 0 0 (Γ_276 (39, 0, 0)) (f_275 o) from hI.at ho)
        have hx_283 : (v_279 0).toInt = Γ_276 (39, 0, 0) 0 := hv_282 0 (by decide)
        have hx_284 : (v_279 1).toInt = Γ_276 (39, 0, 0) 1 := hv_282 1 (by decide)
        have hx_285 : (v_279 2).toInt = Γ_276 (39, 0, 0) 2 := hv_282 2 (by decide)
        have hx_286 : (v_279 3).toInt = Γ_276 (39, 0, 0) 3 := hv_282 3 (by decide)
        have hx_287 : (v_279 4).toInt = Γ_276 (39, 0, 0) 4 := hv_282 4 (by decide)
        have hx_288 : (v_279 5).toInt = Γ_276 (39, 0, 0) 5 := hv_282 5 (by decide)
        have hx_289 : (v_279 6).toInt = Γ_276 (39, 0, 0) 6 := hv_282 6 (by decide)
        have hx_290 : (v_279 7).toInt = Γ_276 (39, 0, 0) 7 := hv_282 7 (by decide)
        have hx_291 : (v_279 8).toInt = Γ_276 (39, 0, 0) 8 := hv_282 8 (by decide)
        refine tp_get (cy := cy) (ci := 12) (v := .ref (r_278 9)) (C := RX12) (T := TX12) (N := 49) hx hb hta inlX12 hown hK hP ho.1 hf_277 rfl 10 (by decide) (hta _ wk_159) (fun _ h9 => h9) rfl dX12_text_77 ?_
        refine lv_aload_n hx hb dX12_text_80 rfl (lv_at hl 0 rfl) ?_
        refine tp_get (cy := cy) (ci := 12) (v := .int (v_279 4)) (C := RX12) (T := TX12) (N := 49) hx hb hta inlX12 hown hK hP ho.1 hf_277 rfl 20 (by decide) (hta _ wk_537) (fun _ h9 => h9) rfl dX12_text_81 ?_
        refine lv_iconst (v := (-1)) hx hb dX12_text_84 (by decide) ?_
        obtain ⟨g_293, hf_292, hg_294⟩ := (show tp_ai cy 54 (22) (f_275 (r_278 9)) from hI.at (show tp_r L K 54 22 0 (r_278 9) from hr_281 9 (by decide)))
        have hn_295 : vp_in (v_279 4) (22) := tl_in (by omega) (by omega)
        have hI9 : tp_I cy L K Γ_276 (va_up f_275 (r_278 9) (.inl (cy 0, 22, .inl (upd g_293 (v_279 4).toNatClampNeg (-1))))) := hI.set (show tp_r L K 54 22 0 (r_278 9) from hr_281 9 (by decide)) (show tp_ai cy 54 (22) _ from ⟨_, rfl, tp_pi_upd hg_294 trivial⟩)
        have hfr9 : ∀ b, (K b).1 ∉ ([39, 42, 43, 44, 52, 45, 46, 53, 47, 54, 55, 56, 48, 49, 50, 51] : List Nat) → va_up f_275 (r_278 9) (.inl (cy 0, 22, .inl (upd g_293 (v_279 4).toNatClampNeg (-1)))) b = f b := tp_fr hfr (show tp_r L K 54 22 0 (r_278 9) from hr_281 9 (by decide)) (by decide)
        refine tp_iast (cy := cy) hx hb hK hP hD hS (show tp_r L K 54 22 0 (r_278 9) from hr_281 9 (by decide)).1 hf_292 hn_295 dX12_text_85 (fun H locs hP hD hS => ?_)
        have hP : va_P D vwCl (va_pl L (va_up f_275 (r_278 9) (.inl (cy 0, 22, .inl (upd g_293 (v_279 4).toNatClampNeg (-1)))))) H := hP
        generalize hfe : va_up f_275 (r_278 9) (.inl (cy 0, 22, .inl (upd g_293 (v_279 4).toNatClampNeg (-1)))) = f_296 at hP hI9 hfr9
        have hD : va_D A (va_pl L f_296) := tp_D hL hAL
        have hf_297 := (show f_296 o = _ from by rw [← hfe, va_up_ne _ _ (tp_ne ho (show tp_r L K 54 22 0 (r_278 9) from hr_281 9 (by decide)) (by decide))]).trans hf_277
        have hf_298 : f_296 (r_278 9) = .inl (cy 0, 22, .inl (upd g_293 (v_279 4).toNatClampNeg (-1))) := by rw [← hfe]; exact va_up_self _ _ _
        clear hfe
        have hI := hI9
        have hfr := hfr9
        clear hI9 hfr9
        refine lv_aload_n hx hb dX12_text_86 rfl (lv_at hl 0 rfl) ?_
        refine tp_get (cy := cy) (ci := 12) (v := .ref (r_278 11)) (C := RX12) (T := TX12) (N := 49) hx hb hta inlX12 hown hK hP ho.1 hf_297 rfl 12 (by decide) (hta _ wk_161) (fun _ h9 => h9) rfl dX12_text_87 ?_
        refine lv_aload_n hx hb dX12_text_90 rfl (lv_at hl 0 rfl) ?_
        refine tp_get (cy := cy) (ci := 12) (v := .int (v_279 4)) (C := RX12) (T := TX12) (N := 49) hx hb hta inlX12 hown hK hP ho.1 hf_297 rfl 20 (by decide) (hta _ wk_537) (fun _ h9 => h9) rfl dX12_text_91 ?_
        refine lv_iconst (v := (-1)) hx hb dX12_text_94 (by decide) ?_
        obtain ⟨g_300, hf_299, hg_301⟩ := (show tp_ai cy 56 (22) (f_296 (r_278 11)) from hI.at (show tp_r L K 56 22 0 (r_278 11) from hr_281 11 (by decide)))
        have hn_302 : vp_in (v_279 4) (22) := tl_in (by omega) (by omega)
        have hI9 : tp_I cy L K Γ_276 (va_up f_296 (r_278 11) (.inl (cy 0, 22, .inl (upd g_300 (v_279 4).toNatClampNeg (-1))))) := hI.set (show tp_r L K 56 22 0 (r_278 11) from hr_281 11 (by decide)) (show tp_ai cy 56 (22) _ from ⟨_, rfl, tp_pi_upd hg_301 trivial⟩)
        have hfr9 : ∀ b, (K b).1 ∉ ([39, 42, 43, 44, 52, 45, 46, 53, 47, 54, 55, 56, 48, 49, 50, 51] : List Nat) → va_up f_296 (r_278 11) (.inl (cy 0, 22, .inl (upd g_300 (v_279 4).toNatClampNeg (-1)))) b = f b := tp_fr hfr (show tp_r L K 56 22 0 (r_278 11) from hr_281 11 (by decide)) (by decide)
        refine tp_iast (cy := cy) hx hb hK hP hD hS (show tp_r L K 56 22 0 (r_278 11) from hr_281 11 (by decide)).1 hf_299 hn_302 dX12_text_95 (fun H locs hP hD hS => ?_)
        have hP : va_P D vwCl (va_pl L (va_up f_296 (r_278 11) (.inl (cy 0, 22, .inl (upd g_300 (v_279 4).toNatClampNeg (-1)))))) H := hP
        generalize hfe : va_up f_296 (r_278 11) (.inl (cy 0, 22, .inl (upd g_300 (v_279 4).toNatClampNeg (-1)))) = f_303 at hP hI9 hfr9
        have hD : va_D A (va_pl L f_303) := tp_D hL hAL
        have hf_304 := (show f_303 o = _ from by rw [← hfe, va_up_ne _ _ (tp_ne ho (show tp_r L K 56 22 0 (r_278 11) from hr_281 11 (by decide)) (by decide))]).trans hf_297
        have hf_305 : f_303 (r_278 11) = .inl (cy 0, 22, .inl (upd g_300 (v_279 4).toNatClampNeg (-1))) := by rw [← hfe]; exact va_up_self _ _ _
        clear hfe
        have hI := hI9
        have hfr := hfr9
        clear hI9 hfr9
        refine lv_aload_n hx hb dX12_text_96 rfl (lv_at hl 0 rfl) ?_
        refine tp_get (cy := cy) (ci := 12) (v := .ref (r_278 12)) (C := RX12) (T := TX12) (N := 49) hx hb hta inlX12 hown hK hP ho.1 hf_304 rfl 13 (by decide) (hta _ wk_162) (fun _ h9 => h9) rfl dX12_text_97 ?_
        refine lv_aload_n hx hb dX12_text_100 rfl (lv_at hl 0 rfl) ?_
        refine tp_get (cy := cy) (ci := 12) (v := .int (v_279 4)) (C := RX12) (T := TX12) (N := 49) hx hb hta inlX12 hown hK hP ho.1 hf_304 rfl 20 (by decide) (hta _ wk_537) (fun _ h9 => h9) rfl dX12_text_101 ?_
        refine lv_iconst (v := (-1)) hx hb dX12_text_104 (by decide) ?_
        obtain ⟨g_307, hf_306, hg_308⟩ := (show tp_gi cy (22) (Γ_276 (48, 22, 0)) (f_303 (r_278 12)) from hI.at (show tp_r L K 48 22 0 (r_278 12) from hr_281 12 (by decide)))
        have hn_309 : vp_in (v_279 4) (22) := tl_in (by omega) (by omega)
        have hj_310 : (v_279 4).toNatClampNeg = t0.toNat := by show (v_279 4).toInt.toNat = _; omega
        have hv_311 : ((-1) : Int32).toInt = (-1 : Int) := by decide
        obtain ⟨Γ_312, eΓ_312⟩ : ∃ y : tk_G, y = tg Γ_276 (48, 22, 0) t0.toNat (-1 : Int) := ⟨_, rfl⟩
        have hI9 : tp_I cy L K Γ_312 (va_up f_303 (r_278 12) (.inl (cy 0, 22, .inl (upd g_307 (v_279 4).toNatClampNeg (-1))))) := by have q9 : tg Γ_276 (48, 22, 0) t0.toNat (-1 : Int) = tg Γ_276 (48, 22, 0) (v_279 4).toNatClampNeg ((-1) : Int32).toInt := (by rw [hj_310, hv_311]); rw [eΓ_312, q9]; exact hI.setg hU rfl (show tp_r L K 48 22 0 (r_278 12) from hr_281 12 (by decide)) (show tp_gi cy (22) (tgu (Γ_276 (48, 22, 0)) _ _) _ from ⟨_, rfl, tp_gi_upd hg_308⟩)
        have hfr9 : ∀ b, (K b).1 ∉ ([39, 42, 43, 44, 52, 45, 46, 53, 47, 54, 55, 56, 48, 49, 50, 51] : List Nat) → va_up f_303 (r_278 12) (.inl (cy 0, 22, .inl (upd g_307 (v_279 4).toNatClampNeg (-1)))) b = f b := tp_fr hfr (show tp_r L K 48 22 0 (r_278 12) from hr_281 12 (by decide)) (by decide)
        refine tp_iast (cy := cy) hx hb hK hP hD hS (show tp_r L K 48 22 0 (r_278 12) from hr_281 12 (by decide)).1 hf_306 hn_309 dX12_text_105 (fun H locs hP hD hS => ?_)
        have hP : va_P D vwCl (va_pl L (va_up f_303 (r_278 12) (.inl (cy 0, 22, .inl (upd g_307 (v_279 4).toNatClampNeg (-1)))))) H := hP
        generalize hfe : va_up f_303 (r_278 12) (.inl (cy 0, 22, .inl (upd g_307 (v_279 4).toNatClampNeg (-1)))) = f_313 at hP hI9 hfr9
        have hD : va_D A (va_pl L f_313) := tp_D hL hAL
        have hf_314 := (show f_313 o = _ from by rw [← hfe, va_up_ne _ _ (tp_ne ho (show tp_r L K 48 22 0 (r_278 12) from hr_281 12 (by decide)) (by decide))]).trans hf_304
        have hf_315 : f_313 (r_278 12) = .inl (cy 0, 22, .inl (upd g_307 (v_279 4).toNatClampNeg (-1))) := by rw [← hfe]; exact va_up_self _ _ _
        clear hfe
        have hI := hI9
        have hfr := hfr9
        clear hI9 hfr9
        have wxΓ_312_MLEN : Γ_312 (44, 22, 0) t0.toNat = Γ_276 (44, 22, 0) t0.toNat := by rw [eΓ_312, tg_r (by decide)]
        have wxΓ_312_MCLS : Γ_312 (46, 22, 0) t0.toNat = Γ_276 (46, 22, 0) t0.toNat := by rw [eΓ_312, tg_r (by decide)]
        have wxΓ_312_EATERS : Γ_312 (47, 6, 0) t0.toNat = Γ_276 (47, 6, 0) t0.toNat := by rw [eΓ_312, tg_r (by decide)]
        have wxΓ_312_GFROM : Γ_312 (49, 22, 0) t0.toNat = Γ_276 (49, 22, 0) t0.toNat := by rw [eΓ_312, tg_r (by decide)]
        have wxΓ_312_GTO : Γ_312 (50, 22, 0) t0.toNat = Γ_276 (50, 22, 0) t0.toNat := by rw [eΓ_312, tg_r (by decide)]
        have wxΓ_312_MWIDE : Γ_312 (51, 22, 0) t0.toNat = Γ_276 (51, 22, 0) t0.toNat := by rw [eΓ_312, tg_r (by decide)]
        have wsΓ_312 : Γ_312 (48, 22, 0) t0.toNat = (-1 : Int) := by rw [eΓ_312]; exact tg_s
        have hrg : rg Γ Γ_312 t0 := hrg.put (by omega) eΓ_312 (by decide) (by decide)
        have htx9 : Γ_312 (42, 3, 0) = Γ (42, 3, 0) := by rw [eΓ_312, tg_rf (by decide)]; exact htx9
        have hgr : ∀ κ : tk_K, κ.1 ∉ ([39, 42, 43, 44, 52, 45, 46, 53, 47, 54, 55, 56, 48, 49, 50, 51] : List Nat) → Γ_312 κ = Γ κ := tg_fr hgr eΓ_312 (by decide)
        have hv_316 : ∀ i : Nat, i < 16 → (v_279 i).toInt = Γ_312 (39, 0, 0) i := fun i hi => by rw [eΓ_312, tg_r (by decide)]; exact hv_282 i hi
        have hx_317 : (v_279 0).toInt = Γ_312 (39, 0, 0) 0 := hv_316 0 (by decide)
        have hx_318 : (v_279 1).toInt = Γ_312 (39, 0, 0) 1 := hv_316 1 (by decide)
        have hx_319 : (v_279 2).toInt = Γ_312 (39, 0, 0) 2 := hv_316 2 (by decide)
        have hx_320 : (v_279 3).toInt = Γ_312 (39, 0, 0) 3 := hv_316 3 (by decide)
        have hx_321 : (v_279 4).toInt = Γ_312 (39, 0, 0) 4 := hv_316 4 (by decide)
        have hx_322 : (v_279 5).toInt = Γ_312 (39, 0, 0) 5 := hv_316 5 (by decide)
        have hx_323 : (v_279 6).toInt = Γ_312 (39, 0, 0) 6 := hv_316 6 (by decide)
        have hx_324 : (v_279 7).toInt = Γ_312 (39, 0, 0) 7 := hv_316 7 (by decide)
        have hx_325 : (v_279 8).toInt = Γ_312 (39, 0, 0) 8 := hv_316 8 (by decide)
        refine lv_aload_n hx hb dX12_text_106 rfl (lv_at hl 0 rfl) ?_
        refine tp_get (cy := cy) (ci := 12) (v := .ref (r_278 13)) (C := RX12) (T := TX12) (N := 49) hx hb hta inlX12 hown hK hP ho.1 hf_314 rfl 14 (by decide) (hta _ wk_163) (fun _ h9 => h9) rfl dX12_text_107 ?_
        refine lv_aload_n hx hb dX12_text_110 rfl (lv_at hl 0 rfl) ?_
        refine tp_get (cy := cy) (ci := 12) (v := .int (v_279 4)) (C := RX12) (T := TX12) (N := 49) hx hb hta inlX12 hown hK hP ho.1 hf_314 rfl 20 (by decide) (hta _ wk_537) (fun _ h9 => h9) rfl dX12_text_111 ?_
        refine lv_iconst (v := (-1)) hx hb dX12_text_114 (by decide) ?_
        obtain ⟨g_327, hf_326, hg_328⟩ := (show tp_gi cy (22) (Γ_312 (49, 22, 0)) (f_313 (r_278 13)) from hI.at (show tp_r L K 49 22 0 (r_278 13) from hr_281 13 (by decide)))
        have hn_329 : vp_in (v_279 4) (22) := tl_in (by omega) (by omega)
        have hj_330 : (v_279 4).toNatClampNeg = t0.toNat := by show (v_279 4).toInt.toNat = _; omega
        have hv_331 : ((-1) : Int32).toInt = (-1 : Int) := by decide
        obtain ⟨Γ_332, eΓ_332⟩ : ∃ y : tk_G, y = tg Γ_312 (49, 22, 0) t0.toNat (-1 : Int) := ⟨_, rfl⟩
        have hI9 : tp_I cy L K Γ_332 (va_up f_313 (r_278 13) (.inl (cy 0, 22, .inl (upd g_327 (v_279 4).toNatClampNeg (-1))))) := by have q9 : tg Γ_312 (49, 22, 0) t0.toNat (-1 : Int) = tg Γ_312 (49, 22, 0) (v_279 4).toNatClampNeg ((-1) : Int32).toInt := (by rw [hj_330, hv_331]); rw [eΓ_332, q9]; exact hI.setg hU rfl (show tp_r L K 49 22 0 (r_278 13) from hr_281 13 (by decide)) (show tp_gi cy (22) (tgu (Γ_312 (49, 22, 0)) _ _) _ from ⟨_, rfl, tp_gi_upd hg_328⟩)
        have hfr9 : ∀ b, (K b).1 ∉ ([39, 42, 43, 44, 52, 45, 46, 53, 47, 54, 55, 56, 48, 49, 50, 51] : List Nat) → va_up f_313 (r_278 13) (.inl (cy 0, 22, .inl (upd g_327 (v_279 4).toNatClampNeg (-1)))) b = f b := tp_fr hfr (show tp_r L K 49 22 0 (r_278 13) from hr_281 13 (by decide)) (by decide)
        refine tp_iast (cy := cy) hx hb hK hP hD hS (show tp_r L K 49 22 0 (r_278 13) from hr_281 13 (by decide)).1 hf_326 hn_329 dX12_text_115 (fun H locs hP hD hS => ?_)
        have hP : va_P D vwCl (va_pl L (va_up f_313 (r_278 13) (.inl (cy 0, 22, .inl (upd g_327 (v_279 4).toNatClampNeg (-1)))))) H := hP
        generalize hfe : va_up f_313 (r_278 13) (.inl (cy 0, 22, .inl (upd g_327 (v_279 4).toNatClampNeg (-1)))) = f_333 at hP hI9 hfr9
        have hD : va_D A (va_pl L f_333) := tp_D hL hAL
        have hf_334 := (show f_333 o = _ from by rw [← hfe, va_up_ne _ _ (tp_ne ho (show tp_r L K 49 22 0 (r_278 13) from hr_281 13 (by decide)) (by decide))]).trans hf_314
        have hf_335 : f_333 (r_278 13) = .inl (cy 0, 22, .inl (upd g_327 (v_279 4).toNatClampNeg (-1))) := by rw [← hfe]; exact va_up_self _ _ _
        clear hfe
        have hI := hI9
        have hfr := hfr9
        clear hI9 hfr9
        have wxΓ_332_MLEN : Γ_332 (44, 22, 0) t0.toNat = Γ_312 (44, 22, 0) t0.toNat := by rw [eΓ_332, tg_r (by decide)]
        have wxΓ_332_MCLS : Γ_332 (46, 22, 0) t0.toNat = Γ_312 (46, 22, 0) t0.toNat := by rw [eΓ_332, tg_r (by decide)]
        have wxΓ_332_EATERS : Γ_332 (47, 6, 0) t0.toNat = Γ_312 (47, 6, 0) t0.toNat := by rw [eΓ_332, tg_r (by decide)]
        have wxΓ_332_MBENDS : Γ_332 (48, 22, 0) t0.toNat = Γ_312 (48, 22, 0) t0.toNat := by rw [eΓ_332, tg_r (by decide)]
        have wxΓ_332_GTO : Γ_332 (50, 22, 0) t0.toNat = Γ_312 (50, 22, 0) t0.toNat := by rw [eΓ_332, tg_r (by decide)]
        have wxΓ_332_MWIDE : Γ_332 (51, 22, 0) t0.toNat = Γ_312 (51, 22, 0) t0.toNat := by rw [eΓ_332, tg_r (by decide)]
        have wsΓ_332 : Γ_332 (49, 22, 0) t0.toNat = (-1 : Int) := by rw [eΓ_332]; exact tg_s
        have hrg : rg Γ Γ_332 t0 := hrg.put (by omega) eΓ_332 (by decide) (by decide)
        have htx9 : Γ_332 (42, 3, 0) = Γ (42, 3, 0) := by rw [eΓ_332, tg_rf (by decide)]; exact htx9
        have hgr : ∀ κ : tk_K, κ.1 ∉ ([39, 42, 43, 44, 52, 45, 46, 53, 47, 54, 55, 56, 48, 49, 50, 51] : List Nat) → Γ_332 κ = Γ κ := tg_fr hgr eΓ_332 (by decide)
        have hv_336 : ∀ i : Nat, i < 16 → (v_279 i).toInt = Γ_332 (39, 0, 0) i := fun i hi => by rw [eΓ_332, tg_r (by decide)]; exact hv_316 i hi
        have hx_337 : (v_279 0).toInt = Γ_332 (39, 0, 0) 0 := hv_336 0 (by decide)
        have hx_338 : (v_279 1).toInt = Γ_332 (39, 0, 0) 1 := hv_336 1 (by decide)
        have hx_339 : (v_279 2).toInt = Γ_332 (39, 0, 0) 2 := hv_336 2 (by decide)
        have hx_340 : (v_279 3).toInt = Γ_332 (39, 0, 0) 3 := hv_336 3 (by decide)
        have hx_341 : (v_279 4).toInt = Γ_332 (39, 0, 0) 4 := hv_336 4 (by decide)
        have hx_342 : (v_279 5).toInt = Γ_332 (39, 0, 0) 5 := hv_336 5 (by decide)
        have hx_343 : (v_279 6).toInt = Γ_332 (39, 0, 0) 6 := hv_336 6 (by decide)
        have hx_344 : (v_279 7).toInt = Γ_332 (39, 0, 0) 7 := hv_336 7 (by decide)
        have hx_345 : (v_279 8).toInt = Γ_332 (39, 0, 0) 8 := hv_336 8 (by decide)
        refine lv_aload_n hx hb dX12_text_116 rfl (lv_at hl 0 rfl) ?_
        refine tp_get (cy := cy) (ci := 12) (v := .ref (r_278 15)) (C := RX12) (T := TX12) (N := 49) hx hb hta inlX12 hown hK hP ho.1 hf_334 rfl 16 (by decide) (hta _ wk_165) (fun _ h9 => h9) rfl dX12_text_117 ?_
        refine lv_aload_n hx hb dX12_text_120 rfl (lv_at hl 0 rfl) ?_
        refine tp_get (cy := cy) (ci := 12) (v := .int (v_279 4)) (C := RX12) (T := TX12) (N := 49) hx hb hta inlX12 hown hK hP ho.1 hf_334 rfl 20 (by decide) (hta _ wk_537) (fun _ h9 => h9) rfl dX12_text_121 ?_
        refine lv_iconst (v := (-1)) hx hb dX12_text_124 (by decide) ?_
        obtain ⟨g_347, hf_346, hg_348⟩ := (show tp_gi cy (22) (Γ_332 (51, 22, 0)) (f_333 (r_278 15)) from hI.at (show tp_r L K 51 22 0 (r_278 15) from hr_281 15 (by decide)))
        have hn_349 : vp_in (v_279 4) (22) := tl_in (by omega) (by omega)
        have hj_350 : (v_279 4).toNatClampNeg = t0.toNat := by show (v_279 4).toInt.toNat = _; omega
        have hv_351 : ((-1) : Int32).toInt = (-1 : Int) := by decide
        obtain ⟨Γ_352, eΓ_352⟩ : ∃ y : tk_G, y = tg Γ_332 (51, 22, 0) t0.toNat (-1 : Int) := ⟨_, rfl⟩
        have hI9 : tp_I cy L K Γ_352 (va_up f_333 (r_278 15) (.inl (cy 0, 22, .inl (upd g_347 (v_279 4).toNatClampNeg (-1))))) := by have q9 : tg Γ_332 (51, 22, 0) t0.toNat (-1 : Int) = tg Γ_332 (51, 22, 0) (v_279 4).toNatClampNeg ((-1) : Int32).toInt := (by rw [hj_350, hv_351]); rw [eΓ_352, q9]; exact hI.setg hU rfl (show tp_r L K 51 22 0 (r_278 15) from hr_281 15 (by decide)) (show tp_gi cy (22) (tgu (Γ_332 (51, 22, 0)) _ _) _ from ⟨_, rfl, tp_gi_upd hg_348⟩)
        have hfr9 : ∀ b, (K b).1 ∉ ([39, 42, 43, 44, 52, 45, 46, 53, 47, 54, 55, 56, 48, 49, 50, 51] : List Nat) → va_up f_333 (r_278 15) (.inl (cy 0, 22, .inl (upd g_347 (v_279 4).toNatClampNeg (-1)))) b = f b := tp_fr hfr (show tp_r L K 51 22 0 (r_278 15) from hr_281 15 (by decide)) (by decide)
        refine tp_iast (cy := cy) hx hb hK hP hD hS (show tp_r L K 51 22 0 (r_278 15) from hr_281 15 (by decide)).1 hf_346 hn_349 dX12_text_125 (fun H locs hP hD hS => ?_)
        have hP : va_P D vwCl (va_pl L (va_up f_333 (r_278 15) (.inl (cy 0, 22, .inl (upd g_347 (v_279 4).toNatClampNeg (-1)))))) H := hP
        generalize hfe : va_up f_333 (r_278 15) (.inl (cy 0, 22, .inl (upd g_347 (v_279 4).toNatClampNeg (-1)))) = f_353 at hP hI9 hfr9
        have hD : va_D A (va_pl L f_353) := tp_D hL hAL
        have hf_354 := (show f_353 o = _ from by rw [← hfe, va_up_ne _ _ (tp_ne ho (show tp_r L K 51 22 0 (r_278 15) from hr_281 15 (by decide)) (by decide))]).trans hf_334
        have hf_355 : f_353 (r_278 15) = .inl (cy 0, 22, .inl (upd g_347 (v_279 4).toNatClampNeg (-1))) := by rw [← hfe]; exact va_up_self _ _ _
        clear hfe
        have hI := hI9
        have hfr := hfr9
        clear hI9 hfr9
        have wxΓ_352_MLEN : Γ_352 (44, 22, 0) t0.toNat = Γ_332 (44, 22, 0) t0.toNat := by rw [eΓ_352, tg_r (by decide)]
        have wxΓ_352_MCLS : Γ_352 (46, 22, 0) t0.toNat = Γ_332 (46, 22, 0) t0.toNat := by rw [eΓ_352, tg_r (by decide)]
        have wxΓ_352_EATERS : Γ_352 (47, 6, 0) t0.toNat = Γ_332 (47, 6, 0) t0.toNat := by rw [eΓ_352, tg_r (by decide)]
        have wxΓ_352_MBENDS : Γ_352 (48, 22, 0) t0.toNat = Γ_332 (48, 22, 0) t0.toNat := by rw [eΓ_352, tg_r (by decide)]
        have wxΓ_352_GFROM : Γ_352 (49, 22, 0) t0.toNat = Γ_332 (49, 22, 0) t0.toNat := by rw [eΓ_352, tg_r (by decide)]
        have wxΓ_352_GTO : Γ_352 (50, 22, 0) t0.toNat = Γ_332 (50, 22, 0) t0.toNat := by rw [eΓ_352, tg_r (by decide)]
        have wsΓ_352 : Γ_352 (51, 22, 0) t0.toNat = (-1 : Int) := by rw [eΓ_352]; exact tg_s
        have hrg : rg Γ Γ_352 t0 := hrg.put (by omega) eΓ_352 (by decide) (by decide)
        have htx9 : Γ_352 (42, 3, 0) = Γ (42, 3, 0) := by rw [eΓ_352, tg_rf (by decide)]; exact htx9
        have hgr : ∀ κ : tk_K, κ.1 ∉ ([39, 42, 43, 44, 52, 45, 46, 53, 47, 54, 55, 56, 48, 49, 50, 51] : List Nat) → Γ_352 κ = Γ κ := tg_fr hgr eΓ_352 (by decide)
        have hv_356 : ∀ i : Nat, i < 16 → (v_279 i).toInt = Γ_352 (39, 0, 0) i := fun i hi => by rw [eΓ_352, tg_r (by decide)]; exact hv_336 i hi
        have hx_357 : (v_279 0).toInt = Γ_352 (39, 0, 0) 0 := hv_356 0 (by decide)
        have hx_358 : (v_279 1).toInt = Γ_352 (39, 0, 0) 1 := hv_356 1 (by decide)
        have hx_359 : (v_279 2).toInt = Γ_352 (39, 0, 0) 2 := hv_356 2 (by decide)
        have hx_360 : (v_279 3).toInt = Γ_352 (39, 0, 0) 3 := hv_356 3 (by decide)
        have hx_361 : (v_279 4).toInt = Γ_352 (39, 0, 0) 4 := hv_356 4 (by decide)
        have hx_362 : (v_279 5).toInt = Γ_352 (39, 0, 0) 5 := hv_356 5 (by decide)
        have hx_363 : (v_279 6).toInt = Γ_352 (39, 0, 0) 6 := hv_356 6 (by decide)
        have hx_364 : (v_279 7).toInt = Γ_352 (39, 0, 0) 7 := hv_356 7 (by decide)
        have hx_365 : (v_279 8).toInt = Γ_352 (39, 0, 0) 8 := hv_356 8 (by decide)
        refine lv_aload_n hx hb dX12_text_126 rfl (lv_at hl 0 rfl) ?_
        refine lv_iconst (v := 0) hx hb dX12_text_127 (by decide) ?_
        obtain ⟨Γ_366, eΓ_366⟩ : ∃ y : tk_G, y = tg Γ_352 (39, 0, 0) 7 (0 : Int) := ⟨_, rfl⟩
        have hv_367 : ∀ i : Nat, i < 16 → ((upd v_279 7 (0 : Int32)) i).toInt = Γ_366 (39, 0, 0) i := by rw [eΓ_366, tg_f]; exact tp_gi_upd hv_356
        have hI9 : tp_I cy L K Γ_366 (va_up f_353 o (.inr (12, [.ref (r_278 0), .ref (r_278 1), .int (v_279 0), .ref (r_278 2), .ref (r_278 3), .ref (r_278 4), .ref (r_278 5), .ref (r_278 6), .ref (r_278 7), .ref (r_278 8), .ref (r_278 9), .ref (r_278 10), .ref (r_278 11), .ref (r_278 12), .ref (r_278 13), .ref (r_278 14), .ref (r_278 15), .int (v_279 1), .int (v_279 2), .int (v_279 3), .int (v_279 4), .int (v_279 5), .int (v_279 6), .int 0, .ref (r_278 16), .int (v_279 8), .ref (r_278 17), .int (v_279 9), .ref (r_278 18), .long q_280, .ref (r_278 19), .ref (r_278 20), .int (v_279 10), .int (v_279 11), .int (v_279 12), .ref (r_278 21), .ref (r_278 22), .int (v_279 13), .ref (r_278 23), .int (v_279 14), .int (v_279 15), .ref (r_278 24), .ref (r_278 25), .ref (r_278 26), .ref (r_278 27), .ref (r_278 28), .ref (r_278 29), .ref (r_278 30), .ref (r_278 31)]))) := by have q9 := hv_367; rw [eΓ_366, tg_f] at q9; rw [eΓ_366]; exact hI.setg hU rfl ho (show tp_o_M L K 0 0 (tgu (Γ_352 (39, 0, 0)) 7 (0 : Int)) _ from ⟨r_278, (upd v_279 7 (0 : Int32)), q_280, rfl, hr_281, q9⟩)
        have hfr9 : ∀ b, (K b).1 ∉ ([39, 42, 43, 44, 52, 45, 46, 53, 47, 54, 55, 56, 48, 49, 50, 51] : List Nat) → va_up f_353 o (.inr (12, [.ref (r_278 0), .ref (r_278 1), .int (v_279 0), .ref (r_278 2), .ref (r_278 3), .ref (r_278 4), .ref (r_278 5), .ref (r_278 6), .ref (r_278 7), .ref (r_278 8), .ref (r_278 9), .ref (r_278 10), .ref (r_278 11), .ref (r_278 12), .ref (r_278 13), .ref (r_278 14), .ref (r_278 15), .int (v_279 1), .int (v_279 2), .int (v_279 3), .int (v_279 4), .int (v_279 5), .int (v_279 6), .int 0, .ref (r_278 16), .int (v_279 8), .ref (r_278 17), .int (v_279 9), .ref (r_278 18), .long q_280, .ref (r_278 19), .ref (r_278 20), .int (v_279 10), .int (v_279 11), .int (v_279 12), .ref (r_278 21), .ref (r_278 22), .int (v_279 13), .ref (r_278 23), .int (v_279 14), .int (v_279 15), .ref (r_278 24), .ref (r_278 25), .ref (r_278 26), .ref (r_278 27), .ref (r_278 28), .ref (r_278 29), .ref (r_278 30), .ref (r_278 31)])) b = f b := tp_fr hfr ho (by decide)
        refine tp_put (cy := cy) (ci := 12) (v := .int 0) (ty := tyX12 23) (C := RX12) (T := TX12) (N := 49) hx hb hta inlX12 tyX12 tyX12_ok nmX12 hown hK hP hD hS ho.1 hf_354 rfl 23 (by decide) (hta _ wk_538) (fun _ h9 => h9) rfl (tyX12_ok 23 (by decide)) rfl rfl (Nat.le_of_ble_eq_true rfl) dX12_text_128 (fun H locs hP hD hS => ?_)
        have hP : va_P D vwCl (va_pl L (va_up f_353 o (.inr (12, [.ref (r_278 0), .ref (r_278 1), .int (v_279 0), .ref (r_278 2), .ref (r_278 3), .ref (r_278 4), .ref (r_278 5), .ref (r_278 6), .ref (r_278 7), .ref (r_278 8), .ref (r_278 9), .ref (r_278 10), .ref (r_278 11), .ref (r_278 12), .ref (r_278 13), .ref (r_278 14), .ref (r_278 15), .int (v_279 1), .int (v_279 2), .int (v_279 3), .int (v_279 4), .int (v_279 5), .int (v_279 6), .int 0, .ref (r_278 16), .int (v_279 8), .ref (r_278 17), .int (v_279 9), .ref (r_278 18), .long q_280, .ref (r_278 19), .ref (r_278 20), .int (v_279 10), .int (v_279 11), .int (v_279 12), .ref (r_278 21), .ref (r_278 22), .int (v_279 13), .ref (r_278 23), .int (v_279 14), .int (v_279 15), .ref (r_278 24), .ref (r_278 25), .ref (r_278 26), .ref (r_278 27), .ref (r_278 28), .ref (r_278 29), .ref (r_278 30), .ref (r_278 31)])))) H := hP
        generalize hfe : va_up f_353 o (.inr (12, [.ref (r_278 0), .ref (r_278 1), .int (v_279 0), .ref (r_278 2), .ref (r_278 3), .ref (r_278 4), .ref (r_278 5), .ref (r_278 6), .ref (r_278 7), .ref (r_278 8), .ref (r_278 9), .ref (r_278 10), .ref (r_278 11), .ref (r_278 12), .ref (r_278 13), .ref (r_278 14), .ref (r_278 15), .int (v_279 1), .int (v_279 2), .int (v_279 3), .int (v_279 4), .int (v_279 5), .int (v_279 6), .int 0, .ref (r_278 16), .int (v_279 8), .ref (r_278 17), .int (v_279 9), .ref (r_278 18), .long q_280, .ref (r_278 19), .ref (r_278 20), .int (v_279 10), .int (v_279 11), .int (v_279 12), .ref (r_278 21), .ref (r_278 22), .int (v_279 13), .ref (r_278 23), .int (v_279 14), .int (v_279 15), .ref (r_278 24), .ref (r_278 25), .ref (r_278 26), .ref (r_278 27), .ref (r_278 28), .ref (r_278 29), .ref (r_278 30), .ref (r_278 31)])) = f_368 at hP hI9 hfr9
        have hD : va_D A (va_pl L f_368) := tp_D hL hAL
        have hf_369 : f_368 o = .inr (12, [.ref (r_278 0), .ref (r_278 1), .int (v_279 0), .ref (r_278 2), .ref (r_278 3), .ref (r_278 4), .ref (r_278 5), .ref (r_278 6), .ref (r_278 7), .ref (r_278 8), .ref (r_278 9), .ref (r_278 10), .ref (r_278 11), .ref (r_278 12), .ref (r_278 13), .ref (r_278 14), .ref (r_278 15), .int (v_279 1), .int (v_279 2), .int (v_279 3), .int (v_279 4), .int (v_279 5), .int (v_279 6), .int 0, .ref (r_278 16), .int (v_279 8), .ref (r_278 17), .int (v_279 9), .ref (r_278 18), .long q_280, .ref (r_278 19), .ref (r_278 20), .int (v_279 10), .int (v_279 11), .int (v_279 12), .ref (r_278 21), .ref (r_278 22), .int (v_279 13), .ref (r_278 23), .int (v_279 14), .int (v_279 15), .ref (r_278 24), .ref (r_278 25), .ref (r_278 26), .ref (r_278 27), .ref (r_278 28), .ref (r_278 29), .ref (r_278 30), .ref (r_278 31)]) := by rw [← hfe]; exact va_up_self _ _ _
        clear hfe
        have hI := hI9
        have hfr := hfr9
        clear hI9 hfr9
        have hgr : ∀ κ : tk_K, κ.1 ∉ ([39, 42, 43, 44, 52, 45, 46, 53, 47, 54, 55, 56, 48, 49, 50, 51] : List Nat) → Γ_366 κ = Γ κ := tg_fr hgr eΓ_366 (by decide)
        have hx_370 : (v_279 0).toInt = Γ_366 (39, 0, 0) 0 := hv_367 0 (by decide)
        have hx_371 : (v_279 1).toInt = Γ_366 (39, 0, 0) 1 := hv_367 1 (by decide)
        have hx_372 : (v_279 2).toInt = Γ_366 (39, 0, 0) 2 := hv_367 2 (by decide)
        have hx_373 : (v_279 3).toInt = Γ_366 (39, 0, 0) 3 := hv_367 3 (by decide)
        have hx_374 : (v_279 4).toInt = Γ_366 (39, 0, 0) 4 := hv_367 4 (by decide)
        have hx_375 : (v_279 5).toInt = Γ_366 (39, 0, 0) 5 := hv_367 5 (by decide)
        have hx_376 : (v_279 6).toInt = Γ_366 (39, 0, 0) 6 := hv_367 6 (by decide)
        have hx_377 : (0 : Int) = Γ_366 (39, 0, 0) 7 := hv_367 7 (by decide)
        have hx_378 : (v_279 8).toInt = Γ_366 (39, 0, 0) 8 := hv_367 8 (by decide)
        have wz_366_MLEN : Γ_366 (44, 22, 0) t0.toNat = Γ_352 (44, 22, 0) t0.toNat := by rw [eΓ_366, tg_r (by decide)]
        have wz_366_MCLS : Γ_366 (46, 22, 0) t0.toNat = Γ_352 (46, 22, 0) t0.toNat := by rw [eΓ_366, tg_r (by decide)]
        have wz_366_EATERS : Γ_366 (47, 6, 0) t0.toNat = Γ_352 (47, 6, 0) t0.toNat := by rw [eΓ_366, tg_r (by decide)]
        have wz_366_MBENDS : Γ_366 (48, 22, 0) t0.toNat = Γ_352 (48, 22, 0) t0.toNat := by rw [eΓ_366, tg_r (by decide)]
        have wz_366_GFROM : Γ_366 (49, 22, 0) t0.toNat = Γ_352 (49, 22, 0) t0.toNat := by rw [eΓ_366, tg_r (by decide)]
        have wz_366_GTO : Γ_366 (50, 22, 0) t0.toNat = Γ_352 (50, 22, 0) t0.toNat := by rw [eΓ_366, tg_r (by decide)]
        have wz_366_MWIDE : Γ_366 (51, 22, 0) t0.toNat = Γ_352 (51, 22, 0) t0.toNat := by rw [eΓ_366, tg_r (by decide)]
        have hrg : rg Γ Γ_366 t0 := hrg.same (by rw [eΓ_366]; exact tg_M)
        have htx9 : Γ_366 (42, 3, 0) = Γ (42, 3, 0) := by rw [eΓ_366, tg_rf (by decide)]; exact htx9
        refine lv_aload_n hx hb dX12_text_131 rfl (lv_at hl 0 rfl) ?_
        refine lv_iconst (v := 0) hx hb dX12_text_132 (by decide) ?_
        obtain ⟨Γ_379, eΓ_379⟩ : ∃ y : tk_G, y = tg Γ_366 (39, 0, 0) 1 (0 : Int) := ⟨_, rfl⟩
        have hv_380 : ∀ i : Nat, i < 16 → ((upd (upd v_279 7 (0 : Int32)) 1 (0 : Int32)) i).toInt = Γ_379 (39, 0, 0) i := by rw [eΓ_379, tg_f]; exact tp_gi_upd hv_367
        have hI9 : tp_I cy L K Γ_379 (va_up f_368 o (.inr (12, [.ref (r_278 0), .ref (r_278 1), .int (v_279 0), .ref (r_278 2), .ref (r_278 3), .ref (r_278 4), .ref (r_278 5), .ref (r_278 6), .ref (r_278 7), .ref (r_278 8), .ref (r_278 9), .ref (r_278 10), .ref (r_278 11), .ref (r_278 12), .ref (r_278 13), .ref (r_278 14), .ref (r_278 15), .int 0, .int (v_279 2), .int (v_279 3), .int (v_279 4), .int (v_279 5), .int (v_279 6), .int 0, .ref (r_278 16), .int (v_279 8), .ref (r_278 17), .int (v_279 9), .ref (r_278 18), .long q_280, .ref (r_278 19), .ref (r_278 20), .int (v_279 10), .int (v_279 11), .int (v_279 12), .ref (r_278 21), .ref (r_278 22), .int (v_279 13), .ref (r_278 23), .int (v_279 14), .int (v_279 15), .ref (r_278 24), .ref (r_278 25), .ref (r_278 26), .ref (r_278 27), .ref (r_278 28), .ref (r_278 29), .ref (r_278 30), .ref (r_278 31)]))) := by have q9 := hv_380; rw [eΓ_379, tg_f] at q9; rw [eΓ_379]; exact hI.setg hU rfl ho (show tp_o_M L K 0 0 (tgu (Γ_366 (39, 0, 0)) 1 (0 : Int)) _ from ⟨r_278, (upd (upd v_279 7 (0 : Int32)) 1 (0 : Int32)), q_280, rfl, hr_281, q9⟩)
        have hfr9 : ∀ b, (K b).1 ∉ ([39, 42, 43, 44, 52, 45, 46, 53, 47, 54, 55, 56, 48, 49, 50, 51] : List Nat) → va_up f_368 o (.inr (12, [.ref (r_278 0), .ref (r_278 1), .int (v_279 0), .ref (r_278 2), .ref (r_278 3), .ref (r_278 4), .ref (r_278 5), .ref (r_278 6), .ref (r_278 7), .ref (r_278 8), .ref (r_278 9), .ref (r_278 10), .ref (r_278 11), .ref (r_278 12), .ref (r_278 13), .ref (r_278 14), .ref (r_278 15), .int 0, .int (v_279 2), .int (v_279 3), .int (v_279 4), .int (v_279 5), .int (v_279 6), .int 0, .ref (r_278 16), .int (v_279 8), .ref (r_278 17), .int (v_279 9), .ref (r_278 18), .long q_280, .ref (r_278 19), .ref (r_278 20), .int (v_279 10), .int (v_279 11), .int (v_279 12), .ref (r_278 21), .ref (r_278 22), .int (v_279 13), .ref (r_278 23), .int (v_279 14), .int (v_279 15), .ref (r_278 24), .ref (r_278 25), .ref (r_278 26), .ref (r_278 27), .ref (r_278 28), .ref (r_278 29), .ref (r_278 30), .ref (r_278 31)])) b = f b := tp_fr hfr ho (by decide)
        refine tp_put (cy := cy) (ci := 12) (v := .int 0) (ty := tyX12 17) (C := RX12) (T := TX12) (N := 49) hx hb hta inlX12 tyX12 tyX12_ok nmX12 hown hK hP hD hS ho.1 hf_369 rfl 17 (by decide) (hta _ wk_539) (fun _ h9 => h9) rfl (tyX12_ok 17 (by decide)) rfl rfl (Nat.le_of_ble_eq_true rfl) dX12_text_133 (fun H locs hP hD hS => ?_)
        have hP : va_P D vwCl (va_pl L (va_up f_368 o (.inr (12, [.ref (r_278 0), .ref (r_278 1), .int (v_279 0), .ref (r_278 2), .ref (r_278 3), .ref (r_278 4), .ref (r_278 5), .ref (r_278 6), .ref (r_278 7), .ref (r_278 8), .ref (r_278 9), .ref (r_278 10), .ref (r_278 11), .ref (r_278 12), .ref (r_278 13), .ref (r_278 14), .ref (r_278 15), .int 0, .int (v_279 2), .int (v_279 3), .int (v_279 4), .int (v_279 5), .int (v_279 6), .int 0, .ref (r_278 16), .int (v_279 8), .ref (r_278 17), .int (v_279 9), .ref (r_278 18), .long q_280, .ref (r_278 19), .ref (r_278 20), .int (v_279 10), .int (v_279 11), .int (v_279 12), .ref (r_278 21), .ref (r_278 22), .int (v_279 13), .ref (r_278 23), .int (v_279 14), .int (v_279 15), .ref (r_278 24), .ref (r_278 25), .ref (r_278 26), .ref (r_278 27), .ref (r_278 28), .ref (r_278 29), .ref (r_278 30), .ref (r_278 31)])))) H := hP
        generalize hfe : va_up f_368 o (.inr (12, [.ref (r_278 0), .ref (r_278 1), .int (v_279 0), .ref (r_278 2), .ref (r_278 3), .ref (r_278 4), .ref (r_278 5), .ref (r_278 6), .ref (r_278 7), .ref (r_278 8), .ref (r_278 9), .ref (r_278 10), .ref (r_278 11), .ref (r_278 12), .ref (r_278 13), .ref (r_278 14), .ref (r_278 15), .int 0, .int (v_279 2), .int (v_279 3), .int (v_279 4), .int (v_279 5), .int (v_279 6), .int 0, .ref (r_278 16), .int (v_279 8), .ref (r_278 17), .int (v_279 9), .ref (r_278 18), .long q_280, .ref (r_278 19), .ref (r_278 20), .int (v_279 10), .int (v_279 11), .int (v_279 12), .ref (r_278 21), .ref (r_278 22), .int (v_279 13), .ref (r_278 23), .int (v_279 14), .int (v_279 15), .ref (r_278 24), .ref (r_278 25), .ref (r_278 26), .ref (r_278 27), .ref (r_278 28), .ref (r_278 29), .ref (r_278 30), .ref (r_278 31)])) = f_381 at hP hI9 hfr9
        have hD : va_D A (va_pl L f_381) := tp_D hL hAL
        have hf_382 : f_381 o = .inr (12, [.ref (r_278 0), .ref (r_278 1), .int (v_279 0), .ref (r_278 2), .ref (r_278 3), .ref (r_278 4), .ref (r_278 5), .ref (r_278 6), .ref (r_278 7), .ref (r_278 8), .ref (r_278 9), .ref (r_278 10), .ref (r_278 11), .ref (r_278 12), .ref (r_278 13), .ref (r_278 14), .ref (r_278 15), .int 0, .int (v_279 2), .int (v_279 3), .int (v_279 4), .int (v_279 5), .int (v_279 6), .int 0, .ref (r_278 16), .int (v_279 8), .ref (r_278 17), .int (v_279 9), .ref (r_278 18), .long q_280, .ref (r_278 19), .ref (r_278 20), .int (v_279 10), .int (v_279 11), .int (v_279 12), .ref (r_278 21), .ref (r_278 22), .int (v_279 13), .ref (r_278 23), .int (v_279 14), .int (v_279 15), .ref (r_278 24), .ref (r_278 25), .ref (r_278 26), .ref (r_278 27), .ref (r_278 28), .ref (r_278 29), .ref (r_278 30), .ref (r_278 31)]) := by rw [← hfe]; exact va_up_self _ _ _
        clear hfe
        have hI := hI9
        have hfr := hfr9
        clear hI9 hfr9
        have hgr : ∀ κ : tk_K, κ.1 ∉ ([39, 42, 43, 44, 52, 45, 46, 53, 47, 54, 55, 56, 48, 49, 50, 51] : List Nat) → Γ_379 κ = Γ κ := tg_fr hgr eΓ_379 (by decide)
        have hx_383 : (v_279 0).toInt = Γ_379 (39, 0, 0) 0 := hv_380 0 (by decide)
        have hx_384 : (0 : Int) = Γ_379 (39, 0, 0) 1 := hv_380 1 (by decide)
        have hx_385 : (v_279 2).toInt = Γ_379 (39, 0, 0) 2 := hv_380 2 (by decide)
        have hx_386 : (v_279 3).toInt = Γ_379 (39, 0, 0) 3 := hv_380 3 (by decide)
        have hx_387 : (v_279 4).toInt = Γ_379 (39, 0, 0) 4 := hv_380 4 (by decide)
        have hx_388 : (v_279 5).toInt = Γ_379 (39, 0, 0) 5 := hv_380 5 (by decide)
        have hx_389 : (v_279 6).toInt = Γ_379 (39, 0, 0) 6 := hv_380 6 (by decide)
        have hx_390 : (0 : Int) = Γ_379 (39, 0, 0) 7 := hv_380 7 (by decide)
        have hx_391 : (v_279 8).toInt = Γ_379 (39, 0, 0) 8 := hv_380 8 (by decide)
        have wz_379_MLEN : Γ_379 (44, 22, 0) t0.toNat = Γ_366 (44, 22, 0) t0.toNat := by rw [eΓ_379, tg_r (by decide)]
        have wz_379_MCLS : Γ_379 (46, 22, 0) t0.toNat = Γ_366 (46, 22, 0) t0.toNat := by rw [eΓ_379, tg_r (by decide)]
        have wz_379_EATERS : Γ_379 (47, 6, 0) t0.toNat = Γ_366 (47, 6, 0) t0.toNat := by rw [eΓ_379, tg_r (by decide)]
        have wz_379_MBENDS : Γ_379 (48, 22, 0) t0.toNat = Γ_366 (48, 22, 0) t0.toNat := by rw [eΓ_379, tg_r (by decide)]
        have wz_379_GFROM : Γ_379 (49, 22, 0) t0.toNat = Γ_366 (49, 22, 0) t0.toNat := by rw [eΓ_379, tg_r (by decide)]
        have wz_379_GTO : Γ_379 (50, 22, 0) t0.toNat = Γ_366 (50, 22, 0) t0.toNat := by rw [eΓ_379, tg_r (by decide)]
        have wz_379_MWIDE : Γ_379 (51, 22, 0) t0.toNat = Γ_366 (51, 22, 0) t0.toNat := by rw [eΓ_379, tg_r (by decide)]
        have hrg : rg Γ Γ_379 t0 := hrg.same (by rw [eΓ_379]; exact tg_M)
        have htx9 : Γ_379 (42, 3, 0) = Γ (42, 3, 0) := by rw [eΓ_379, tg_rf (by decide)]; exact htx9
        refine lv_aload_n hx hb dX12_text_136 rfl (lv_at hl 0 rfl) ?_
        refine lv_iconst (v := 0) hx hb dX12_text_137 (by decide) ?_
        obtain ⟨Γ_392, eΓ_392⟩ : ∃ y : tk_G, y = tg Γ_379 (39, 0, 0) 2 (0 : Int) := ⟨_, rfl⟩
        have hv_393 : ∀ i : Nat, i < 16 → ((upd (upd (upd v_279 7 (0 : Int32)) 1 (0 : Int32)) 2 (0 : Int32)) i).toInt = Γ_392 (39, 0, 0) i := by rw [eΓ_392, tg_f]; exact tp_gi_upd hv_380
        have hI9 : tp_I cy L K Γ_392 (va_up f_381 o (.inr (12, [.ref (r_278 0), .ref (r_278 1), .int (v_279 0), .ref (r_278 2), .ref (r_278 3), .ref (r_278 4), .ref (r_278 5), .ref (r_278 6), .ref (r_278 7), .ref (r_278 8), .ref (r_278 9), .ref (r_278 10), .ref (r_278 11), .ref (r_278 12), .ref (r_278 13), .ref (r_278 14), .ref (r_278 15), .int 0, .int 0, .int (v_279 3), .int (v_279 4), .int (v_279 5), .int (v_279 6), .int 0, .ref (r_278 16), .int (v_279 8), .ref (r_278 17), .int (v_279 9), .ref (r_278 18), .long q_280, .ref (r_278 19), .ref (r_278 20), .int (v_279 10), .int (v_279 11), .int (v_279 12), .ref (r_278 21), .ref (r_278 22), .int (v_279 13), .ref (r_278 23), .int (v_279 14), .int (v_279 15), .ref (r_278 24), .ref (r_278 25), .ref (r_278 26), .ref (r_278 27), .ref (r_278 28), .ref (r_278 29), .ref (r_278 30), .ref (r_278 31)]))) := by have q9 := hv_393; rw [eΓ_392, tg_f] at q9; rw [eΓ_392]; exact hI.setg hU rfl ho (show tp_o_M L K 0 0 (tgu (Γ_379 (39, 0, 0)) 2 (0 : Int)) _ from ⟨r_278, (upd (upd (upd v_279 7 (0 : Int32)) 1 (0 : Int32)) 2 (0 : Int32)), q_280, rfl, hr_281, q9⟩)
        have hfr9 : ∀ b, (K b).1 ∉ ([39, 42, 43, 44, 52, 45, 46, 53, 47, 54, 55, 56, 48, 49, 50, 51] : List Nat) → va_up f_381 o (.inr (12, [.ref (r_278 0), .ref (r_278 1), .int (v_279 0), .ref (r_278 2), .ref (r_278 3), .ref (r_278 4), .ref (r_278 5), .ref (r_278 6), .ref (r_278 7), .ref (r_278 8), .ref (r_278 9), .ref (r_278 10), .ref (r_278 11), .ref (r_278 12), .ref (r_278 13), .ref (r_278 14), .ref (r_278 15), .int 0, .int 0, .int (v_279 3), .int (v_279 4), .int (v_279 5), .int (v_279 6), .int 0, .ref (r_278 16), .int (v_279 8), .ref (r_278 17), .int (v_279 9), .ref (r_278 18), .long q_280, .ref (r_278 19), .ref (r_278 20), .int (v_279 10), .int (v_279 11), .int (v_279 12), .ref (r_278 21), .ref (r_278 22), .int (v_279 13), .ref (r_278 23), .int (v_279 14), .int (v_279 15), .ref (r_278 24), .ref (r_278 25), .ref (r_278 26), .ref (r_278 27), .ref (r_278 28), .ref (r_278 29), .ref (r_278 30), .ref (r_278 31)])) b = f b := tp_fr hfr ho (by decide)
        refine tp_put (cy := cy) (ci := 12) (v := .int 0) (ty := tyX12 18) (C := RX12) (T := TX12) (N := 49) hx hb hta inlX12 tyX12 tyX12_ok nmX12 hown hK hP hD hS ho.1 hf_382 rfl 18 (by decide) (hta _ wk_540) (fun _ h9 => h9) rfl (tyX12_ok 18 (by decide)) rfl rfl (Nat.le_of_ble_eq_true rfl) dX12_text_138 (fun H locs hP hD hS => ?_)
        have hP : va_P D vwCl (va_pl L (va_up f_381 o (.inr (12, [.ref (r_278 0), .ref (r_278 1), .int (v_279 0), .ref (r_278 2), .ref (r_278 3), .ref (r_278 4), .ref (r_278 5), .ref (r_278 6), .ref (r_278 7), .ref (r_278 8), .ref (r_278 9), .ref (r_278 10), .ref (r_278 11), .ref (r_278 12), .ref (r_278 13), .ref (r_278 14), .ref (r_278 15), .int 0, .int 0, .int (v_279 3), .int (v_279 4), .int (v_279 5), .int (v_279 6), .int 0, .ref (r_278 16), .int (v_279 8), .ref (r_278 17), .int (v_279 9), .ref (r_278 18), .long q_280, .ref (r_278 19), .ref (r_278 20), .int (v_279 10), .int (v_279 11), .int (v_279 12), .ref (r_278 21), .ref (r_278 22), .int (v_279 13), .ref (r_278 23), .int (v_279 14), .int (v_279 15), .ref (r_278 24), .ref (r_278 25), .ref (r_278 26), .ref (r_278 27), .ref (r_278 28), .ref (r_278 29), .ref (r_278 30), .ref (r_278 31)])))) H := hP
        generalize hfe : va_up f_381 o (.inr (12, [.ref (r_278 0), .ref (r_278 1), .int (v_279 0), .ref (r_278 2), .ref (r_278 3), .ref (r_278 4), .ref (r_278 5), .ref (r_278 6), .ref (r_278 7), .ref (r_278 8), .ref (r_278 9), .ref (r_278 10), .ref (r_278 11), .ref (r_278 12), .ref (r_278 13), .ref (r_278 14), .ref (r_278 15), .int 0, .int 0, .int (v_279 3), .int (v_279 4), .int (v_279 5), .int (v_279 6), .int 0, .ref (r_278 16), .int (v_279 8), .ref (r_278 17), .int (v_279 9), .ref (r_278 18), .long q_280, .ref (r_278 19), .ref (r_278 20), .int (v_279 10), .int (v_279 11), .int (v_279 12), .ref (r_278 21), .ref (r_278 22), .int (v_279 13), .ref (r_278 23), .int (v_279 14), .int (v_279 15), .ref (r_278 24), .ref (r_278 25), .ref (r_278 26), .ref (r_278 27), .ref (r_278 28), .ref (r_278 29), .ref (r_278 30), .ref (r_278 31)])) = f_394 at hP hI9 hfr9
        have hD : va_D A (va_pl L f_394) := tp_D hL hAL
        have hf_395 : f_394 o = .inr (12, [.ref (r_278 0), .ref (r_278 1), .int (v_279 0), .ref (r_278 2), .ref (r_278 3), .ref (r_278 4), .ref (r_278 5), .ref (r_278 6), .ref (r_278 7), .ref (r_278 8), .ref (r_278 9), .ref (r_278 10), .ref (r_278 11), .ref (r_278 12), .ref (r_278 13), .ref (r_278 14), .ref (r_278 15), .int 0, .int 0, .int (v_279 3), .int (v_279 4), .int (v_279 5), .int (v_279 6), .int 0, .ref (r_278 16), .int (v_279 8), .ref (r_278 17), .int (v_279 9), .ref (r_278 18), .long q_280, .ref (r_278 19), .ref (r_278 20), .int (v_279 10), .int (v_279 11), .int (v_279 12), .ref (r_278 21), .ref (r_278 22), .int (v_279 13), .ref (r_278 23), .int (v_279 14), .int (v_279 15), .ref (r_278 24), .ref (r_278 25), .ref (r_278 26), .ref (r_278 27), .ref (r_278 28), .ref (r_278 29), .ref (r_278 30), .ref (r_278 31)]) := by rw [← hfe]; exact va_up_self _ _ _
        clear hfe
        have hI := hI9
        have hfr := hfr9
        clear hI9 hfr9
        have hgr : ∀ κ : tk_K, κ.1 ∉ ([39, 42, 43, 44, 52, 45, 46, 53, 47, 54, 55, 56, 48, 49, 50, 51] : List Nat) → Γ_392 κ = Γ κ := tg_fr hgr eΓ_392 (by decide)
        have hx_396 : (v_279 0).toInt = Γ_392 (39, 0, 0) 0 := hv_393 0 (by decide)
        have hx_397 : (0 : Int) = Γ_392 (39, 0, 0) 1 := hv_393 1 (by decide)
        have hx_398 : (0 : Int) = Γ_392 (39, 0, 0) 2 := hv_393 2 (by decide)
        have hx_399 : (v_279 3).toInt = Γ_392 (39, 0, 0) 3 := hv_393 3 (by decide)
        have hx_400 : (v_279 4).toInt = Γ_392 (39, 0, 0) 4 := hv_393 4 (by decide)
        have hx_401 : (v_279 5).toInt = Γ_392 (39, 0, 0) 5 := hv_393 5 (by decide)
        have hx_402 : (v_279 6).toInt = Γ_392 (39, 0, 0) 6 := hv_393 6 (by decide)
        have hx_403 : (0 : Int) = Γ_392 (39, 0, 0) 7 := hv_393 7 (by decide)
        have hx_404 : (v_279 8).toInt = Γ_392 (39, 0, 0) 8 := hv_393 8 (by decide)
        have wz_392_MLEN : Γ_392 (44, 22, 0) t0.toNat = Γ_379 (44, 22, 0) t0.toNat := by rw [eΓ_392, tg_r (by decide)]
        have wz_392_MCLS : Γ_392 (46, 22, 0) t0.toNat = Γ_379 (46, 22, 0) t0.toNat := by rw [eΓ_392, tg_r (by decide)]
        have wz_392_EATERS : Γ_392 (47, 6, 0) t0.toNat = Γ_379 (47, 6, 0) t0.toNat := by rw [eΓ_392, tg_r (by decide)]
        have wz_392_MBENDS : Γ_392 (48, 22, 0) t0.toNat = Γ_379 (48, 22, 0) t0.toNat := by rw [eΓ_392, tg_r (by decide)]
        have wz_392_GFROM : Γ_392 (49, 22, 0) t0.toNat = Γ_379 (49, 22, 0) t0.toNat := by rw [eΓ_392, tg_r (by decide)]
        have wz_392_GTO : Γ_392 (50, 22, 0) t0.toNat = Γ_379 (50, 22, 0) t0.toNat := by rw [eΓ_392, tg_r (by decide)]
        have wz_392_MWIDE : Γ_392 (51, 22, 0) t0.toNat = Γ_379 (51, 22, 0) t0.toNat := by rw [eΓ_392, tg_r (by decide)]
        have hrg : rg Γ Γ_392 t0 := hrg.same (by rw [eΓ_392]; exact tg_M)
        have htx9 : Γ_392 (42, 3, 0) = Γ (42, 3, 0) := by rw [eΓ_392, tg_rf (by decide)]; exact htx9
        refine lv_aload_n hx hb dX12_text_141 rfl (lv_at hl 0 rfl) ?_
        refine lv_iconst (v := 0) hx hb dX12_text_142 (by decide) ?_
        obtain ⟨Γ_405, eΓ_405⟩ : ∃ y : tk_G, y = tg Γ_392 (39, 0, 0) 5 (0 : Int) := ⟨_, rfl⟩
        have hv_406 : ∀ i : Nat, i < 16 → ((upd (upd (upd (upd v_279 7 (0 : Int32)) 1 (0 : Int32)) 2 (0 : Int32)) 5 (0 : Int32)) i).toInt = Γ_405 (39, 0, 0) i := by rw [eΓ_405, tg_f]; exact tp_gi_upd hv_393
        have hI9 : tp_I cy L K Γ_405 (va_up f_394 o (.inr (12, [.ref (r_278 0), .ref (r_278 1), .int (v_279 0), .ref (r_278 2), .ref (r_278 3), .ref (r_278 4), .ref (r_278 5), .ref (r_278 6), .ref (r_278 7), .ref (r_278 8), .ref (r_278 9), .ref (r_278 10), .ref (r_278 11), .ref (r_278 12), .ref (r_278 13), .ref (r_278 14), .ref (r_278 15), .int 0, .int 0, .int (v_279 3), .int (v_279 4), .int 0, .int (v_279 6), .int 0, .ref (r_278 16), .int (v_279 8), .ref (r_278 17), .int (v_279 9), .ref (r_278 18), .long q_280, .ref (r_278 19), .ref (r_278 20), .int (v_279 10), .int (v_279 11), .int (v_279 12), .ref (r_278 21), .ref (r_278 22), .int (v_279 13), .ref (r_278 23), .int (v_279 14), .int (v_279 15), .ref (r_278 24), .ref (r_278 25), .ref (r_278 26), .ref (r_278 27), .ref (r_278 28), .ref (r_278 29), .ref (r_278 30), .ref (r_278 31)]))) := by have q9 := hv_406; rw [eΓ_405, tg_f] at q9; rw [eΓ_405]; exact hI.setg hU rfl ho (show tp_o_M L K 0 0 (tgu (Γ_392 (39, 0, 0)) 5 (0 : Int)) _ from ⟨r_278, (upd (upd (upd (upd v_279 7 (0 : Int32)) 1 (0 : Int32)) 2 (0 : Int32)) 5 (0 : Int32)), q_280, rfl, hr_281, q9⟩)
        have hfr9 : ∀ b, (K b).1 ∉ ([39, 42, 43, 44, 52, 45, 46, 53, 47, 54, 55, 56, 48, 49, 50, 51] : List Nat) → va_up f_394 o (.inr (12, [.ref (r_278 0), .ref (r_278 1), .int (v_279 0), .ref (r_278 2), .ref (r_278 3), .ref (r_278 4), .ref (r_278 5), .ref (r_278 6), .ref (r_278 7), .ref (r_278 8), .ref (r_278 9), .ref (r_278 10), .ref (r_278 11), .ref (r_278 12), .ref (r_278 13), .ref (r_278 14), .ref (r_278 15), .int 0, .int 0, .int (v_279 3), .int (v_279 4), .int 0, .int (v_279 6), .int 0, .ref (r_278 16), .int (v_279 8), .ref (r_278 17), .int (v_279 9), .ref (r_278 18), .long q_280, .ref (r_278 19), .ref (r_278 20), .int (v_279 10), .int (v_279 11), .int (v_279 12), .ref (r_278 21), .ref (r_278 22), .int (v_279 13), .ref (r_278 23), .int (v_279 14), .int (v_279 15), .ref (r_278 24), .ref (r_278 25), .ref (r_278 26), .ref (r_278 27), .ref (r_278 28), .ref (r_278 29), .ref (r_278 30), .ref (r_278 31)])) b = f b := tp_fr hfr ho (by decide)
        refine tp_put (cy := cy) (ci := 12) (v := .int 0) (ty := tyX12 21) (C := RX12) (T := TX12) (N := 49) hx hb hta inlX12 tyX12 tyX12_ok nmX12 hown hK hP hD hS ho.1 hf_395 rfl 21 (by decide) (hta _ wk_541) (fun _ h9 => h9) rfl (tyX12_ok 21 (by decide)) rfl rfl (Nat.le_of_ble_eq_true rfl) dX12_text_143 (fun H locs hP hD hS => ?_)
        have hP : va_P D vwCl (va_pl L (va_up f_394 o (.inr (12, [.ref (r_278 0), .ref (r_278 1), .int (v_279 0), .ref (r_278 2), .ref (r_278 3), .ref (r_278 4), .ref (r_278 5), .ref (r_278 6), .ref (r_278 7), .ref (r_278 8), .ref (r_278 9), .ref (r_278 10), .ref (r_278 11), .ref (r_278 12), .ref (r_278 13), .ref (r_278 14), .ref (r_278 15), .int 0, .int 0, .int (v_279 3), .int (v_279 4), .int 0, .int (v_279 6), .int 0, .ref (r_278 16), .int (v_279 8), .ref (r_278 17), .int (v_279 9), .ref (r_278 18), .long q_280, .ref (r_278 19), .ref (r_278 20), .int (v_279 10), .int (v_279 11), .int (v_279 12), .ref (r_278 21), .ref (r_278 22), .int (v_279 13), .ref (r_278 23), .int (v_279 14), .int (v_279 15), .ref (r_278 24), .ref (r_278 25), .ref (r_278 26), .ref (r_278 27), .ref (r_278 28), .ref (r_278 29), .ref (r_278 30), .ref (r_278 31)])))) H := hP
        generalize hfe : va_up f_394 o (.inr (12, [.ref (r_278 0), .ref (r_278 1), .int (v_279 0), .ref (r_278 2), .ref (r_278 3), .ref (r_278 4), .ref (r_278 5), .ref (r_278 6), .ref (r_278 7), .ref (r_278 8), .ref (r_278 9), .ref (r_278 10), .ref (r_278 11), .ref (r_278 12), .ref (r_278 13), .ref (r_278 14), .ref (r_278 15), .int 0, .int 0, .int (v_279 3), .int (v_279 4), .int 0, .int (v_279 6), .int 0, .ref (r_278 16), .int (v_279 8), .ref (r_278 17), .int (v_279 9), .ref (r_278 18), .long q_280, .ref (r_278 19), .ref (r_278 20), .int (v_279 10), .int (v_279 11), .int (v_279 12), .ref (r_278 21), .ref (r_278 22), .int (v_279 13), .ref (r_278 23), .int (v_279 14), .int (v_279 15), .ref (r_278 24), .ref (r_278 25), .ref (r_278 26), .ref (r_278 27), .ref (r_278 28), .ref (r_278 29), .ref (r_278 30), .ref (r_278 31)])) = f_407 at hP hI9 hfr9
        have hD : va_D A (va_pl L f_407) := tp_D hL hAL
        have hf_408 : f_407 o = .inr (12, [.ref (r_278 0), .ref (r_278 1), .int (v_279 0), .ref (r_278 2), .ref (r_278 3), .ref (r_278 4), .ref (r_278 5), .ref (r_278 6), .ref (r_278 7), .ref (r_278 8), .ref (r_278 9), .ref (r_278 10), .ref (r_278 11), .ref (r_278 12), .ref (r_278 13), .ref (r_278 14), .ref (r_278 15), .int 0, .int 0, .int (v_279 3), .int (v_279 4), .int 0, .int (v_279 6), .int 0, .ref (r_278 16), .int (v_279 8), .ref (r_278 17), .int (v_279 9), .ref (r_278 18), .long q_280, .ref (r_278 19), .ref (r_278 20), .int (v_279 10), .int (v_279 11), .int (v_279 12), .ref (r_278 21), .ref (r_278 22), .int (v_279 13), .ref (r_278 23), .int (v_279 14), .int (v_279 15), .ref (r_278 24), .ref (r_278 25), .ref (r_278 26), .ref (r_278 27), .ref (r_278 28), .ref (r_278 29), .ref (r_278 30), .ref (r_278 31)]) := by rw [← hfe]; exact va_up_self _ _ _
        clear hfe
        have hI := hI9
        have hfr := hfr9
        clear hI9 hfr9
        have hgr : ∀ κ : tk_K, κ.1 ∉ ([39, 42, 43, 44, 52, 45, 46, 53, 47, 54, 55, 56, 48, 49, 50, 51] : List Nat) → Γ_405 κ = Γ κ := tg_fr hgr eΓ_405 (by decide)
        have hx_409 : (v_279 0).toInt = Γ_405 (39, 0, 0) 0 := hv_406 0 (by decide)
        have hx_410 : (0 : Int) = Γ_405 (39, 0, 0) 1 := hv_406 1 (by decide)
        have hx_411 : (0 : Int) = Γ_405 (39, 0, 0) 2 := hv_406 2 (by decide)
        have hx_412 : (v_279 3).toInt = Γ_405 (39, 0, 0) 3 := hv_406 3 (by decide)
        have hx_413 : (v_279 4).toInt = Γ_405 (39, 0, 0) 4 := hv_406 4 (by decide)
        have hx_414 : (0 : Int) = Γ_405 (39, 0, 0) 5 := hv_406 5 (by decide)
        have hx_415 : (v_279 6).toInt = Γ_405 (39, 0, 0) 6 := hv_406 6 (by decide)
        have hx_416 : (0 : Int) = Γ_405 (39, 0, 0) 7 := hv_406 7 (by decide)
        have hx_417 : (v_279 8).toInt = Γ_405 (39, 0, 0) 8 := hv_406 8 (by decide)
        have wz_405_MLEN : Γ_405 (44, 22, 0) t0.toNat = Γ_392 (44, 22, 0) t0.toNat := by rw [eΓ_405, tg_r (by decide)]
        have wz_405_MCLS : Γ_405 (46, 22, 0) t0.toNat = Γ_392 (46, 22, 0) t0.toNat := by rw [eΓ_405, tg_r (by decide)]
        have wz_405_EATERS : Γ_405 (47, 6, 0) t0.toNat = Γ_392 (47, 6, 0) t0.toNat := by rw [eΓ_405, tg_r (by decide)]
        have wz_405_MBENDS : Γ_405 (48, 22, 0) t0.toNat = Γ_392 (48, 22, 0) t0.toNat := by rw [eΓ_405, tg_r (by decide)]
        have wz_405_GFROM : Γ_405 (49, 22, 0) t0.toNat = Γ_392 (49, 22, 0) t0.toNat := by rw [eΓ_405, tg_r (by decide)]
        have wz_405_GTO : Γ_405 (50, 22, 0) t0.toNat = Γ_392 (50, 22, 0) t0.toNat := by rw [eΓ_405, tg_r (by decide)]
        have wz_405_MWIDE : Γ_405 (51, 22, 0) t0.toNat = Γ_392 (51, 22, 0) t0.toNat := by rw [eΓ_405, tg_r (by decide)]
        have hrg : rg Γ Γ_405 t0 := hrg.same (by rw [eΓ_405]; exact tg_M)
        have htx9 : Γ_405 (42, 3, 0) = Γ (42, 3, 0) := by rw [eΓ_405, tg_rf (by decide)]; exact htx9
        refine lv_aload_n hx hb dX12_text_146 rfl (lv_at hl 0 rfl) ?_
        have hrb : rb Γ_405 t0 := ⟨by omega, fun c9 q9 => absurd q9 (by omega), fun q9 => (by omega), by omega, by omega, by omega, by omega⟩
        have hrq : rq Γ_405 t0 := ⟨by omega, by omega, by omega, by omega, fun q9 => (by omega), fun c9 q9 => absurd q9 (by omega)⟩
        refine tq_ciR hS (hAf _ hS.1) (tq_rV (As := []) (rest := []) ⟨hx, hb, hml, hown, hta⟩ (tp_P.pre hK hN hL hU hI hP) (tp_recv hK hP ho.1 hf_408 rfl) lk_X12_330 (r_X12_clauseHere l D cy H.size L K Γ_405 f_407 o (Γ (41, 400, 0)) (Γ (39, 0, 0) 0) t0 ho ((hgr _ (by decide)).trans ht) (by first | omega | (simp only [Int32.toInt_toInt64]; omega) | decide | assumption) (by first | omega | (simp only [Int32.toInt_toInt64]; omega) | decide | assumption) (by first | omega | (simp only [Int32.toInt_toInt64]; omega) | decide | assumption) (by first | omega | (simp only [Int32.toInt_toInt64]; omega) | decide | assumption) (by first | omega | (simp only [Int32.toInt_toInt64]; omega) | decide | assumption)) rfl rfl ⟨Nat.le_of_ble_eq_true rfl, Nat.le_of_ble_eq_true rfl⟩ rfl hl.1 rfl (Nat.le_of_ble_eq_true rfl) dX12_text_147 ⟨Nat.le_of_ble_eq_true rfl, Nat.le_of_ble_eq_true rfl⟩) (fun r_419 f_420 Γ_422 H locs hw_418 hP hI hc_421 hcg_423 hS => ?_)
        have hD : va_D A (va_pl L f_420) := tp_D hL hAL
        have hfr := tp_fr2 hfr hc_421 (by decide)
        have hgr : ∀ κ : tk_K, κ.1 ∉ ([39, 42, 43, 44, 52, 45, 46, 53, 47, 54, 55, 56, 48, 49, 50, 51] : List Nat) → Γ_422 κ = Γ κ := tg_fr2 hgr hcg_423 (by decide)
        obtain ⟨hE_424, hw_418⟩ := hw_418
        have hE_424 : tl_J r_419 (rq Γ_422 t0) := hE_424
        have hw_418 : Γ_422 (39, 0, 0) 0 = Γ_405 (39, 0, 0) 0 ∧ Γ_422 (39, 0, 0) 4 = Γ_405 (39, 0, 0) 4 ∧ Γ_405 (39, 0, 0) 1 ≤ Γ_422 (39, 0, 0) 1 ∧ Γ_422 (39, 0, 0) 1 ≤ (Γ (39, 0, 0) 0) ∧ rg Γ_405 Γ_422 t0 ∧ rb Γ_422 t0 := hw_418
        have htx9 : Γ_422 (42, 3, 0) = Γ (42, 3, 0) := (hcg_423 (42, 3, 0) (by decide)).trans htx9
        have hrg : rg Γ Γ_422 t0 := hrg.trans hw_418.2.2.2.2.1
        have hrb : rb Γ_422 t0 := hw_418.2.2.2.2.2
        refine lv_istore_n (lv' := [(2, .int r_419), (0, .ref o), (1, .int p0)]) hx hb dX12_text_150 rfl hl (by decide) rfl (fun ls hl => ?_)
        refine tl_ind (G := fun H locs ls => W p l e ((headSpec (tl_w yX12_text cX12_text 3 (some .int)) ({ frames := 11, cells := 0, slots := 0, locals := 243 })).room) s m #[.ref o, .int p0] below meth c H locs 0 0 (MQ below (va_Qi (fun (r : Int32) (u : (Nat → va_E) × tk_G) => tx_ok (u.2 (43, 8800, 0)) (u.2 (45, 1056, 0)) (u.2 (46, 22, 0)) (u.2 (47, 6, 0)) (u.2 (48, 22, 0)) (u.2 (49, 22, 0)) (u.2 (50, 22, 0)) (u.2 (51, 22, 0)) (u.2 (42, 3, 0)) ∧ (0 ≤ u.2 (39, 0, 0) 0 ∧ u.2 (39, 0, 0) 0 ≤ 400) ∧ Γ (42, 3, 0) 1 ≤ u.2 (42, 3, 0) 1) (tp_BG D cy L K Γ f [39, 42, 43, 44, 52, 45, 46, 53, 47, 54, 55, 56, 48, 49, 50, 51]) A) #[.ref o, .int p0] s 0 0 A) (F0 m 151 ls [])) (α := (Nat → va_E) × tk_G × Int32) (fun aq => (401 - aq.2.1 (39, 0, 0) 1).toNat) (fun aq H locs ls => (rg Γ aq.2.1 t0) ∧ (rb aq.2.1 t0) ∧ (aq.2.2.toInt = 1 → rq aq.2.1 t0) ∧ (aq.2.2.toInt = 0 ∨ aq.2.2.toInt = 1) ∧ (aq.2.1 (42, 3, 0) = Γ (42, 3, 0)) ∧ (aq.2.1 (39, 0, 0) 0 = Γ (39, 0, 0) 0) ∧ (aq.2.1 (39, 0, 0) 4 = t0) ∧ (0 ≤ aq.2.1 (39, 0, 0) 1 ∧ aq.2.1 (39, 0, 0) 1 ≤ Γ (39, 0, 0) 0) ∧ va_P D vwCl (va_pl L aq.1) H ∧ tp_I cy L K aq.2.1 aq.1 ∧ (∀ b, (K b).1 ∉ ([39, 42, 43, 44, 52, 45, 46, 53, 47, 54, 55, 56, 48, 49, 50, 51] : List Nat) → aq.1 b = f b) ∧ (∀ κ : tk_K, κ.1 ∉ ([39, 42, 43, 44, 52, 45, 46, 53, 47, 54, 55, 56, 48, 49, 50, 51] : List Nat) → aq.2.1 κ = Γ κ) ∧ va_S A s.heap H locs ∧ lv_has ls 3 [(2, .int aq.2.2), (0, .ref o), (1, .int p0)]) ?_ (f_420, Γ_422, r_419) H locs ls ⟨(show rg Γ Γ_422 t0 from hrg), (show rb Γ_422 t0 from hrb), (show r_419.toInt = 1 → rq Γ_422 t0 from (fun q9 => hE_424.t (fun q8 => by rw [q8] at q9; exact absurd q9 (by decide)))), (show r_419.toInt = 0 ∨ r_419.toInt = 1 from (by rcases hE_424 with ⟨q9, _⟩ | q9 <;> rw [q9] <;> decide)), (show Γ_422 (42, 3, 0) = Γ (42, 3, 0) from htx9), (show Γ_422 (39, 0, 0) 0 = Γ (39, 0, 0) 0 from (by omega)), (show Γ_422 (39, 0, 0) 4 = t0 from (by omega)), (show 0 ≤ Γ_422 (39, 0, 0) 1 ∧ Γ_422 (39, 0, 0) 1 ≤ Γ (39, 0, 0) 0 from (by omega)), hP, hI, hfr, hgr, hS, lv_sub hl [0, 1, 2] rfl⟩
        rintro ⟨f_425, Γ_426, v2⟩ H locs ls ⟨hrg, hrb, hrq, hv2, htx9, q0, q4, h1, hP, hI, hfr, hgr, hS, hl⟩ ih151
        have hgr : ∀ κ : tk_K, κ.1 ∉ ([39, 42, 43, 44, 52, 45, 46, 53, 47, 54, 55, 56, 48, 49, 50, 51] : List Nat) → Γ_426 κ = Γ κ := hgr
        have hP : va_P D vwCl (va_pl L f_425) H := hP
        have hI : tp_I cy L K Γ_426 f_425 := hI
        have hfr : ∀ b, (K b).1 ∉ ([39, 42, 43, 44, 52, 45, 46, 53, 47, 54, 55, 56, 48, 49, 50, 51] : List Nat) → f_425 b = f b := hfr
        have hD : va_D A (va_pl L f_425) := tp_D hL hAL
        have hrg : rg Γ Γ_426 t0 := hrg
        have hrb : rb Γ_426 t0 := hrb
        have hrq : v2.toInt = 1 → rq Γ_426 t0 := hrq
        have hv2 : v2.toInt = 0 ∨ v2.toInt = 1 := hv2
        have htx9 : Γ_426 (42, 3, 0) = Γ (42, 3, 0) := htx9
        have q0 : Γ_426 (39, 0, 0) 0 = Γ (39, 0, 0) 0 := q0
        have q4 : Γ_426 (39, 0, 0) 4 = t0 := q4
        have h1 : 0 ≤ Γ_426 (39, 0, 0) 1 ∧ Γ_426 (39, 0, 0) 1 ≤ Γ (39, 0, 0) 0 := h1
        have hl : lv_has ls 3 [(2, .int v2), (0, .ref o), (1, .int p0)] := hl
        refine lv_iload_n hx hb dX12_text_151 rfl (lv_at hl 0 rfl) ?_
        refine lv_if_eq (tgt := 182) hx hb dX12_text_152 (by decide) (fun c_427 => ?_) (fun c_427 => ?_)
        · have c_427 : v2.toInt = (0 : Int) := tl_eq c_427
          refine lv_iload_n hx hb dX12_text_182 rfl (lv_at hl 0 rfl) ?_
          refine lv_if_eq (tgt := 204) hx hb dX12_text_183 (by decide) (fun c_428 => ?_) (fun c_428 => ?_)
          · have c_428 : v2.toInt = (0 : Int) := tl_eq c_428
            exact hjn204 f_425 Γ_426  H locs ls (show rg Γ Γ_426 t0 from hrg) (show rb Γ_426 t0 from hrb) (show Γ_426 (42, 3, 0) = Γ (42, 3, 0) from htx9) (show Γ_426 (39, 0, 0) 4 = t0 from (by omega)) hP hI hfr hgr hS (lv_sub hl [1, 2] rfl)
          · have c_428 : ¬ v2.toInt = (0 : Int) := tl_neq c_428
            exfalso; omega
        · have c_427 : ¬ v2.toInt = (0 : Int) := tl_neq c_427
          have hrqL := hrq (by omega)
          have hgN : ∀ κ : tk_K, κ.1 ∉ ([39] : List Nat) → Γ_426 κ = Γ_426 κ := fun _ _ => rfl
          refine lv_aload_n hx hb dX12_text_155 rfl (lv_at hl 1 rfl) ?_
          obtain ⟨r_430, v_431, q_432, hf_429, hr_433, hv_434⟩ := (show tp_o_M L K 0 0 (Γ_426 (39, 0, 0)) (f_425 o) from hI.at ho)
          have hx_435 : (v_431 0).toInt = Γ_426 (39, 0, 0) 0 := hv_434 0 (by decide)
          have hx_436 : (v_431 1).toInt = Γ_426 (39, 0, 0) 1 := hv_434 1 (by decide)
          have hx_437 : (v_431 2).toInt = Γ_426 (39, 0, 0) 2 := hv_434 2 (by decide)
          have hx_438 : (v_431 3).toInt = Γ_426 (39, 0, 0) 3 := hv_434 3 (by decide)
          have hx_439 : (v_431 4).toInt = Γ_426 (39, 0, 0) 4 := hv_434 4 (by decide)
          have hx_440 : (v_431 5).toInt = Γ_426 (39, 0, 0) 5 := hv_434 5 (by decide)
          have hx_441 : (v_431 6).toInt = Γ_426 (39, 0, 0) 6 := hv_434 6 (by decide)
          have hx_442 : (v_431 7).toInt = Γ_426 (39, 0, 0) 7 := hv_434 7 (by decide)
          have hx_443 : (v_431 8).toInt = Γ_426 (39, 0, 0) 8 := hv_434 8 (by decide)
          refine tq_ciR hS (hAf _ hS.1) (tq_rV (As := []) (rest := []) ⟨hx, hb, hml, hown, hta⟩ (tp_P.pre hK hN hL hU hI hP) (tp_recv hK hP ho.1 hf_429 rfl) lk_X12_167 (r_X12_see l D cy H.size L K Γ_426 f_425 o (Γ (41, 400, 0)) (Γ (39, 0, 0) 0) ho ((hgr _ (by decide)).trans ht) (by first | omega | (simp only [Int32.toInt_toInt64]; omega) | decide | assumption) (by first | omega | (simp only [Int32.toInt_toInt64]; omega) | decide | assumption)) rfl rfl ⟨Nat.le_of_ble_eq_true rfl, Nat.le_of_ble_eq_true rfl⟩ rfl hl.1 rfl (Nat.le_of_ble_eq_true rfl) dX12_text_156 ⟨Nat.le_of_ble_eq_true rfl, Nat.le_of_ble_eq_true rfl⟩) (fun r_445 f_446 Γ_448 H locs hw_444 hP hI hc_447 hcg_449 hS => ?_)
          have hD : va_D A (va_pl L f_446) := tp_D hL hAL
          have hfr := tp_fr2 hfr hc_447 (by decide)
          have hgr : ∀ κ : tk_K, κ.1 ∉ ([39, 42, 43, 44, 52, 45, 46, 53, 47, 54, 55, 56, 48, 49, 50, 51] : List Nat) → Γ_448 κ = Γ κ := tg_fr2 hgr hcg_449 (by decide)
          have wy_448_MLEN : Γ_448 (44, 22, 0) t0.toNat = Γ_426 (44, 22, 0) t0.toNat := congrFun (hcg_449 (44, 22, 0) (by decide)) _
          have wy_448_MCLS : Γ_448 (46, 22, 0) t0.toNat = Γ_426 (46, 22, 0) t0.toNat := congrFun (hcg_449 (46, 22, 0) (by decide)) _
          have wy_448_EATERS : Γ_448 (47, 6, 0) t0.toNat = Γ_426 (47, 6, 0) t0.toNat := congrFun (hcg_449 (47, 6, 0) (by decide)) _
          have wy_448_MBENDS : Γ_448 (48, 22, 0) t0.toNat = Γ_426 (48, 22, 0) t0.toNat := congrFun (hcg_449 (48, 22, 0) (by decide)) _
          have wy_448_GFROM : Γ_448 (49, 22, 0) t0.toNat = Γ_426 (49, 22, 0) t0.toNat := congrFun (hcg_449 (49, 22, 0) (by decide)) _
          have wy_448_GTO : Γ_448 (50, 22, 0) t0.toNat = Γ_426 (50, 22, 0) t0.toNat := congrFun (hcg_449 (50, 22, 0) (by decide)) _
          have wy_448_MWIDE : Γ_448 (51, 22, 0) t0.toNat = Γ_426 (51, 22, 0) t0.toNat := congrFun (hcg_449 (51, 22, 0) (by decide)) _
          have hw_444 : Γ_448 (39, 0, 0) 0 = Γ_426 (39, 0, 0) 0 ∧ Γ_448 (39, 0, 0) 3 = Γ_426 (39, 0, 0) 3 ∧ Γ_448 (39, 0, 0) 4 = Γ_426 (39, 0, 0) 4 ∧ Γ_448 (39, 0, 0) 5 = Γ_426 (39, 0, 0) 5 ∧ Γ_448 (39, 0, 0) 6 = Γ_426 (39, 0, 0) 6 ∧ Γ_448 (39, 0, 0) 7 = Γ_426 (39, 0, 0) 7 ∧ Γ_448 (39, 0, 0) 8 = Γ_426 (39, 0, 0) 8 ∧ Γ_426 (39, 0, 0) 1 ≤ Γ_448 (39, 0, 0) 1 ∧ Γ_448 (39, 0, 0) 1 ≤ (Γ (39, 0, 0) 0) ∧ (¬ (Γ (41, 400, 0)) (Γ_426 (39, 0, 0) 1).toNat = 32 → Γ_448 (39, 0, 0) 1 = Γ_426 (39, 0, 0) 1) ∧ ((r_445.toInt = -1 ∧ Γ_448 (39, 0, 0) 1 = (Γ (39, 0, 0) 0)) ∨ (0 ≤ r_445.toInt ∧ r_445.toInt ≤ 255 ∧ Γ_448 (39, 0, 0) 1 < (Γ (39, 0, 0) 0) ∧ ¬ (Γ (41, 400, 0)) (Γ_448 (39, 0, 0) 1).toNat = 32)) := hw_444
          have htx9 : Γ_448 (42, 3, 0) = Γ (42, 3, 0) := (hcg_449 (42, 3, 0) (by decide)).trans htx9
          have hrg : rg Γ Γ_448 t0 := hrg.same hcg_449
          have hrb : rb Γ_448 t0 := hrb.same hcg_449
          have hgN : ∀ κ : tk_K, κ.1 ∉ ([39] : List Nat) → Γ_448 κ = Γ_426 κ := tg_fr2 hgN hcg_449 (by decide)
          refine lv_bipush (v := 59) hx hb dX12_text_159 (by decide) ?_
          refine lv_icmp_ne (tgt := 182) hx hb dX12_text_161 (by decide) (fun c_450 => ?_) (fun c_450 => ?_)
          · have c_450 : ¬ r_445.toInt = (59 : Int) := tl_neq c_450
            refine lv_iload_n hx hb dX12_text_182 rfl (lv_at hl 0 rfl) ?_
            refine lv_if_eq (tgt := 204) hx hb dX12_text_183 (by decide) (fun c_451 => ?_) (fun c_451 => ?_)
            · have c_451 : v2.toInt = (0 : Int) := tl_eq c_451
              exact hjn204 f_446 Γ_448  H locs ls (show rg Γ Γ_448 t0 from hrg) (show rb Γ_448 t0 from hrb) (show Γ_448 (42, 3, 0) = Γ (42, 3, 0) from htx9) (show Γ_448 (39, 0, 0) 4 = t0 from (by omega)) hP hI hfr hgr hS (lv_sub hl [1, 2] rfl)
            · have c_451 : ¬ v2.toInt = (0 : Int) := tl_neq c_451
              refine lv_aload_n hx hb dX12_text_186 rfl (lv_at hl 1 rfl) ?_
              obtain ⟨r_453, v_454, q_455, hf_452, hr_456, hv_457⟩ := (show tp_o_M L K 0 0 (Γ_448 (39, 0, 0)) (f_446 o) from hI.at ho)
              have hx_458 : (v_454 0).toInt = Γ_448 (39, 0, 0) 0 := hv_457 0 (by decide)
              have hx_459 : (v_454 1).toInt = Γ_448 (39, 0, 0) 1 := hv_457 1 (by decide)
              have hx_460 : (v_454 2).toInt = Γ_448 (39, 0, 0) 2 := hv_457 2 (by decide)
              have hx_461 : (v_454 3).toInt = Γ_448 (39, 0, 0) 3 := hv_457 3 (by decide)
              have hx_462 : (v_454 4).toInt = Γ_448 (39, 0, 0) 4 := hv_457 4 (by decide)
              have hx_463 : (v_454 5).toInt = Γ_448 (39, 0, 0) 5 := hv_457 5 (by decide)
              have hx_464 : (v_454 6).toInt = Γ_448 (39, 0, 0) 6 := hv_457 6 (by decide)
              have hx_465 : (v_454 7).toInt = Γ_448 (39, 0, 0) 7 := hv_457 7 (by decide)
              have hx_466 : (v_454 8).toInt = Γ_448 (39, 0, 0) 8 := hv_457 8 (by decide)
              refine tq_ciR hS (hAf _ hS.1) (tq_rV (As := []) (rest := []) ⟨hx, hb, hml, hown, hta⟩ (tp_P.pre hK hN hL hU hI hP) (tp_recv hK hP ho.1 hf_452 rfl) lk_X12_167 (r_X12_see l D cy H.size L K Γ_448 f_446 o (Γ (41, 400, 0)) (Γ (39, 0, 0) 0) ho ((hgr _ (by decide)).trans ht) (by first | omega | (simp only [Int32.toInt_toInt64]; omega) | decide | assumption) (by first | omega | (simp only [Int32.toInt_toInt64]; omega) | decide | assumption)) rfl rfl ⟨Nat.le_of_ble_eq_true rfl, Nat.le_of_ble_eq_true rfl⟩ rfl hl.1 rfl (Nat.le_of_ble_eq_true rfl) dX12_text_187 ⟨Nat.le_of_ble_eq_true rfl, Nat.le_of_ble_eq_true rfl⟩) (fun r_468 f_469 Γ_471 H locs hw_467 hP hI hc_470 hcg_472 hS => ?_)
              have hD : va_D A (va_pl L f_469) := tp_D hL hAL
              have hfr := tp_fr2 hfr hc_470 (by decide)
              have hgr : ∀ κ : tk_K, κ.1 ∉ ([39, 42, 43, 44, 52, 45, 46, 53, 47, 54, 55, 56, 48, 49, 50, 51] : List Nat) → Γ_471 κ = Γ κ := tg_fr2 hgr hcg_472 (by decide)
              have wy_471_MLEN : Γ_471 (44, 22, 0) t0.toNat = Γ_448 (44, 22, 0) t0.toNat := congrFun (hcg_472 (44, 22, 0) (by decide)) _
              have wy_471_MCLS : Γ_471 (46, 22, 0) t0.toNat = Γ_448 (46, 22, 0) t0.toNat := congrFun (hcg_472 (46, 22, 0) (by decide)) _
              have wy_471_EATERS : Γ_471 (47, 6, 0) t0.toNat = Γ_448 (47, 6, 0) t0.toNat := congrFun (hcg_472 (47, 6, 0) (by decide)) _
              have wy_471_MBENDS : Γ_471 (48, 22, 0) t0.toNat = Γ_448 (48, 22, 0) t0.toNat := congrFun (hcg_472 (48, 22, 0) (by decide)) _
              have wy_471_GFROM : Γ_471 (49, 22, 0) t0.toNat = Γ_448 (49, 22, 0) t0.toNat := congrFun (hcg_472 (49, 22, 0) (by decide)) _
              have wy_471_GTO : Γ_471 (50, 22, 0) t0.toNat = Γ_448 (50, 22, 0) t0.toNat := congrFun (hcg_472 (50, 22, 0) (by decide)) _
              have wy_471_MWIDE : Γ_471 (51, 22, 0) t0.toNat = Γ_448 (51, 22, 0) t0.toNat := congrFun (hcg_472 (51, 22, 0) (by decide)) _
              have hw_467 : Γ_471 (39, 0, 0) 0 = Γ_448 (39, 0, 0) 0 ∧ Γ_471 (39, 0, 0) 3 = Γ_448 (39, 0, 0) 3 ∧ Γ_471 (39, 0, 0) 4 = Γ_448 (39, 0, 0) 4 ∧ Γ_471 (39, 0, 0) 5 = Γ_448 (39, 0, 0) 5 ∧ Γ_471 (39, 0, 0) 6 = Γ_448 (39, 0, 0) 6 ∧ Γ_471 (39, 0, 0) 7 = Γ_448 (39, 0, 0) 7 ∧ Γ_471 (39, 0, 0) 8 = Γ_448 (39, 0, 0) 8 ∧ Γ_448 (39, 0, 0) 1 ≤ Γ_471 (39, 0, 0) 1 ∧ Γ_471 (39, 0, 0) 1 ≤ (Γ (39, 0, 0) 0) ∧ (¬ (Γ (41, 400, 0)) (Γ_448 (39, 0, 0) 1).toNat = 32 → Γ_471 (39, 0, 0) 1 = Γ_448 (39, 0, 0) 1) ∧ ((r_468.toInt = -1 ∧ Γ_471 (39, 0, 0) 1 = (Γ (39, 0, 0) 0)) ∨ (0 ≤ r_468.toInt ∧ r_468.toInt ≤ 255 ∧ Γ_471 (39, 0, 0) 1 < (Γ (39, 0, 0) 0) ∧ ¬ (Γ (41, 400, 0)) (Γ_471 (39, 0, 0) 1).toNat = 32)) := hw_467
              refine lv_iconst (v := (-1)) hx hb dX12_text_190 (by decide) ?_
              refine lv_icmp_eq (tgt := 204) hx hb dX12_text_191 (by decide) (fun c_473 => ?_) (fun c_473 => ?_)
              · have c_473 : r_468.toInt = (-1 : Int) := tl_eq c_473
                exact hjn204 f_469 Γ_471  H locs ls (show rg Γ Γ_471 t0 from hrg) (show rb Γ_471 t0 from hrb) (show Γ_471 (42, 3, 0) = Γ (42, 3, 0) from htx9) (show Γ_471 (39, 0, 0) 4 = t0 from (by omega)) hP hI hfr hgr hS (lv_sub hl [1, 2] rfl)
              · have c_473 : ¬ r_468.toInt = (-1 : Int) := tl_neq c_473
                refine lv_aload_n hx hb dX12_text_194 rfl (lv_at hl 1 rfl) ?_
                refine lv_iconst (v := 0) hx hb dX12_text_195 (by decide) ?_
                refine lv_aload_n hx hb dX12_text_196 rfl (lv_at hl 1 rfl) ?_
                obtain ⟨r_475, v_476, q_477, hf_474, hr_478, hv_479⟩ := (show tp_o_M L K 0 0 (Γ_471 (39, 0, 0)) (f_469 o) from hI.at ho)
                have hx_480 : (v_476 0).toInt = Γ_471 (39, 0, 0) 0 := hv_479 0 (by decide)
                have hx_481 : (v_476 1).toInt = Γ_471 (39, 0, 0) 1 := hv_479 1 (by decide)
                have hx_482 : (v_476 2).toInt = Γ_471 (39, 0, 0) 2 := hv_479 2 (by decide)
                have hx_483 : (v_476 3).toInt = Γ_471 (39, 0, 0) 3 := hv_479 3 (by decide)
                have hx_484 : (v_476 4).toInt = Γ_471 (39, 0, 0) 4 := hv_479 4 (by decide)
                have hx_485 : (v_476 5).toInt = Γ_471 (39, 0, 0) 5 := hv_479 5 (by decide)
                have hx_486 : (v_476 6).toInt = Γ_471 (39, 0, 0) 6 := hv_479 6 (by decide)
                have hx_487 : (v_476 7).toInt = Γ_471 (39, 0, 0) 7 := hv_479 7 (by decide)
                have hx_488 : (v_476 8).toInt = Γ_471 (39, 0, 0) 8 := hv_479 8 (by decide)
                refine tp_get (cy := cy) (ci := 12) (v := .int (v_476 1)) (C := RX12) (T := TX12) (N := 49) hx hb hta inlX12 hown hK hP ho.1 hf_474 rfl 17 (by decide) (hta _ wk_539) (fun _ h9 => h9) rfl dX12_text_197 ?_
                refine tq_ciR hS (hAf _ hS.1) (tq_rV (As := [.int 0, .int (v_476 1)]) (rest := []) ⟨hx, hb, hml, hown, hta⟩ (tp_P.pre hK hN hL hU hI hP) (tp_recv hK hP ho.1 hf_474 rfl) lk_X12_184 (r_X12_fails l D cy H.size L K Γ_471 f_469 o 0 (v_476 1) ho) rfl rfl ⟨Nat.le_of_ble_eq_true rfl, Nat.le_of_ble_eq_true rfl⟩ rfl hl.1 rfl (Nat.le_of_ble_eq_true rfl) dX12_text_200 ⟨Nat.le_of_ble_eq_true rfl, Nat.le_of_ble_eq_true rfl⟩) (fun r_490 f_491 Γ_493 H locs hw_489 hP hI hc_492 hcg_494 hS => ?_)
                have hD : va_D A (va_pl L f_491) := tp_D hL hAL
                have hfr := tp_fr2 hfr hc_492 (by decide)
                have hgr : ∀ κ : tk_K, κ.1 ∉ ([39, 42, 43, 44, 52, 45, 46, 53, 47, 54, 55, 56, 48, 49, 50, 51] : List Nat) → Γ_493 κ = Γ κ := tg_fr2 hgr hcg_494 (by decide)
                have wy_493_MLEN : Γ_493 (44, 22, 0) t0.toNat = Γ_471 (44, 22, 0) t0.toNat := congrFun (hcg_494 (44, 22, 0) (by decide)) _
                have wy_493_MCLS : Γ_493 (46, 22, 0) t0.toNat = Γ_471 (46, 22, 0) t0.toNat := congrFun (hcg_494 (46, 22, 0) (by decide)) _
                have wy_493_EATERS : Γ_493 (47, 6, 0) t0.toNat = Γ_471 (47, 6, 0) t0.toNat := congrFun (hcg_494 (47, 6, 0) (by decide)) _
                have wy_493_MBENDS : Γ_493 (48, 22, 0) t0.toNat = Γ_471 (48, 22, 0) t0.toNat := congrFun (hcg_494 (48, 22, 0) (by decide)) _
                have wy_493_GFROM : Γ_493 (49, 22, 0) t0.toNat = Γ_471 (49, 22, 0) t0.toNat := congrFun (hcg_494 (49, 22, 0) (by decide)) _
                have wy_493_GTO : Γ_493 (50, 22, 0) t0.toNat = Γ_471 (50, 22, 0) t0.toNat := congrFun (hcg_494 (50, 22, 0) (by decide)) _
                have wy_493_MWIDE : Γ_493 (51, 22, 0) t0.toNat = Γ_471 (51, 22, 0) t0.toNat := congrFun (hcg_494 (51, 22, 0) (by decide)) _
                obtain ⟨rfl, hw_489⟩ := hw_489
                have hw_489 : Γ_493 (39, 0, 0) 0 = Γ_471 (39, 0, 0) 0 ∧ Γ_493 (39, 0, 0) 1 = Γ_471 (39, 0, 0) 1 ∧ Γ_493 (39, 0, 0) 3 = Γ_471 (39, 0, 0) 3 ∧ Γ_493 (39, 0, 0) 4 = Γ_471 (39, 0, 0) 4 ∧ Γ_493 (39, 0, 0) 5 = Γ_471 (39, 0, 0) 5 ∧ Γ_493 (39, 0, 0) 6 = Γ_471 (39, 0, 0) 6 ∧ Γ_493 (39, 0, 0) 7 = Γ_471 (39, 0, 0) 7 ∧ Γ_493 (39, 0, 0) 8 = Γ_471 (39, 0, 0) 8 := hw_489
                refine lv_pop hx hb dX12_text_203 rfl ?_
                exact hjn204 f_491 Γ_493  H locs ls (show rg Γ Γ_493 t0 from hrg) (show rb Γ_493 t0 from hrb) (show Γ_493 (42, 3, 0) = Γ (42, 3, 0) from htx9) (show Γ_493 (39, 0, 0) 4 = t0 from (by omega)) hP hI hfr hgr hS (lv_sub hl [1, 2] rfl)
          · have c_450 : r_445.toInt = (59 : Int) := tl_eq c_450
            refine lv_aload_n hx hb dX12_text_164 rfl (lv_at hl 1 rfl) ?_
            refine lv_dup hx hb dX12_text_165 rfl ?_
            obtain ⟨r_496, v_497, q_498, hf_495, hr_499, hv_500⟩ := (show tp_o_M L K 0 0 (Γ_448 (39, 0, 0)) (f_446 o) from hI.at ho)
            have hx_501 : (v_497 0).toInt = Γ_448 (39, 0, 0) 0 := hv_500 0 (by decide)
            have hx_502 : (v_497 1).toInt = Γ_448 (39, 0, 0) 1 := hv_500 1 (by decide)
            have hx_503 : (v_497 2).toInt = Γ_448 (39, 0, 0) 2 := hv_500 2 (by decide)
            have hx_504 : (v_497 3).toInt = Γ_448 (39, 0, 0) 3 := hv_500 3 (by decide)
            have hx_505 : (v_497 4).toInt = Γ_448 (39, 0, 0) 4 := hv_500 4 (by decide)
            have hx_506 : (v_497 5).toInt = Γ_448 (39, 0, 0) 5 := hv_500 5 (by decide)
            have hx_507 : (v_497 6).toInt = Γ_448 (39, 0, 0) 6 := hv_500 6 (by decide)
            have hx_508 : (v_497 7).toInt = Γ_448 (39, 0, 0) 7 := hv_500 7 (by decide)
            have hx_509 : (v_497 8).toInt = Γ_448 (39, 0, 0) 8 := hv_500 8 (by decide)
            refine tp_get (cy := cy) (ci := 12) (v := .int (v_497 1)) (C := RX12) (T := TX12) (N := 49) hx hb hta inlX12 hown hK hP ho.1 hf_495 rfl 17 (by decide) (hta _ wk_539) (fun _ h9 => h9) rfl dX12_text_166 ?_
            refine lv_iconst (v := 1) hx hb dX12_text_169 (by decide) ?_
            refine lv_iadd hx hb dX12_text_170 ?_
            refine lv_topi (fun z_510 ez_510 => ?_)
            try have iz_510 : z_510.toInt = (v_497 1).toInt + (1 : Int) := by rw [ez_510]; exact tl_addN (v_497 1) 1 rfl rfl (by omega) (by omega)
            obtain ⟨Γ_511, eΓ_511⟩ : ∃ y : tk_G, y = tg Γ_448 (39, 0, 0) 1 z_510.toInt := ⟨_, rfl⟩
            have hv_512 : ∀ i : Nat, i < 16 → ((upd v_497 1 z_510) i).toInt = Γ_511 (39, 0, 0) i := by rw [eΓ_511, tg_f]; exact tp_gi_upd hv_500
            have hI9 : tp_I cy L K Γ_511 (va_up f_446 o (.inr (12, [.ref (r_496 0), .ref (r_496 1), .int (v_497 0), .ref (r_496 2), .ref (r_496 3), .ref (r_496 4), .ref (r_496 5), .ref (r_496 6), .ref (r_496 7), .ref (r_496 8), .ref (r_496 9), .ref (r_496 10), .ref (r_496 11), .ref (r_496 12), .ref (r_496 13), .ref (r_496 14), .ref (r_496 15), .int z_510, .int (v_497 2), .int (v_497 3), .int (v_497 4), .int (v_497 5), .int (v_497 6), .int (v_497 7), .ref (r_496 16), .int (v_497 8), .ref (r_496 17), .int (v_497 9), .ref (r_496 18), .long q_498, .ref (r_496 19), .ref (r_496 20), .int (v_497 10), .int (v_497 11), .int (v_497 12), .ref (r_496 21), .ref (r_496 22), .int (v_497 13), .ref (r_496 23), .int (v_497 14), .int (v_497 15), .ref (r_496 24), .ref (r_496 25), .ref (r_496 26), .ref (r_496 27), .ref (r_496 28), .ref (r_496 29), .ref (r_496 30), .ref (r_496 31)]))) := by have q9 := hv_512; rw [eΓ_511, tg_f] at q9; rw [eΓ_511]; exact hI.setg hU rfl ho (show tp_o_M L K 0 0 (tgu (Γ_448 (39, 0, 0)) 1 z_510.toInt) _ from ⟨r_496, (upd v_497 1 z_510), q_498, rfl, hr_499, q9⟩)
            have hfr9 : ∀ b, (K b).1 ∉ ([39, 42, 43, 44, 52, 45, 46, 53, 47, 54, 55, 56, 48, 49, 50, 51] : List Nat) → va_up f_446 o (.inr (12, [.ref (r_496 0), .ref (r_496 1), .int (v_497 0), .ref (r_496 2), .ref (r_496 3), .ref (r_496 4), .ref (r_496 5), .ref (r_496 6), .ref (r_496 7), .ref (r_496 8), .ref (r_496 9), .ref (r_496 10), .ref (r_496 11), .ref (r_496 12), .ref (r_496 13), .ref (r_496 14), .ref (r_496 15), .int z_510, .int (v_497 2), .int (v_497 3), .int (v_497 4), .int (v_497 5), .int (v_497 6), .int (v_497 7), .ref (r_496 16), .int (v_497 8), .ref (r_496 17), .int (v_497 9), .ref (r_496 18), .long q_498, .ref (r_496 19), .ref (r_496 20), .int (v_497 10), .int (v_497 11), .int (v_497 12), .ref (r_496 21), .ref (r_496 22), .int (v_497 13), .ref (r_496 23), .int (v_497 14), .int (v_497 15), .ref (r_496 24), .ref (r_496 25), .ref (r_496 26), .ref (r_496 27), .ref (r_496 28), .ref (r_496 29), .ref (r_496 30), .ref (r_496 31)])) b = f b := tp_fr hfr ho (by decide)
            refine tp_put (cy := cy) (ci := 12) (v := .int z_510) (ty := tyX12 17) (C := RX12) (T := TX12) (N := 49) hx hb hta inlX12 tyX12 tyX12_ok nmX12 hown hK hP hD hS ho.1 hf_495 rfl 17 (by decide) (hta _ wk_539) (fun _ h9 => h9) rfl (tyX12_ok 17 (by decide)) rfl rfl (Nat.le_of_ble_eq_true rfl) dX12_text_171 (fun H locs hP hD hS => ?_)
            have hP : va_P D vwCl (va_pl L (va_up f_446 o (.inr (12, [.ref (r_496 0), .ref (r_496 1), .int (v_497 0), .ref (r_496 2), .ref (r_496 3), .ref (r_496 4), .ref (r_496 5), .ref (r_496 6), .ref (r_496 7), .ref (r_496 8), .ref (r_496 9), .ref (r_496 10), .ref (r_496 11), .ref (r_496 12), .ref (r_496 13), .ref (r_496 14), .ref (r_496 15), .int z_510, .int (v_497 2), .int (v_497 3), .int (v_497 4), .int (v_497 5), .int (v_497 6), .int (v_497 7), .ref (r_496 16), .int (v_497 8), .ref (r_496 17), .int (v_497 9), .ref (r_496 18), .long q_498, .ref (r_496 19), .ref (r_496 20), .int (v_497 10), .int (v_497 11), .int (v_497 12), .ref (r_496 21), .ref (r_496 22), .int (v_497 13), .ref (r_496 23), .int (v_497 14), .int (v_497 15), .ref (r_496 24), .ref (r_496 25), .ref (r_496 26), .ref (r_496 27), .ref (r_496 28), .ref (r_496 29), .ref (r_496 30), .ref (r_496 31)])))) H := hP
            generalize hfe : va_up f_446 o (.inr (12, [.ref (r_496 0), .ref (r_496 1), .int (v_497 0), .ref (r_496 2), .ref (r_496 3), .ref (r_496 4), .ref (r_496 5), .ref (r_496 6), .ref (r_496 7), .ref (r_496 8), .ref (r_496 9), .ref (r_496 10), .ref (r_496 11), .ref (r_496 12), .ref (r_496 13), .ref (r_496 14), .ref (r_496 15), .int z_510, .int (v_497 2), .int (v_497 3), .int (v_497 4), .int (v_497 5), .int (v_497 6), .int (v_497 7), .ref (r_496 16), .int (v_497 8), .ref (r_496 17), .int (v_497 9), .ref (r_496 18), .long q_498, .ref (r_496 19), .ref (r_496 20), .int (v_497 10), .int (v_497 11), .int (v_497 12), .ref (r_496 21), .ref (r_496 22), .int (v_497 13), .ref (r_496 23), .int (v_497 14), .int (v_497 15), .ref (r_496 24), .ref (r_496 25), .ref (r_496 26), .ref (r_496 27), .ref (r_496 28), .ref (r_496 29), .ref (r_496 30), .ref (r_496 31)])) = f_513 at hP hI9 hfr9
            have hD : va_D A (va_pl L f_513) := tp_D hL hAL
            have hf_514 : f_513 o = .inr (12, [.ref (r_496 0), .ref (r_496 1), .int (v_497 0), .ref (r_496 2), .ref (r_496 3), .ref (r_496 4), .ref (r_496 5), .ref (r_496 6), .ref (r_496 7), .ref (r_496 8), .ref (r_496 9), .ref (r_496 10), .ref (r_496 11), .ref (r_496 12), .ref (r_496 13), .ref (r_496 14), .ref (r_496 15), .int z_510, .int (v_497 2), .int (v_497 3), .int (v_497 4), .int (v_497 5), .int (v_497 6), .int (v_497 7), .ref (r_496 16), .int (v_497 8), .ref (r_496 17), .int (v_497 9), .ref (r_496 18), .long q_498, .ref (r_496 19), .ref (r_496 20), .int (v_497 10), .int (v_497 11), .int (v_497 12), .ref (r_496 21), .ref (r_496 22), .int (v_497 13), .ref (r_496 23), .int (v_497 14), .int (v_497 15), .ref (r_496 24), .ref (r_496 25), .ref (r_496 26), .ref (r_496 27), .ref (r_496 28), .ref (r_496 29), .ref (r_496 30), .ref (r_496 31)]) := by rw [← hfe]; exact va_up_self _ _ _
            clear hfe
            have hI := hI9
            have hfr := hfr9
            clear hI9 hfr9
            have hgr : ∀ κ : tk_K, κ.1 ∉ ([39, 42, 43, 44, 52, 45, 46, 53, 47, 54, 55, 56, 48, 49, 50, 51] : List Nat) → Γ_511 κ = Γ κ := tg_fr hgr eΓ_511 (by decide)
            have hx_515 : (v_497 0).toInt = Γ_511 (39, 0, 0) 0 := hv_512 0 (by decide)
            have hx_516 : z_510.toInt = Γ_511 (39, 0, 0) 1 := hv_512 1 (by decide)
            have hx_517 : (v_497 2).toInt = Γ_511 (39, 0, 0) 2 := hv_512 2 (by decide)
            have hx_518 : (v_497 3).toInt = Γ_511 (39, 0, 0) 3 := hv_512 3 (by decide)
            have hx_519 : (v_497 4).toInt = Γ_511 (39, 0, 0) 4 := hv_512 4 (by decide)
            have hx_520 : (v_497 5).toInt = Γ_511 (39, 0, 0) 5 := hv_512 5 (by decide)
            have hx_521 : (v_497 6).toInt = Γ_511 (39, 0, 0) 6 := hv_512 6 (by decide)
            have hx_522 : (v_497 7).toInt = Γ_511 (39, 0, 0) 7 := hv_512 7 (by decide)
            have hx_523 : (v_497 8).toInt = Γ_511 (39, 0, 0) 8 := hv_512 8 (by decide)
            have wz_511_MLEN : Γ_511 (44, 22, 0) t0.toNat = Γ_448 (44, 22, 0) t0.toNat := by rw [eΓ_511, tg_r (by decide)]
            have wz_511_MCLS : Γ_511 (46, 22, 0) t0.toNat = Γ_448 (46, 22, 0) t0.toNat := by rw [eΓ_511, tg_r (by decide)]
            have wz_511_EATERS : Γ_511 (47, 6, 0) t0.toNat = Γ_448 (47, 6, 0) t0.toNat := by rw [eΓ_511, tg_r (by decide)]
            have wz_511_MBENDS : Γ_511 (48, 22, 0) t0.toNat = Γ_448 (48, 22, 0) t0.toNat := by rw [eΓ_511, tg_r (by decide)]
            have wz_511_GFROM : Γ_511 (49, 22, 0) t0.toNat = Γ_448 (49, 22, 0) t0.toNat := by rw [eΓ_511, tg_r (by decide)]
            have wz_511_GTO : Γ_511 (50, 22, 0) t0.toNat = Γ_448 (50, 22, 0) t0.toNat := by rw [eΓ_511, tg_r (by decide)]
            have wz_511_MWIDE : Γ_511 (51, 22, 0) t0.toNat = Γ_448 (51, 22, 0) t0.toNat := by rw [eΓ_511, tg_r (by decide)]
            have hrg : rg Γ Γ_511 t0 := hrg.same (by rw [eΓ_511]; exact tg_M)
            have htx9 : Γ_511 (42, 3, 0) = Γ (42, 3, 0) := by rw [eΓ_511, tg_rf (by decide)]; exact htx9
            have hrb : rb Γ_511 t0 := hrb.same (by rw [eΓ_511]; exact tg_M)
            have hgN : ∀ κ : tk_K, κ.1 ∉ ([39] : List Nat) → Γ_511 κ = Γ_426 κ := tg_fr hgN eΓ_511 (by decide)
            refine lv_aload_n hx hb dX12_text_174 rfl (lv_at hl 1 rfl) ?_
            have hrq : rq Γ_511 t0 := by obtain ⟨r1, r2, r3, r4, r5, r6⟩ := hrqL; unfold rq; rw [hgN (44, 22, 0) (by decide), hgN (46, 22, 0) (by decide), hgN (47, 6, 0) (by decide), hgN (43, 8800, 0) (by decide), hgN (45, 1056, 0) (by decide)]; exact ⟨by omega, by omega, by omega, by omega, fun q9 => (by have q8 := r5 q9; omega), r6⟩
            refine tq_ciR hS (hAf _ hS.1) (tq_rV (As := []) (rest := []) ⟨hx, hb, hml, hown, hta⟩ (tp_P.pre hK hN hL hU hI hP) (tp_recv hK hP ho.1 hf_514 rfl) lk_X12_330 (r_X12_clauseHere l D cy H.size L K Γ_511 f_513 o (Γ (41, 400, 0)) (Γ (39, 0, 0) 0) t0 ho ((hgr _ (by decide)).trans ht) (by first | omega | (simp only [Int32.toInt_toInt64]; omega) | decide | assumption) (by first | omega | (simp only [Int32.toInt_toInt64]; omega) | decide | assumption) (by first | omega | (simp only [Int32.toInt_toInt64]; omega) | decide | assumption) (by first | omega | (simp only [Int32.toInt_toInt64]; omega) | decide | assumption) (by first | omega | (simp only [Int32.toInt_toInt64]; omega) | decide | assumption)) rfl rfl ⟨Nat.le_of_ble_eq_true rfl, Nat.le_of_ble_eq_true rfl⟩ rfl hl.1 rfl (Nat.le_of_ble_eq_true rfl) dX12_text_175 ⟨Nat.le_of_ble_eq_true rfl, Nat.le_of_ble_eq_true rfl⟩) (fun r_525 f_526 Γ_528 H locs hw_524 hP hI hc_527 hcg_529 hS => ?_)
            have hD : va_D A (va_pl L f_526) := tp_D hL hAL
            have hfr := tp_fr2 hfr hc_527 (by decide)
            have hgr : ∀ κ : tk_K, κ.1 ∉ ([39, 42, 43, 44, 52, 45, 46, 53, 47, 54, 55, 56, 48, 49, 50, 51] : List Nat) → Γ_528 κ = Γ κ := tg_fr2 hgr hcg_529 (by decide)
            obtain ⟨hE_530, hw_524⟩ := hw_524
            have hE_530 : tl_J r_525 (rq Γ_528 t0) := hE_530
            have hw_524 : Γ_528 (39, 0, 0) 0 = Γ_511 (39, 0, 0) 0 ∧ Γ_528 (39, 0, 0) 4 = Γ_511 (39, 0, 0) 4 ∧ Γ_511 (39, 0, 0) 1 ≤ Γ_528 (39, 0, 0) 1 ∧ Γ_528 (39, 0, 0) 1 ≤ (Γ (39, 0, 0) 0) ∧ rg Γ_511 Γ_528 t0 ∧ rb Γ_528 t0 := hw_524
            have htx9 : Γ_528 (42, 3, 0) = Γ (42, 3, 0) := (hcg_529 (42, 3, 0) (by decide)).trans htx9
            have hrg : rg Γ Γ_528 t0 := hrg.trans hw_524.2.2.2.2.1
            have hrb : rb Γ_528 t0 := hw_524.2.2.2.2.2
            refine lv_istore_n (lv' := [(2, .int r_525), (0, .ref o), (1, .int p0)]) hx hb dX12_text_178 rfl hl (by decide) rfl (fun ls hl => ?_)
            refine lv_goto (tgt := 151) hx hb dX12_text_179 (by decide) ?_
            exact ih151 (f_526, Γ_528, r_525) H locs ls (by show (401 - Γ_528 (39, 0, 0) 1).toNat < (401 - Γ_426 (39, 0, 0) 1).toNat; omega) ⟨(show rg Γ Γ_528 t0 from hrg), (show rb Γ_528 t0 from hrb), (show r_525.toInt = 1 → rq Γ_528 t0 from (fun q9 => hE_530.t (fun q8 => by rw [q8] at q9; exact absurd q9 (by decide)))), (show r_525.toInt = 0 ∨ r_525.toInt = 1 from (by rcases hE_530 with ⟨q9, _⟩ | q9 <;> rw [q9] <;> decide)), (show Γ_528 (42, 3, 0) = Γ (42, 3, 0) from htx9), (show Γ_528 (39, 0, 0) 0 = Γ (39, 0, 0) 0 from (by omega)), (show Γ_528 (39, 0, 0) 4 = t0 from (by omega)), (show 0 ≤ Γ_528 (39, 0, 0) 1 ∧ Γ_528 (39, 0, 0) 1 ≤ Γ (39, 0, 0) 0 from (by omega)), hP, hI, hfr, hgr, hS, lv_sub hl [0, 1, 2] rfl⟩
      refine lv_aload_n hx hb dX12_text_42 rfl (lv_at hl 0 rfl) ?_
      refine tp_get (cy := cy) (ci := 12) (v := .ref (r_5 4)) (C := RX12) (T := TX12) (N := 49) hx hb hta inlX12 hown hK hP ho.1 hf_35 rfl 5 (by decide) (hta _ wk_154) (fun _ h9 => h9) rfl dX12_text_43 ?_
      refine lv_aload_n hx hb dX12_text_46 rfl (lv_at hl 0 rfl) ?_
      refine tp_get (cy := cy) (ci := 12) (v := .int z_31) (C := RX12) (T := TX12) (N := 49) hx hb hta inlX12 hown hK hP ho.1 hf_35 rfl 20 (by decide) (hta _ wk_537) (fun _ h9 => h9) rfl dX12_text_47 ?_
      refine lv_iconst (v := 0) hx hb dX12_text_50 (by decide) ?_
      obtain ⟨g_532, hf_531, hg_533⟩ := (show tp_gi cy (22) (Γ_32 (44, 22, 0)) (f_34 (r_5 4)) from hI.at (show tp_r L K 44 22 0 (r_5 4) from hr_8 4 (by decide)))
      have hn_534 : vp_in z_31 (22) := tl_in (by omega) (by omega)
      have hj_535 : z_31.toNatClampNeg = t0.toNat := by show z_31.toInt.toNat = _; omega
      have hv_536 : (0 : Int32).toInt = (0 : Int) := by decide
      obtain ⟨Γ_537, eΓ_537⟩ : ∃ y : tk_G, y = tg Γ_32 (44, 22, 0) t0.toNat (0 : Int) := ⟨_, rfl⟩
      have hI9 : tp_I cy L K Γ_537 (va_up f_34 (r_5 4) (.inl (cy 0, 22, .inl (upd g_532 z_31.toNatClampNeg 0)))) := by have q9 : tg Γ_32 (44, 22, 0) t0.toNat (0 : Int) = tg Γ_32 (44, 22, 0) z_31.toNatClampNeg (0 : Int32).toInt := (by rw [hj_535, hv_536]); rw [eΓ_537, q9]; exact hI.setg hU rfl (show tp_r L K 44 22 0 (r_5 4) from hr_8 4 (by decide)) (show tp_gi cy (22) (tgu (Γ_32 (44, 22, 0)) _ _) _ from ⟨_, rfl, tp_gi_upd hg_533⟩)
      have hfr9 : ∀ b, (K b).1 ∉ ([39, 42, 43, 44, 52, 45, 46, 53, 47, 54, 55, 56, 48, 49, 50, 51] : List Nat) → va_up f_34 (r_5 4) (.inl (cy 0, 22, .inl (upd g_532 z_31.toNatClampNeg 0))) b = f b := tp_fr hfr (show tp_r L K 44 22 0 (r_5 4) from hr_8 4 (by decide)) (by decide)
      refine tp_iast (cy := cy) hx hb hK hP hD hS (show tp_r L K 44 22 0 (r_5 4) from hr_8 4 (by decide)).1 hf_531 hn_534 dX12_text_51 (fun H locs hP hD hS => ?_)
      have hP : va_P D vwCl (va_pl L (va_up f_34 (r_5 4) (.inl (cy 0, 22, .inl (upd g_532 z_31.toNatClampNeg 0))))) H := hP
      generalize hfe : va_up f_34 (r_5 4) (.inl (cy 0, 22, .inl (upd g_532 z_31.toNatClampNeg 0))) = f_538 at hP hI9 hfr9
      have hD : va_D A (va_pl L f_538) := tp_D hL hAL
      have hf_539 := (show f_538 o = _ from by rw [← hfe, va_up_ne _ _ (tp_ne ho (show tp_r L K 44 22 0 (r_5 4) from hr_8 4 (by decide)) (by decide))]).trans hf_35
      have hf_540 := (show f_538 (r_5 2) = _ from by rw [← hfe, va_up_ne _ _ (tp_ne (show tp_r L K 42 3 0 (r_5 2) from hr_8 2 (by decide)) (show tp_r L K 44 22 0 (r_5 4) from hr_8 4 (by decide)) (by decide))]).trans hf_36
      have hf_541 : f_538 (r_5 4) = .inl (cy 0, 22, .inl (upd g_532 z_31.toNatClampNeg 0)) := by rw [← hfe]; exact va_up_self _ _ _
      clear hfe
      have hI := hI9
      have hfr := hfr9
      clear hI9 hfr9
      have wxΓ_537_MCLS : Γ_537 (46, 22, 0) t0.toNat = Γ_32 (46, 22, 0) t0.toNat := by rw [eΓ_537, tg_r (by decide)]
      have wxΓ_537_EATERS : Γ_537 (47, 6, 0) t0.toNat = Γ_32 (47, 6, 0) t0.toNat := by rw [eΓ_537, tg_r (by decide)]
      have wxΓ_537_MBENDS : Γ_537 (48, 22, 0) t0.toNat = Γ_32 (48, 22, 0) t0.toNat := by rw [eΓ_537, tg_r (by decide)]
      have wxΓ_537_GFROM : Γ_537 (49, 22, 0) t0.toNat = Γ_32 (49, 22, 0) t0.toNat := by rw [eΓ_537, tg_r (by decide)]
      have wxΓ_537_GTO : Γ_537 (50, 22, 0) t0.toNat = Γ_32 (50, 22, 0) t0.toNat := by rw [eΓ_537, tg_r (by decide)]
      have wxΓ_537_MWIDE : Γ_537 (51, 22, 0) t0.toNat = Γ_32 (51, 22, 0) t0.toNat := by rw [eΓ_537, tg_r (by decide)]
      have wsΓ_537 : Γ_537 (44, 22, 0) t0.toNat = (0 : Int) := by rw [eΓ_537]; exact tg_s
      have hrg : rg Γ Γ_537 t0 := hrg.put (by omega) eΓ_537 (by decide) (by decide)
      have htx9 : Γ_537 (42, 3, 0) = Γ (42, 3, 0) := by rw [eΓ_537, tg_rf (by decide)]; exact htx9
      have hgr : ∀ κ : tk_K, κ.1 ∉ ([39, 42, 43, 44, 52, 45, 46, 53, 47, 54, 55, 56, 48, 49, 50, 51] : List Nat) → Γ_537 κ = Γ κ := tg_fr hgr eΓ_537 (by decide)
      have hv_542 : ∀ i : Nat, i < 16 → ((upd v_6 4 z_31) i).toInt = Γ_537 (39, 0, 0) i := fun i hi => by rw [eΓ_537, tg_r (by decide)]; exact hv_33 i hi
      have hx_543 : (v_6 0).toInt = Γ_537 (39, 0, 0) 0 := hv_542 0 (by decide)
      have hx_544 : (v_6 1).toInt = Γ_537 (39, 0, 0) 1 := hv_542 1 (by decide)
      have hx_545 : (v_6 2).toInt = Γ_537 (39, 0, 0) 2 := hv_542 2 (by decide)
      have hx_546 : (v_6 3).toInt = Γ_537 (39, 0, 0) 3 := hv_542 3 (by decide)
      have hx_547 : z_31.toInt = Γ_537 (39, 0, 0) 4 := hv_542 4 (by decide)
      have hx_548 : (v_6 5).toInt = Γ_537 (39, 0, 0) 5 := hv_542 5 (by decide)
      have hx_549 : (v_6 6).toInt = Γ_537 (39, 0, 0) 6 := hv_542 6 (by decide)
      have hx_550 : (v_6 7).toInt = Γ_537 (39, 0, 0) 7 := hv_542 7 (by decide)
      have hx_551 : (v_6 8).toInt = Γ_537 (39, 0, 0) 8 := hv_542 8 (by decide)
      have hg_552 : ∀ j : Nat, j < 3 → (g_20 j).toInt = Γ_537 (42, 3, 0) j := fun j hj => by rw [eΓ_537, tg_r (by decide)]; exact hg_46 j hj
      refine lv_aload_n hx hb dX12_text_52 rfl (lv_at hl 0 rfl) ?_
      refine tp_get (cy := cy) (ci := 12) (v := .ref (r_5 6)) (C := RX12) (T := TX12) (N := 49) hx hb hta inlX12 hown hK hP ho.1 hf_539 rfl 7 (by decide) (hta _ wk_156) (fun _ h9 => h9) rfl dX12_text_53 ?_
      refine lv_aload_n hx hb dX12_text_56 rfl (lv_at hl 0 rfl) ?_
      refine tp_get (cy := cy) (ci := 12) (v := .int z_31) (C := RX12) (T := TX12) (N := 49) hx hb hta inlX12 hown hK hP ho.1 hf_539 rfl 20 (by decide) (hta _ wk_537) (fun _ h9 => h9) rfl dX12_text_57 ?_
      refine lv_iconst (v := 0) hx hb dX12_text_60 (by decide) ?_
      obtain ⟨g_554, hf_553, hg_555⟩ := (show tp_gi cy (22) (Γ_537 (46, 22, 0)) (f_538 (r_5 6)) from hI.at (show tp_r L K 46 22 0 (r_5 6) from hr_8 6 (by decide)))
      have hn_556 : vp_in z_31 (22) := tl_in (by omega) (by omega)
      have hj_557 : z_31.toNatClampNeg = t0.toNat := by show z_31.toInt.toNat = _; omega
      have hv_558 : (0 : Int32).toInt = (0 : Int) := by decide
      obtain ⟨Γ_559, eΓ_559⟩ : ∃ y : tk_G, y = tg Γ_537 (46, 22, 0) t0.toNat (0 : Int) := ⟨_, rfl⟩
      have hI9 : tp_I cy L K Γ_559 (va_up f_538 (r_5 6) (.inl (cy 0, 22, .inl (upd g_554 z_31.toNatClampNeg 0)))) := by have q9 : tg Γ_537 (46, 22, 0) t0.toNat (0 : Int) = tg Γ_537 (46, 22, 0) z_31.toNatClampNeg (0 : Int32).toInt := (by rw [hj_557, hv_558]); rw [eΓ_559, q9]; exact hI.setg hU rfl (show tp_r L K 46 22 0 (r_5 6) from hr_8 6 (by decide)) (show tp_gi cy (22) (tgu (Γ_537 (46, 22, 0)) _ _) _ from ⟨_, rfl, tp_gi_upd hg_555⟩)
      have hfr9 : ∀ b, (K b).1 ∉ ([39, 42, 43, 44, 52, 45, 46, 53, 47, 54, 55, 56, 48, 49, 50, 51] : List Nat) → va_up f_538 (r_5 6) (.inl (cy 0, 22, .inl (upd g_554 z_31.toNatClampNeg 0))) b = f b := tp_fr hfr (show tp_r L K 46 22 0 (r_5 6) from hr_8 6 (by decide)) (by decide)
      refine tp_iast (cy := cy) hx hb hK hP hD hS (show tp_r L K 46 22 0 (r_5 6) from hr_8 6 (by decide)).1 hf_553 hn_556 dX12_text_61 (fun H locs hP hD hS => ?_)
      have hP : va_P D vwCl (va_pl L (va_up f_538 (r_5 6) (.inl (cy 0, 22, .inl (upd g_554 z_31.toNatClampNeg 0))))) H := hP
      generalize hfe : va_up f_538 (r_5 6) (.inl (cy 0, 22, .inl (upd g_554 z_31.toNatClampNeg 0))) = f_560 at hP hI9 hfr9
      have hD : va_D A (va_pl L f_560) := tp_D hL hAL
      have hf_561 := (show f_560 o = _ from by rw [← hfe, va_up_ne _ _ (tp_ne ho (show tp_r L K 46 22 0 (r_5 6) from hr_8 6 (by decide)) (by decide))]).trans hf_539
      have hf_562 := (show f_560 (r_5 2) = _ from by rw [← hfe, va_up_ne _ _ (tp_ne (show tp_r L K 42 3 0 (r_5 2) from hr_8 2 (by decide)) (show tp_r L K 46 22 0 (r_5 6) from hr_8 6 (by decide)) (by decide))]).trans hf_540
      have hf_563 : f_560 (r_5 6) = .inl (cy 0, 22, .inl (upd g_554 z_31.toNatClampNeg 0)) := by rw [← hfe]; exact va_up_self _ _ _
      clear hfe
      have hI := hI9
      have hfr := hfr9
      clear hI9 hfr9
      have wxΓ_559_MLEN : Γ_559 (44, 22, 0) t0.toNat = Γ_537 (44, 22, 0) t0.toNat := by rw [eΓ_559, tg_r (by decide)]
      have wxΓ_559_EATERS : Γ_559 (47, 6, 0) t0.toNat = Γ_537 (47, 6, 0) t0.toNat := by rw [eΓ_559, tg_r (by decide)]
      have wxΓ_559_MBENDS : Γ_559 (48, 22, 0) t0.toNat = Γ_537 (48, 22, 0) t0.toNat := by rw [eΓ_559, tg_r (by decide)]
      have wxΓ_559_GFROM : Γ_559 (49, 22, 0) t0.toNat = Γ_537 (49, 22, 0) t0.toNat := by rw [eΓ_559, tg_r (by decide)]
      have wxΓ_559_GTO : Γ_559 (50, 22, 0) t0.toNat = Γ_537 (50, 22, 0) t0.toNat := by rw [eΓ_559, tg_r (by decide)]
      have wxΓ_559_MWIDE : Γ_559 (51, 22, 0) t0.toNat = Γ_537 (51, 22, 0) t0.toNat := by rw [eΓ_559, tg_r (by decide)]
      have wsΓ_559 : Γ_559 (46, 22, 0) t0.toNat = (0 : Int) := by rw [eΓ_559]; exact tg_s
      have hrg : rg Γ Γ_559 t0 := hrg.put (by omega) eΓ_559 (by decide) (by decide)
      have htx9 : Γ_559 (42, 3, 0) = Γ (42, 3, 0) := by rw [eΓ_559, tg_rf (by decide)]; exact htx9
      have hgr : ∀ κ : tk_K, κ.1 ∉ ([39, 42, 43, 44, 52, 45, 46, 53, 47, 54, 55, 56, 48, 49, 50, 51] : List Nat) → Γ_559 κ = Γ κ := tg_fr hgr eΓ_559 (by decide)
      have hv_564 : ∀ i : Nat, i < 16 → ((upd v_6 4 z_31) i).toInt = Γ_559 (39, 0, 0) i := fun i hi => by rw [eΓ_559, tg_r (by decide)]; exact hv_542 i hi
      have hx_565 : (v_6 0).toInt = Γ_559 (39, 0, 0) 0 := hv_564 0 (by decide)
      have hx_566 : (v_6 1).toInt = Γ_559 (39, 0, 0) 1 := hv_564 1 (by decide)
      have hx_567 : (v_6 2).toInt = Γ_559 (39, 0, 0) 2 := hv_564 2 (by decide)
      have hx_568 : (v_6 3).toInt = Γ_559 (39, 0, 0) 3 := hv_564 3 (by decide)
      have hx_569 : z_31.toInt = Γ_559 (39, 0, 0) 4 := hv_564 4 (by decide)
      have hx_570 : (v_6 5).toInt = Γ_559 (39, 0, 0) 5 := hv_564 5 (by decide)
      have hx_571 : (v_6 6).toInt = Γ_559 (39, 0, 0) 6 := hv_564 6 (by decide)
      have hx_572 : (v_6 7).toInt = Γ_559 (39, 0, 0) 7 := hv_564 7 (by decide)
      have hx_573 : (v_6 8).toInt = Γ_559 (39, 0, 0) 8 := hv_564 8 (by decide)
      have hg_574 : ∀ j : Nat, j < 3 → (g_20 j).toInt = Γ_559 (42, 3, 0) j := fun j hj => by rw [eΓ_559, tg_r (by decide)]; exact hg_552 j hj
      refine lv_iload_n hx hb dX12_text_62 rfl (lv_at hl 1 rfl) ?_
      refine lv_if_ne (tgt := 76) hx hb dX12_text_63 (by decide) (fun c_575 => ?_) (fun c_575 => ?_)
      · have c_575 : ¬ p0.toInt = (0 : Int) := tl_neq c_575
        exact hjn76 f_560 Γ_559  H locs ls (show rg Γ Γ_559 t0 from hrg) (show Γ_559 (42, 3, 0) = Γ (42, 3, 0) from htx9) (show Γ_559 (39, 0, 0) 4 = t0 from (by omega)) (show Γ_559 (39, 0, 0) 0 = Γ (39, 0, 0) 0 from (by omega)) (show Γ_559 (44, 22, 0) t0.toNat = 0 from (by omega)) (show Γ_559 (46, 22, 0) t0.toNat = 0 from (by omega)) (show t0 ≤ 5 → Γ_559 (47, 6, 0) t0.toNat = 0 from (by omega)) (show 0 ≤ Γ_559 (50, 22, 0) t0.toNat ∧ Γ_559 (50, 22, 0) t0.toNat ≤ 299 from (by omega)) hP hI hfr hgr hS (lv_sub hl [0, 1] rfl)
      · have c_575 : p0.toInt = (0 : Int) := tl_eq c_575
        refine lv_aload_n hx hb dX12_text_66 rfl (lv_at hl 0 rfl) ?_
        refine tp_get (cy := cy) (ci := 12) (v := .ref (r_5 8)) (C := RX12) (T := TX12) (N := 49) hx hb hta inlX12 hown hK hP ho.1 hf_561 rfl 9 (by decide) (hta _ wk_158) (fun _ h9 => h9) rfl dX12_text_67 ?_
        refine lv_aload_n hx hb dX12_text_70 rfl (lv_at hl 0 rfl) ?_
        refine tp_get (cy := cy) (ci := 12) (v := .int z_31) (C := RX12) (T := TX12) (N := 49) hx hb hta inlX12 hown hK hP ho.1 hf_561 rfl 20 (by decide) (hta _ wk_537) (fun _ h9 => h9) rfl dX12_text_71 ?_
        refine lv_iconst (v := 0) hx hb dX12_text_74 (by decide) ?_
        obtain ⟨g_577, hf_576, hg_578⟩ := (show tp_gi cy (6) (Γ_559 (47, 6, 0)) (f_560 (r_5 8)) from hI.at (show tp_r L K 47 6 0 (r_5 8) from hr_8 8 (by decide)))
        have hn_579 : vp_in z_31 (6) := tl_in (by omega) (by omega)
        have hj_580 : z_31.toNatClampNeg = t0.toNat := by show z_31.toInt.toNat = _; omega
        have hv_581 : (0 : Int32).toInt = (0 : Int) := by decide
        obtain ⟨Γ_582, eΓ_582⟩ : ∃ y : tk_G, y = tg Γ_559 (47, 6, 0) t0.toNat (0 : Int) := ⟨_, rfl⟩
        have hI9 : tp_I cy L K Γ_582 (va_up f_560 (r_5 8) (.inl (cy 0, 6, .inl (upd g_577 z_31.toNatClampNeg 0)))) := by have q9 : tg Γ_559 (47, 6, 0) t0.toNat (0 : Int) = tg Γ_559 (47, 6, 0) z_31.toNatClampNeg (0 : Int32).toInt := (by rw [hj_580, hv_581]); rw [eΓ_582, q9]; exact hI.setg hU rfl (show tp_r L K 47 6 0 (r_5 8) from hr_8 8 (by decide)) (show tp_gi cy (6) (tgu (Γ_559 (47, 6, 0)) _ _) _ from ⟨_, rfl, tp_gi_upd hg_578⟩)
        have hfr9 : ∀ b, (K b).1 ∉ ([39, 42, 43, 44, 52, 45, 46, 53, 47, 54, 55, 56, 48, 49, 50, 51] : List Nat) → va_up f_560 (r_5 8) (.inl (cy 0, 6, .inl (upd g_577 z_31.toNatClampNeg 0))) b = f b := tp_fr hfr (show tp_r L K 47 6 0 (r_5 8) from hr_8 8 (by decide)) (by decide)
        refine tp_iast (cy := cy) hx hb hK hP hD hS (show tp_r L K 47 6 0 (r_5 8) from hr_8 8 (by decide)).1 hf_576 hn_579 dX12_text_75 (fun H locs hP hD hS => ?_)
        have hP : va_P D vwCl (va_pl L (va_up f_560 (r_5 8) (.inl (cy 0, 6, .inl (upd g_577 z_31.toNatClampNeg 0))))) H := hP
        generalize hfe : va_up f_560 (r_5 8) (.inl (cy 0, 6, .inl (upd g_577 z_31.toNatClampNeg 0))) = f_583 at hP hI9 hfr9
        have hD : va_D A (va_pl L f_583) := tp_D hL hAL
        have hf_584 := (show f_583 o = _ from by rw [← hfe, va_up_ne _ _ (tp_ne ho (show tp_r L K 47 6 0 (r_5 8) from hr_8 8 (by decide)) (by decide))]).trans hf_561
        have hf_585 := (show f_583 (r_5 2) = _ from by rw [← hfe, va_up_ne _ _ (tp_ne (show tp_r L K 42 3 0 (r_5 2) from hr_8 2 (by decide)) (show tp_r L K 47 6 0 (r_5 8) from hr_8 8 (by decide)) (by decide))]).trans hf_562
        have hf_586 : f_583 (r_5 8) = .inl (cy 0, 6, .inl (upd g_577 z_31.toNatClampNeg 0)) := by rw [← hfe]; exact va_up_self _ _ _
        clear hfe
        have hI := hI9
        have hfr := hfr9
        clear hI9 hfr9
        have wxΓ_582_MLEN : Γ_582 (44, 22, 0) t0.toNat = Γ_559 (44, 22, 0) t0.toNat := by rw [eΓ_582, tg_r (by decide)]
        have wxΓ_582_MCLS : Γ_582 (46, 22, 0) t0.toNat = Γ_559 (46, 22, 0) t0.toNat := by rw [eΓ_582, tg_r (by decide)]
        have wxΓ_582_MBENDS : Γ_582 (48, 22, 0) t0.toNat = Γ_559 (48, 22, 0) t0.toNat := by rw [eΓ_582, tg_r (by decide)]
        have wxΓ_582_GFROM : Γ_582 (49, 22, 0) t0.toNat = Γ_559 (49, 22, 0) t0.toNat := by rw [eΓ_582, tg_r (by decide)]
        have wxΓ_582_GTO : Γ_582 (50, 22, 0) t0.toNat = Γ_559 (50, 22, 0) t0.toNat := by rw [eΓ_582, tg_r (by decide)]
        have wxΓ_582_MWIDE : Γ_582 (51, 22, 0) t0.toNat = Γ_559 (51, 22, 0) t0.toNat := by rw [eΓ_582, tg_r (by decide)]
        have wsΓ_582 : Γ_582 (47, 6, 0) t0.toNat = (0 : Int) := by rw [eΓ_582]; exact tg_s
        have hrg : rg Γ Γ_582 t0 := hrg.put (by omega) eΓ_582 (by decide) (by decide)
        have htx9 : Γ_582 (42, 3, 0) = Γ (42, 3, 0) := by rw [eΓ_582, tg_rf (by decide)]; exact htx9
        have hgr : ∀ κ : tk_K, κ.1 ∉ ([39, 42, 43, 44, 52, 45, 46, 53, 47, 54, 55, 56, 48, 49, 50, 51] : List Nat) → Γ_582 κ = Γ κ := tg_fr hgr eΓ_582 (by decide)
        have hv_587 : ∀ i : Nat, i < 16 → ((upd v_6 4 z_31) i).toInt = Γ_582 (39, 0, 0) i := fun i hi => by rw [eΓ_582, tg_r (by decide)]; exact hv_564 i hi
        have hx_588 : (v_6 0).toInt = Γ_582 (39, 0, 0) 0 := hv_587 0 (by decide)
        have hx_589 : (v_6 1).toInt = Γ_582 (39, 0, 0) 1 := hv_587 1 (by decide)
        have hx_590 : (v_6 2).toInt = Γ_582 (39, 0, 0) 2 := hv_587 2 (by decide)
        have hx_591 : (v_6 3).toInt = Γ_582 (39, 0, 0) 3 := hv_587 3 (by decide)
        have hx_592 : z_31.toInt = Γ_582 (39, 0, 0) 4 := hv_587 4 (by decide)
        have hx_593 : (v_6 5).toInt = Γ_582 (39, 0, 0) 5 := hv_587 5 (by decide)
        have hx_594 : (v_6 6).toInt = Γ_582 (39, 0, 0) 6 := hv_587 6 (by decide)
        have hx_595 : (v_6 7).toInt = Γ_582 (39, 0, 0) 7 := hv_587 7 (by decide)
        have hx_596 : (v_6 8).toInt = Γ_582 (39, 0, 0) 8 := hv_587 8 (by decide)
        have hg_597 : ∀ j : Nat, j < 3 → (g_20 j).toInt = Γ_582 (42, 3, 0) j := fun j hj => by rw [eΓ_582, tg_r (by decide)]; exact hg_574 j hj
        exact hjn76 f_583 Γ_582  H locs ls (show rg Γ Γ_582 t0 from hrg) (show Γ_582 (42, 3, 0) = Γ (42, 3, 0) from htx9) (show Γ_582 (39, 0, 0) 4 = t0 from (by omega)) (show Γ_582 (39, 0, 0) 0 = Γ (39, 0, 0) 0 from (by omega)) (show Γ_582 (44, 22, 0) t0.toNat = 0 from (by omega)) (show Γ_582 (46, 22, 0) t0.toNat = 0 from (by omega)) (show t0 ≤ 5 → Γ_582 (47, 6, 0) t0.toNat = 0 from (by omega)) (show 0 ≤ Γ_582 (50, 22, 0) t0.toNat ∧ Γ_582 (50, 22, 0) t0.toNat ≤ 299 from (by omega)) hP hI hfr hgr hS (lv_sub hl [0, 1] rfl)
    · have c_26 : z_23.toInt = r_25.toInt := tl_eq c_26
      refine lv_iconst (v := (-1)) hx hb dX12_text_25 (by decide) ?_
      have hpo9 : tx_ok (Γ (43, 8800, 0)) (Γ (45, 1056, 0)) (Γ (46, 22, 0)) (Γ (47, 6, 0)) (Γ (48, 22, 0)) (Γ (49, 22, 0)) (Γ (50, 22, 0)) (Γ (51, 22, 0)) (Γ (42, 3, 0)) ∧ (0 ≤ Γ (39, 0, 0) 0 ∧ Γ (39, 0, 0) 0 ≤ 400) ∧ Γ (42, 3, 0) 1 ≤ Γ (42, 3, 0) 1 := ⟨htx, (by omega), (by omega)⟩
      exact W.iret (v := (-1)) hx hb hr (fun t ht hW => ⟨⟨_, (f, Γ), rfl, hpo9, by rw [ht]; exact hP, hI, hfr, hgr⟩, hS.F ht⟩) hS.2.2 dX12_text_26
