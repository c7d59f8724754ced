theorem dX12_clauseHere_0 : decode cX12_clauseHere 0 = .ok (.aload_n 0, 1) := by decide +kernel
theorem dX12_clauseHere_1 : decode cX12_clauseHere 1 = .ok (.invokevirtual 167, 3) := by decide +kernel
theorem dX12_clauseHere_4 : decode cX12_clauseHere 4 = .ok (.pop, 1) := by decide +kernel
theorem dX12_clauseHere_5 : decode cX12_clauseHere 5 = .ok (.aload_n 0, 1) := by decide +kernel
theorem dX12_clauseHere_6 : decode cX12_clauseHere 6 = .ok (.getfield 164, 3) := by decide +kernel
theorem dX12_clauseHere_9 : decode cX12_clauseHere 9 = .ok (.istore_n 1, 1) := by decide +kernel
theorem dX12_clauseHere_10 : decode cX12_clauseHere 10 = .ok (.aload_n 0, 1) := by decide +kernel
theorem dX12_clauseHere_11 : decode cX12_clauseHere 11 = .ok (.aload_n 0, 1) := by decide +kernel
theorem dX12_clauseHere_12 : decode cX12_clauseHere 12 = .ok (.getfield 191, 3) := by decide +kernel
theorem dX12_clauseHere_15 : decode cX12_clauseHere 15 = .ok (.invokevirtual 194, 3) := by decide +kernel
theorem dX12_clauseHere_18 : decode cX12_clauseHere 18 = .ok (.istore_n 2, 1) := by decide +kernel
theorem dX12_clauseHere_19 : decode cX12_clauseHere 19 = .ok (.iload_n 2, 1) := by decide +kernel
theorem dX12_clauseHere_20 : decode cX12_clauseHere 20 = .ok (.ifCond .ne 51, 3) := by decide +kernel
theorem dX12_clauseHere_23 : decode cX12_clauseHere 23 = .ok (.aload_n 0, 1) := by decide +kernel
theorem dX12_clauseHere_24 : decode cX12_clauseHere 24 = .ok (.ldc2_w 288, 3) := by decide +kernel
theorem dX12_clauseHere_27 : decode cX12_clauseHere 27 = .ok (.invokevirtual 174, 3) := by decide +kernel
theorem dX12_clauseHere_30 : decode cX12_clauseHere 30 = .ok (.ifCond .ne 33, 3) := by decide +kernel
theorem dX12_clauseHere_33 : decode cX12_clauseHere 33 = .ok (.aload_n 0, 1) := by decide +kernel
theorem dX12_clauseHere_34 : decode cX12_clauseHere 34 = .ok (.ldc2_w 290, 3) := by decide +kernel
theorem dX12_clauseHere_37 : decode cX12_clauseHere 37 = .ok (.invokevirtual 174, 3) := by decide +kernel
theorem dX12_clauseHere_40 : decode cX12_clauseHere 40 = .ok (.ifCond .ne 23, 3) := by decide +kernel
theorem dX12_clauseHere_43 : decode cX12_clauseHere 43 = .ok (.aload_n 0, 1) := by decide +kernel
theorem dX12_clauseHere_44 : decode cX12_clauseHere 44 = .ok (.ldc2_w 292, 3) := by decide +kernel
theorem dX12_clauseHere_47 : decode cX12_clauseHere 47 = .ok (.invokevirtual 174, 3) := by decide +kernel
theorem dX12_clauseHere_50 : decode cX12_clauseHere 50 = .ok (.ifCond .ne 13, 3) := by decide +kernel
theorem dX12_clauseHere_53 : decode cX12_clauseHere 53 = .ok (.aload_n 0, 1) := by decide +kernel
theorem dX12_clauseHere_54 : decode cX12_clauseHere 54 = .ok (.ldc2_w 294, 3) := by decide +kernel
theorem dX12_clauseHere_57 : decode cX12_clauseHere 57 = .ok (.invokevirtual 174, 3) := by decide +kernel
theorem dX12_clauseHere_60 : decode cX12_clauseHere 60 = .ok (.ifCond .eq 7, 3) := by decide +kernel
theorem dX12_clauseHere_63 : decode cX12_clauseHere 63 = .ok (.iconst 1, 1) := by decide +kernel
theorem dX12_clauseHere_64 : decode cX12_clauseHere 64 = .ok (.goto 67, 3) := by decide +kernel
theorem dX12_clauseHere_67 : decode cX12_clauseHere 67 = .ok (.iconst 0, 1) := by decide +kernel
theorem dX12_clauseHere_68 : decode cX12_clauseHere 68 = .ok (.goto 63, 3) := by decide +kernel
theorem dX12_clauseHere_71 : decode cX12_clauseHere 71 = .ok (.iload_n 2, 1) := by decide +kernel
theorem dX12_clauseHere_72 : decode cX12_clauseHere 72 = .ok (.iconst 1, 1) := by decide +kernel
theorem dX12_clauseHere_73 : decode cX12_clauseHere 73 = .ok (.if_icmp .ne 51, 3) := by decide +kernel
theorem dX12_clauseHere_76 : decode cX12_clauseHere 76 = .ok (.aload_n 0, 1) := by decide +kernel
theorem dX12_clauseHere_77 : decode cX12_clauseHere 77 = .ok (.ldc2_w 296, 3) := by decide +kernel
theorem dX12_clauseHere_80 : decode cX12_clauseHere 80 = .ok (.invokevirtual 174, 3) := by decide +kernel
theorem dX12_clauseHere_83 : decode cX12_clauseHere 83 = .ok (.ifCond .ne 33, 3) := by decide +kernel
theorem dX12_clauseHere_86 : decode cX12_clauseHere 86 = .ok (.aload_n 0, 1) := by decide +kernel
theorem dX12_clauseHere_87 : decode cX12_clauseHere 87 = .ok (.ldc2_w 298, 3) := by decide +kernel
theorem dX12_clauseHere_90 : decode cX12_clauseHere 90 = .ok (.invokevirtual 174, 3) := by decide +kernel
theorem dX12_clauseHere_93 : decode cX12_clauseHere 93 = .ok (.ifCond .ne 23, 3) := by decide +kernel
theorem dX12_clauseHere_96 : decode cX12_clauseHere 96 = .ok (.aload_n 0, 1) := by decide +kernel
theorem dX12_clauseHere_97 : decode cX12_clauseHere 97 = .ok (.ldc2_w 300, 3) := by decide +kernel
theorem dX12_clauseHere_100 : decode cX12_clauseHere 100 = .ok (.invokevirtual 174, 3) := by decide +kernel
theorem dX12_clauseHere_103 : decode cX12_clauseHere 103 = .ok (.ifCond .ne 13, 3) := by decide +kernel
theorem dX12_clauseHere_106 : decode cX12_clauseHere 106 = .ok (.aload_n 0, 1) := by decide +kernel
theorem dX12_clauseHere_107 : decode cX12_clauseHere 107 = .ok (.ldc2_w 302, 3) := by decide +kernel
theorem dX12_clauseHere_110 : decode cX12_clauseHere 110 = .ok (.invokevirtual 174, 3) := by decide +kernel
theorem dX12_clauseHere_113 : decode cX12_clauseHere 113 = .ok (.ifCond .eq 7, 3) := by decide +kernel
theorem dX12_clauseHere_116 : decode cX12_clauseHere 116 = .ok (.iconst 1, 1) := by decide +kernel
theorem dX12_clauseHere_117 : decode cX12_clauseHere 117 = .ok (.goto 14, 3) := by decide +kernel
theorem dX12_clauseHere_120 : decode cX12_clauseHere 120 = .ok (.iconst 0, 1) := by decide +kernel
theorem dX12_clauseHere_121 : decode cX12_clauseHere 121 = .ok (.goto 10, 3) := by decide +kernel
theorem dX12_clauseHere_124 : decode cX12_clauseHere 124 = .ok (.aload_n 0, 1) := by decide +kernel
theorem dX12_clauseHere_125 : decode cX12_clauseHere 125 = .ok (.ldc2_w 304, 3) := by decide +kernel
theorem dX12_clauseHere_128 : decode cX12_clauseHere 128 = .ok (.invokevirtual 174, 3) := by decide +kernel
theorem dX12_clauseHere_131 : decode cX12_clauseHere 131 = .ok (.istore_n 3, 1) := by decide +kernel
theorem dX12_clauseHere_132 : decode cX12_clauseHere 132 = .ok (.iload_n 3, 1) := by decide +kernel
theorem dX12_clauseHere_133 : decode cX12_clauseHere 133 = .ok (.ifCond .ne 10, 3) := by decide +kernel
theorem dX12_clauseHere_136 : decode cX12_clauseHere 136 = .ok (.aload_n 0, 1) := by decide +kernel
theorem dX12_clauseHere_137 : decode cX12_clauseHere 137 = .ok (.iconst 0, 1) := by decide +kernel
theorem dX12_clauseHere_138 : decode cX12_clauseHere 138 = .ok (.iload_n 1, 1) := by decide +kernel
theorem dX12_clauseHere_139 : decode cX12_clauseHere 139 = .ok (.invokevirtual 184, 3) := by decide +kernel
theorem dX12_clauseHere_142 : decode cX12_clauseHere 142 = .ok (.ireturn, 1) := by decide +kernel
theorem dX12_clauseHere_143 : decode cX12_clauseHere 143 = .ok (.aload_n 0, 1) := by decide +kernel
theorem dX12_clauseHere_144 : decode cX12_clauseHere 144 = .ok (.getfield 306, 3) := by decide +kernel
theorem dX12_clauseHere_147 : decode cX12_clauseHere 147 = .ok (.bipush 12, 2) := by decide +kernel
theorem dX12_clauseHere_149 : decode cX12_clauseHere 149 = .ok (.if_icmp .ne 10, 3) := by decide +kernel
theorem dX12_clauseHere_152 : decode cX12_clauseHere 152 = .ok (.aload_n 0, 1) := by decide +kernel
theorem dX12_clauseHere_153 : decode cX12_clauseHere 153 = .ok (.iconst 4, 1) := by decide +kernel
theorem dX12_clauseHere_154 : decode cX12_clauseHere 154 = .ok (.iload_n 1, 1) := by decide +kernel
theorem dX12_clauseHere_155 : decode cX12_clauseHere 155 = .ok (.invokevirtual 184, 3) := by decide +kernel
theorem dX12_clauseHere_158 : decode cX12_clauseHere 158 = .ok (.ireturn, 1) := by decide +kernel
theorem dX12_clauseHere_159 : decode cX12_clauseHere 159 = .ok (.aload_n 0, 1) := by decide +kernel
theorem dX12_clauseHere_160 : decode cX12_clauseHere 160 = .ok (.dup, 1) := by decide +kernel
theorem dX12_clauseHere_161 : decode cX12_clauseHere 161 = .ok (.getfield 306, 3) := by decide +kernel
theorem dX12_clauseHere_164 : decode cX12_clauseHere 164 = .ok (.iconst 1, 1) := by decide +kernel
theorem dX12_clauseHere_165 : decode cX12_clauseHere 165 = .ok (.iadd, 1) := by decide +kernel
theorem dX12_clauseHere_166 : decode cX12_clauseHere 166 = .ok (.putfield 306, 3) := by decide +kernel
theorem dX12_clauseHere_169 : decode cX12_clauseHere 169 = .ok (.aload_n 0, 1) := by decide +kernel
theorem dX12_clauseHere_170 : decode cX12_clauseHere 170 = .ok (.ldc2_w 290, 3) := by decide +kernel
theorem dX12_clauseHere_173 : decode cX12_clauseHere 173 = .ok (.invokevirtual 174, 3) := by decide +kernel
theorem dX12_clauseHere_176 : decode cX12_clauseHere 176 = .ok (.ifCond .eq 9, 3) := by decide +kernel
theorem dX12_clauseHere_179 : decode cX12_clauseHere 179 = .ok (.aload_n 0, 1) := by decide +kernel
theorem dX12_clauseHere_180 : decode cX12_clauseHere 180 = .ok (.iload_n 1, 1) := by decide +kernel
theorem dX12_clauseHere_181 : decode cX12_clauseHere 181 = .ok (.invokevirtual 309, 3) := by decide +kernel
theorem dX12_clauseHere_184 : decode cX12_clauseHere 184 = .ok (.ireturn, 1) := by decide +kernel
theorem dX12_clauseHere_185 : decode cX12_clauseHere 185 = .ok (.aload_n 0, 1) := by decide +kernel
theorem dX12_clauseHere_186 : decode cX12_clauseHere 186 = .ok (.ldc2_w 292, 3) := by decide +kernel
theorem dX12_clauseHere_189 : decode cX12_clauseHere 189 = .ok (.invokevirtual 174, 3) := by decide +kernel
theorem dX12_clauseHere_192 : decode cX12_clauseHere 192 = .ok (.ifCond .eq 17, 3) := by decide +kernel
theorem dX12_clauseHere_195 : decode cX12_clauseHere 195 = .ok (.aload_n 0, 1) := by decide +kernel
theorem dX12_clauseHere_196 : decode cX12_clauseHere 196 = .ok (.aload_n 0, 1) := by decide +kernel
theorem dX12_clauseHere_197 : decode cX12_clauseHere 197 = .ok (.getfield 44, 3) := by decide +kernel
theorem dX12_clauseHere_200 : decode cX12_clauseHere 200 = .ok (.iconst 0, 1) := by decide +kernel
theorem dX12_clauseHere_201 : decode cX12_clauseHere 201 = .ok (.sipush 9999, 3) := by decide +kernel
theorem dX12_clauseHere_204 : decode cX12_clauseHere 204 = .ok (.iload_n 1, 1) := by decide +kernel
theorem dX12_clauseHere_205 : decode cX12_clauseHere 205 = .ok (.invokevirtual 284, 3) := by decide +kernel
theorem dX12_clauseHere_208 : decode cX12_clauseHere 208 = .ok (.ireturn, 1) := by decide +kernel
theorem dX12_clauseHere_209 : decode cX12_clauseHere 209 = .ok (.aload_n 0, 1) := by decide +kernel
theorem dX12_clauseHere_210 : decode cX12_clauseHere 210 = .ok (.ldc2_w 294, 3) := by decide +kernel
theorem dX12_clauseHere_213 : decode cX12_clauseHere 213 = .ok (.invokevirtual 174, 3) := by decide +kernel
theorem dX12_clauseHere_216 : decode cX12_clauseHere 216 = .ok (.ifCond .eq 8, 3) := by decide +kernel
theorem dX12_clauseHere_219 : decode cX12_clauseHere 219 = .ok (.aload_n 0, 1) := by decide +kernel
theorem dX12_clauseHere_220 : decode cX12_clauseHere 220 = .ok (.invokevirtual 312, 3) := by decide +kernel
theorem dX12_clauseHere_223 : decode cX12_clauseHere 223 = .ok (.ireturn, 1) := by decide +kernel
theorem dX12_clauseHere_224 : decode cX12_clauseHere 224 = .ok (.aload_n 0, 1) := by decide +kernel
theorem dX12_clauseHere_225 : decode cX12_clauseHere 225 = .ok (.ldc2_w 296, 3) := by decide +kernel
theorem dX12_clauseHere_228 : decode cX12_clauseHere 228 = .ok (.invokevirtual 174, 3) := by decide +kernel
theorem dX12_clauseHere_231 : decode cX12_clauseHere 231 = .ok (.ifCond .eq 16, 3) := by decide +kernel
theorem dX12_clauseHere_234 : decode cX12_clauseHere 234 = .ok (.aload_n 0, 1) := by decide +kernel
theorem dX12_clauseHere_235 : decode cX12_clauseHere 235 = .ok (.aload_n 0, 1) := by decide +kernel
theorem dX12_clauseHere_236 : decode cX12_clauseHere 236 = .ok (.getfield 47, 3) := by decide +kernel
theorem dX12_clauseHere_239 : decode cX12_clauseHere 239 = .ok (.iconst 0, 1) := by decide +kernel
theorem dX12_clauseHere_240 : decode cX12_clauseHere 240 = .ok (.bipush 40, 2) := by decide +kernel
theorem dX12_clauseHere_242 : decode cX12_clauseHere 242 = .ok (.iload_n 1, 1) := by decide +kernel
theorem dX12_clauseHere_243 : decode cX12_clauseHere 243 = .ok (.invokevirtual 284, 3) := by decide +kernel
theorem dX12_clauseHere_246 : decode cX12_clauseHere 246 = .ok (.ireturn, 1) := by decide +kernel
theorem dX12_clauseHere_247 : decode cX12_clauseHere 247 = .ok (.aload_n 0, 1) := by decide +kernel
theorem dX12_clauseHere_248 : decode cX12_clauseHere 248 = .ok (.ldc2_w 298, 3) := by decide +kernel
theorem dX12_clauseHere_251 : decode cX12_clauseHere 251 = .ok (.invokevirtual 174, 3) := by decide +kernel
theorem dX12_clauseHere_254 : decode cX12_clauseHere 254 = .ok (.ifCond .eq 9, 3) := by decide +kernel
theorem dX12_clauseHere_257 : decode cX12_clauseHere 257 = .ok (.aload_n 0, 1) := by decide +kernel
theorem dX12_clauseHere_258 : decode cX12_clauseHere 258 = .ok (.iload_n 1, 1) := by decide +kernel
theorem dX12_clauseHere_259 : decode cX12_clauseHere 259 = .ok (.invokevirtual 315, 3) := by decide +kernel
theorem dX12_clauseHere_262 : decode cX12_clauseHere 262 = .ok (.ireturn, 1) := by decide +kernel
theorem dX12_clauseHere_263 : decode cX12_clauseHere 263 = .ok (.aload_n 0, 1) := by decide +kernel
theorem dX12_clauseHere_264 : decode cX12_clauseHere 264 = .ok (.ldc2_w 300, 3) := by decide +kernel
theorem dX12_clauseHere_267 : decode cX12_clauseHere 267 = .ok (.invokevirtual 174, 3) := by decide +kernel
theorem dX12_clauseHere_270 : decode cX12_clauseHere 270 = .ok (.ifCond .eq 18, 3) := by decide +kernel
theorem dX12_clauseHere_273 : decode cX12_clauseHere 273 = .ok (.aload_n 0, 1) := by decide +kernel
theorem dX12_clauseHere_274 : decode cX12_clauseHere 274 = .ok (.aload_n 0, 1) := by decide +kernel
theorem dX12_clauseHere_275 : decode cX12_clauseHere 275 = .ok (.getfield 56, 3) := by decide +kernel
theorem dX12_clauseHere_278 : decode cX12_clauseHere 278 = .ok (.iconst 0, 1) := by decide +kernel
theorem dX12_clauseHere_279 : decode cX12_clauseHere 279 = .ok (.bipush 50, 2) := by decide +kernel
theorem dX12_clauseHere_281 : decode cX12_clauseHere 281 = .ok (.iload_n 1, 1) := by decide +kernel
theorem dX12_clauseHere_282 : decode cX12_clauseHere 282 = .ok (.invokevirtual 284, 3) := by decide +kernel
theorem dX12_clauseHere_285 : decode cX12_clauseHere 285 = .ok (.goto 22, 3) := by decide +kernel
theorem dX12_clauseHere_288 : decode cX12_clauseHere 288 = .ok (.aload_n 0, 1) := by decide +kernel
theorem dX12_clauseHere_289 : decode cX12_clauseHere 289 = .ok (.aload_n 0, 1) := by decide +kernel
theorem dX12_clauseHere_290 : decode cX12_clauseHere 290 = .ok (.ldc2_w 302, 3) := by decide +kernel
theorem dX12_clauseHere_293 : decode cX12_clauseHere 293 = .ok (.invokevirtual 174, 3) := by decide +kernel
theorem dX12_clauseHere_296 : decode cX12_clauseHere 296 = .ok (.ifCond .ne 7, 3) := by decide +kernel
theorem dX12_clauseHere_299 : decode cX12_clauseHere 299 = .ok (.iconst 1, 1) := by decide +kernel
theorem dX12_clauseHere_300 : decode cX12_clauseHere 300 = .ok (.goto 4, 3) := by decide +kernel
theorem dX12_clauseHere_303 : decode cX12_clauseHere 303 = .ok (.iconst 0, 1) := by decide +kernel
theorem dX12_clauseHere_304 : decode cX12_clauseHere 304 = .ok (.invokevirtual 318, 3) := by decide +kernel
theorem dX12_clauseHere_307 : decode cX12_clauseHere 307 = .ok (.ireturn, 1) := by decide +kernel
theorem wk_538 : Cond.fieldLink RX12 306 "ThinLineModel" "lines" "I" ∈ tl_L := List.mem_filter.mpr ⟨by decide +kernel, rfl⟩
theorem wk_552 : Cond.constantLong RX12 288 (495672979045) ∈ tl_L := List.mem_filter.mpr ⟨by decide +kernel, rfl⟩
theorem wk_553 : Cond.constantLong RX12 290 (125797183548517) ∈ tl_L := List.mem_filter.mpr ⟨by decide +kernel, rfl⟩
theorem wk_554 : Cond.constantLong RX12 292 (474315584357) ∈ tl_L := List.mem_filter.mpr ⟨by decide +kernel, rfl⟩
theorem wk_555 : Cond.constantLong RX12 294 (1700885619) ∈ tl_L := List.mem_filter.mpr ⟨by decide +kernel, rfl⟩
theorem wk_556 : Cond.constantLong RX12 296 (422608528499) ∈ tl_L := List.mem_filter.mpr ⟨by decide +kernel, rfl⟩
theorem wk_557 : Cond.constantLong RX12 298 (6775152) ∈ tl_L := List.mem_filter.mpr ⟨by decide +kernel, rfl⟩
theorem wk_558 : Cond.constantLong RX12 300 (2003395685) ∈ tl_L := List.mem_filter.mpr ⟨by decide +kernel, rfl⟩
theorem wk_559 : Cond.constantLong RX12 302 (1936419184) ∈ tl_L := List.mem_filter.mpr ⟨by decide +kernel, rfl⟩
theorem wk_560 : Cond.constantLong RX12 304 (444150998387) ∈ tl_L := List.mem_filter.mpr ⟨by decide +kernel, rfl⟩
theorem wk_581 : Cond.methodLink RX12 309 yX12_rippled ∈ tl_L := List.mem_filter.mpr ⟨by decide +kernel, rfl⟩
theorem wk_582 : Cond.instanceMethod yX12_rippled ∈ tl_L := List.mem_filter.mpr ⟨by decide +kernel, rfl⟩
theorem wk_583 : Cond.selects RX12 yX12_rippled yX12_rippled ∈ tl_L := List.mem_filter.mpr ⟨by decide +kernel, rfl⟩
theorem wk_584 : Cond.code yX12_rippled cX12_rippled 2 (some .boolean) ∈ tl_L := List.mem_filter.mpr ⟨List.mem_of_getElem? (i := 1712) (by decide +kernel), rfl⟩
theorem wk_602 : Cond.methodLink RX12 312 yX12_eaten ∈ tl_L := List.mem_filter.mpr ⟨by decide +kernel, rfl⟩
theorem wk_603 : Cond.instanceMethod yX12_eaten ∈ tl_L := List.mem_filter.mpr ⟨by decide +kernel, rfl⟩
theorem wk_604 : Cond.selects RX12 yX12_eaten yX12_eaten ∈ tl_L := List.mem_filter.mpr ⟨by decide +kernel, rfl⟩
theorem wk_605 : Cond.code yX12_eaten cX12_eaten 2 (some .boolean) ∈ tl_L := List.mem_filter.mpr ⟨List.mem_of_getElem? (i := 1732) (by decide +kernel), rfl⟩
theorem wk_606 : Cond.methodLink RX12 315 yX12_gapped ∈ tl_L := List.mem_filter.mpr ⟨by decide +kernel, rfl⟩
theorem wk_607 : Cond.instanceMethod yX12_gapped ∈ tl_L := List.mem_filter.mpr ⟨by decide +kernel, rfl⟩
theorem wk_608 : Cond.selects RX12 yX12_gapped yX12_gapped ∈ tl_L := List.mem_filter.mpr ⟨by decide +kernel, rfl⟩
theorem wk_609 : Cond.code yX12_gapped cX12_gapped 2 (some .boolean) ∈ tl_L := List.mem_filter.mpr ⟨List.mem_of_getElem? (i := 1736) (by decide +kernel), rfl⟩
theorem wk_610 : Cond.methodLink RX12 318 yX12_clauseOf ∈ tl_L := List.mem_filter.mpr ⟨by decide +kernel, rfl⟩
theorem wk_611 : Cond.instanceMethod yX12_clauseOf ∈ tl_L := List.mem_filter.mpr ⟨by decide +kernel, rfl⟩
theorem wk_612 : Cond.selects RX12 yX12_clauseOf yX12_clauseOf ∈ tl_L := List.mem_filter.mpr ⟨by decide +kernel, rfl⟩
theorem wk_613 : Cond.code yX12_clauseOf cX12_clauseOf 3 (some .boolean) ∈ tl_L := List.mem_filter.mpr ⟨List.mem_of_getElem? (i := 1740) (by decide +kernel), rfl⟩
theorem lk_X12_309 : tl_kV RX12 309 RX12 yX12_rippled cX12_rippled 2 (some .boolean) 1 := ⟨wk_584, wk_581, wk_582, wk_583, wk_5, ⟨by decide +kernel, by decide +kernel, by decide +kernel⟩⟩
theorem lk_X12_312 : tl_kV RX12 312 RX12 yX12_eaten cX12_eaten 2 (some .boolean) 0 := ⟨wk_605, wk_602, wk_603, wk_604, wk_5, ⟨by decide +kernel, by decide +kernel, by decide +kernel⟩⟩
theorem lk_X12_315 : tl_kV RX12 315 RX12 yX12_gapped cX12_gapped 2 (some .boolean) 1 := ⟨wk_609, wk_606, wk_607, wk_608, wk_5, ⟨by decide +kernel, by decide +kernel, by decide +kernel⟩⟩
theorem lk_X12_318 : tl_kV RX12 318 RX12 yX12_clauseOf cX12_clauseOf 3 (some .boolean) 1 := ⟨wk_613, wk_610, wk_611, wk_612, wk_5, ⟨by decide +kernel, by decide +kernel, by decide +kernel⟩⟩
set_option maxHeartbeats 4000000 in
set_option maxRecDepth 100000 in
theorem r_X12_clauseHere (l : Launch) (D : va_G) (cy : Nat → ClassId) (sz : Nat) (L : List Nat) (K : Nat → tk_K) (Γ : tk_G) (f : Nat → va_E) (o : Nat) (τ : Nat → Int) (T0 : Int) (t0 : Int) (ho : tp_r L K 39 (0) 0 o) (ht : Γ (41, 400, 0) = τ) (hT : Γ (39, 0, 0) 0 = T0) (hb0 : 0 ≤ Γ (39, 0, 0) 1 ∧ Γ (39, 0, 0) 1 ≤ T0 ∧ T0 ≤ 400) (h4 : Γ (39, 0, 0) 4 = t0 ∧ 0 ≤ t0 ∧ t0 ≤ 21) (hrb : rb Γ t0) (hrq : rq Γ t0) : Met l yX12_clauseHere (tl_w yX12_clauseHere cX12_clauseHere 4 (some .boolean)) ({ frames := 10, cells := 0, slots := 0, locals := 220 }) (va_Pc [.ref o] (tp_P D cy L K Γ f sz)) (va_Qi (fun (r : Int32) (u : (Nat → va_E) × tk_G) => tl_J r (rq u.2 t0) ∧ u.2 (39, 0, 0) 0 = Γ (39, 0, 0) 0 ∧ u.2 (39, 0, 0) 4 = Γ (39, 0, 0) 4 ∧ Γ (39, 0, 0) 1 ≤ u.2 (39, 0, 0) 1 ∧ u.2 (39, 0, 0) 1 ≤ T0 ∧ rg Γ u.2 t0 ∧ rb u.2 t0) (tp_BG D cy L K Γ f [39, 43, 44, 52, 45, 46, 53, 47, 54, 55, 56, 48, 49, 50, 51]) (tp_A L sz)) 0 0 (tp_A L sz) := by
  refine Met.ofW (cc := cX12_clauseHere) (maxL := 4) (ret := (some .boolean)) (by decide) rfl ?_
  intro p e s m args below meth c s₁ B hml hv
  obtain ⟨rfl, hsz, hP, hK, hL, hI, hN, hU⟩ := hv
  have hx := B.exec
  have hb := B.bytes
  have hr := B.returns
  have hta := tl_hta (atoms_spec (ws := tl_w yX12_clauseHere cX12_clauseHere 4 (some .boolean)) B.pre)
  have hown : s.vm.findClass RX12 = some m.cls := findClass_of_methodNamed B.named
  have hlocks := B.notSynchronized
  subst hsz
  have hI0 := hI
  generalize hAe : tp_A L s.heap.size = A
  have hA : ∀ q : Nat, s.heap.size ≤ q → A q := fun q h => by rw [← hAe]; exact Or.inr h
  have hAL : ∀ q ∈ L, A q := fun q h => by rw [← hAe]; exact Or.inl h
  have hAf : ∀ (H : Heap), s.heap.size ≤ H.size → ∀ q, tp_A L H.size q → A q := fun H h q hq => hq.elim (hAL q) (fun h2 => hA q (Nat.le_trans h h2))
  have hS : va_S A s.heap s.heap [] := va_S.rf
  have hD : va_D A (va_pl L f) := tp_D hL hAL
  have hfr : ∀ b, (K b).1 ∉ ([39, 43, 44, 52, 45, 46, 53, 47, 54, 55, 56, 48, 49, 50, 51] : List Nat) → f b = f b := fun _ _ => rfl
  have hgr : ∀ κ : tk_K, κ.1 ∉ ([39, 43, 44, 52, 45, 46, 53, 47, 54, 55, 56, 48, 49, 50, 51] : List Nat) → Γ κ = Γ κ := fun _ _ => rfl
  have hl := lv_entry ([.ref o]) (n := 4) (Nat.le_of_ble_eq_true rfl)
  rw [lg_entry_eq]
  generalize (lg_sl ([.ref o]) ++ List.replicate (4 - (lg_sl ([.ref o])).length) Slot.unset).toArray = ls at hl ⊢
  have hl : lv_has ls 4 [(0, .ref o)] := hl
  have hgM : ∀ κ : tk_K, κ.1 ∉ ([39] : List Nat) → Γ κ = Γ κ := fun _ _ => rfl
  obtain ⟨r1, r2, r3, r4, r5, r6⟩ := id hrq
  obtain ⟨b1, b2, b3, b4, b5, b6, b7⟩ := id hrb
  refine lv_aload_n hx hb dX12_clauseHere_0 rfl (lv_at hl 0 rfl) ?_
  obtain ⟨r_2, v_3, q_4, hf_1, hr_5, hv_6⟩ := (show tp_o_M L K 0 0 (Γ (39, 0, 0)) (f o) from hI.at ho)
  have hx_7 : (v_3 0).toInt = Γ (39, 0, 0) 0 := hv_6 0 (by decide)
  have hx_8 : (v_3 1).toInt = Γ (39, 0, 0) 1 := hv_6 1 (by decide)
  have hx_9 : (v_3 3).toInt = Γ (39, 0, 0) 3 := hv_6 3 (by decide)
  have hx_10 : (v_3 4).toInt = Γ (39, 0, 0) 4 := hv_6 4 (by decide)
  have hx_11 : (v_3 5).toInt = Γ (39, 0, 0) 5 := hv_6 5 (by decide)
  have hx_12 : (v_3 6).toInt = Γ (39, 0, 0) 6 := hv_6 6 (by decide)
  have hx_13 : (v_3 7).toInt = Γ (39, 0, 0) 7 := hv_6 7 (by decide)
  have hx_14 : (v_3 8).toInt = Γ (39, 0, 0) 8 := hv_6 8 (by decide)
  refine tq_ciR hS (hAf _ hS.1) (tq_rV (As := []) (rest := []) ⟨hx, hb, hml, hown, hta⟩ (tp_P.pre hK hN hL hU hI hP) (tp_recv hK hP ho.1 hf_1 rfl) lk_X12_167 (r_X12_see l D cy s.heap.size L K Γ f o τ T0 ho ht (by first | omega | (simp only [Int32.toInt_toInt64]; omega) | decide | assumption) (by first | omega | (simp only [Int32.toInt_toInt64]; omega) | decide | assumption)) rfl rfl ⟨Nat.le_of_ble_eq_true rfl, Nat.le_of_ble_eq_true rfl⟩ rfl hl.1 rfl (Nat.le_of_ble_eq_true rfl) dX12_clauseHere_1 ⟨Nat.le_of_ble_eq_true rfl, Nat.le_of_ble_eq_true rfl⟩) (fun r_16 f_17 Γ_19 H locs hw_15 hP hI hc_18 hcg_20 hS => ?_)
  have hD : va_D A (va_pl L f_17) := tp_D hL hAL
  have hfr := tp_fr2 hfr hc_18 (by decide)
  have hgr : ∀ κ : tk_K, κ.1 ∉ ([39, 43, 44, 52, 45, 46, 53, 47, 54, 55, 56, 48, 49, 50, 51] : List Nat) → Γ_19 κ = Γ κ := tg_fr2 hgr hcg_20 (by decide)
  have hw_15 : Γ_19 (39, 0, 0) 0 = Γ (39, 0, 0) 0 ∧ Γ_19 (39, 0, 0) 3 = Γ (39, 0, 0) 3 ∧ Γ_19 (39, 0, 0) 4 = Γ (39, 0, 0) 4 ∧ Γ_19 (39, 0, 0) 5 = Γ (39, 0, 0) 5 ∧ Γ_19 (39, 0, 0) 6 = Γ (39, 0, 0) 6 ∧ Γ_19 (39, 0, 0) 7 = Γ (39, 0, 0) 7 ∧ Γ_19 (39, 0, 0) 8 = Γ (39, 0, 0) 8 ∧ Γ (39, 0, 0) 1 ≤ Γ_19 (39, 0, 0) 1 ∧ Γ_19 (39, 0, 0) 1 ≤ T0 ∧ (¬ τ (Γ (39, 0, 0) 1).toNat = 32 → Γ_19 (39, 0, 0) 1 = Γ (39, 0, 0) 1) ∧ ((r_16.toInt = -1 ∧ Γ_19 (39, 0, 0) 1 = T0) ∨ (0 ≤ r_16.toInt ∧ r_16.toInt ≤ 255 ∧ Γ_19 (39, 0, 0) 1 < T0 ∧ ¬ τ (Γ_19 (39, 0, 0) 1).toNat = 32)) := hw_15
  have hgM : ∀ κ : tk_K, κ.1 ∉ ([39] : List Nat) → Γ_19 κ = Γ κ := tg_fr2 hgM hcg_20 (by decide)
  refine lv_pop hx hb dX12_clauseHere_4 rfl ?_
  refine lv_aload_n hx hb dX12_clauseHere_5 rfl (lv_at hl 0 rfl) ?_
  obtain ⟨r_22, v_23, q_24, hf_21, hr_25, hv_26⟩ := (show tp_o_M L K 0 0 (Γ_19 (39, 0, 0)) (f_17 o) from hI.at ho)
  have hx_27 : (v_23 0).toInt = Γ_19 (39, 0, 0) 0 := hv_26 0 (by decide)
  have hx_28 : (v_23 1).toInt = Γ_19 (39, 0, 0) 1 := hv_26 1 (by decide)
  have hx_29 : (v_23 3).toInt = Γ_19 (39, 0, 0) 3 := hv_26 3 (by decide)
  have hx_30 : (v_23 4).toInt = Γ_19 (39, 0, 0) 4 := hv_26 4 (by decide)
  have hx_31 : (v_23 5).toInt = Γ_19 (39, 0, 0) 5 := hv_26 5 (by decide)
  have hx_32 : (v_23 6).toInt = Γ_19 (39, 0, 0) 6 := hv_26 6 (by decide)
  have hx_33 : (v_23 7).toInt = Γ_19 (39, 0, 0) 7 := hv_26 7 (by decide)
  have hx_34 : (v_23 8).toInt = Γ_19 (39, 0, 0) 8 := hv_26 8 (by decide)
  refine tp_get (cy := cy) (ci := 12) (v := .int (v_23 1)) (C := RX12) (T := TX12) (N := 49) hx hb hta inlX12 hown hK hP ho.1 hf_21 rfl 17 (by decide) (hta _ wk_539) (fun _ h9 => h9) rfl dX12_clauseHere_6 ?_
  refine lv_istore_n (lv' := [(1, .int (v_23 1)), (0, .ref o)]) hx hb dX12_clauseHere_9 rfl hl (by decide) rfl (fun ls hl => ?_)
  have hjn132 : ∀ (f_35 : Nat → va_E) (Γ_36 : tk_G) (u3 : Int32) (H : Heap) (locs : List Loc) (ls : Array Slot), (Γ_36 (39, 0, 0) 0 = Γ (39, 0, 0) 0) → (Γ_36 (39, 0, 0) 3 = Γ (39, 0, 0) 3) → (Γ_36 (39, 0, 0) 4 = Γ (39, 0, 0) 4) → (Γ_36 (39, 0, 0) 5 = Γ (39, 0, 0) 5) → (Γ_36 (39, 0, 0) 6 = Γ (39, 0, 0) 6) → (Γ_36 (39, 0, 0) 7 = Γ (39, 0, 0) 7) → (Γ_36 (39, 0, 0) 8 = Γ (39, 0, 0) 8) → (Γ (39, 0, 0) 1 ≤ Γ_36 (39, 0, 0) 1 ∧ Γ_36 (39, 0, 0) 1 ≤ T0) → (∀ κ : tk_K, κ.1 ∉ ([39] : List Nat) → Γ_36 κ = Γ κ) → (u3.toInt = 0 ∨ u3.toInt = 1) → (u3.toInt = 1 → tr_H τ T0 (Γ_36 (39, 0, 0) 1) t0) → va_P D vwCl (va_pl L f_35) H → tp_I cy L K Γ_36 f_35 → (∀ b, (K b).1 ∉ ([39, 43, 44, 52, 45, 46, 53, 47, 54, 55, 56, 48, 49, 50, 51] : List Nat) → f_35 b = f b) → (∀ κ : tk_K, κ.1 ∉ ([39, 43, 44, 52, 45, 46, 53, 47, 54, 55, 56, 48, 49, 50, 51] : List Nat) → Γ_36 κ = Γ κ) → va_S A s.heap H locs → lv_has ls 4 [(3, .int u3), (1, .int (v_23 1)), (0, .ref o)] → W p l e ((headSpec (tl_w yX12_clauseHere cX12_clauseHere 4 (some .boolean)) ({ frames := 10, cells := 0, slots := 0, locals := 220 })).room) s m #[.ref o] below meth c H locs 0 0 (MQ below (va_Qi (fun (r : Int32) (u : (Nat → va_E) × tk_G) => tl_J r (rq u.2 t0) ∧ u.2 (39, 0, 0) 0 = Γ (39, 0, 0) 0 ∧ u.2 (39, 0, 0) 4 = Γ (39, 0, 0) 4 ∧ Γ (39, 0, 0) 1 ≤ u.2 (39, 0, 0) 1 ∧ u.2 (39, 0, 0) 1 ≤ T0 ∧ rg Γ u.2 t0 ∧ rb u.2 t0) (tp_BG D cy L K Γ f [39, 43, 44, 52, 45, 46, 53, 47, 54, 55, 56, 48, 49, 50, 51]) A) #[.ref o] s 0 0 A) (F0 m 132 ls []) := by
    intro f_35 Γ_36 u3 H locs ls q0 q3 q4 q5 q6 q7 q8 hx9 hgM hu3 hH hP hI hfr hgr hS hl
    have hD : va_D A (va_pl L f_35) := tp_D hL hAL
    refine lv_iload_n hx hb dX12_clauseHere_132 rfl (lv_at hl 0 rfl) ?_
    refine lv_if_ne (tgt := 143) hx hb dX12_clauseHere_133 (by decide) (fun c_37 => ?_) (fun c_37 => ?_)
    · have c_37 : ¬ u3.toInt = (0 : Int) := tl_neq c_37
      have hH := hH (by omega)
      refine lv_aload_n hx hb dX12_clauseHere_143 rfl (lv_at hl 2 rfl) ?_
      obtain ⟨r_39, v_40, q_41, hf_38, hr_42, hv_43⟩ := (show tp_o_M L K 0 0 (Γ_36 (39, 0, 0)) (f_35 o) from hI.at ho)
      have hx_44 : (v_40 0).toInt = Γ_36 (39, 0, 0) 0 := hv_43 0 (by decide)
      have hx_45 : (v_40 1).toInt = Γ_36 (39, 0, 0) 1 := hv_43 1 (by decide)
      have hx_46 : (v_40 3).toInt = Γ_36 (39, 0, 0) 3 := hv_43 3 (by decide)
      have hx_47 : (v_40 4).toInt = Γ_36 (39, 0, 0) 4 := hv_43 4 (by decide)
      have hx_48 : (v_40 5).toInt = Γ_36 (39, 0, 0) 5 := hv_43 5 (by decide)
      have hx_49 : (v_40 6).toInt = Γ_36 (39, 0, 0) 6 := hv_43 6 (by decide)
      have hx_50 : (v_40 7).toInt = Γ_36 (39, 0, 0) 7 := hv_43 7 (by decide)
      have hx_51 : (v_40 8).toInt = Γ_36 (39, 0, 0) 8 := hv_43 8 (by decide)
      refine tp_get (cy := cy) (ci := 12) (v := .int (v_40 7)) (C := RX12) (T := TX12) (N := 49) hx hb hta inlX12 hown hK hP ho.1 hf_38 rfl 23 (by decide) (hta _ wk_538) (fun _ h9 => h9) rfl dX12_clauseHere_144 ?_
      refine lv_bipush (v := 12) hx hb dX12_clauseHere_147 (by decide) ?_
      refine lv_icmp_ne (tgt := 159) hx hb dX12_clauseHere_149 (by decide) (fun c_52 => ?_) (fun c_52 => ?_)
      · have c_52 : ¬ (v_40 7).toInt = (12 : Int) := tl_neq c_52
        refine lv_aload_n hx hb dX12_clauseHere_159 rfl (lv_at hl 2 rfl) ?_
        refine lv_dup hx hb dX12_clauseHere_160 rfl ?_
        refine tp_get (cy := cy) (ci := 12) (v := .int (v_40 7)) (C := RX12) (T := TX12) (N := 49) hx hb hta inlX12 hown hK hP ho.1 hf_38 rfl 23 (by decide) (hta _ wk_538) (fun _ h9 => h9) rfl dX12_clauseHere_161 ?_
        refine lv_iconst (v := 1) hx hb dX12_clauseHere_164 (by decide) ?_
        refine lv_iadd hx hb dX12_clauseHere_165 ?_
        refine lv_topi (fun z_53 ez_53 => ?_)
        try have iz_53 : z_53.toInt = (v_40 7).toInt + (1 : Int) := by rw [ez_53]; exact tl_addN (v_40 7) 1 rfl rfl (by omega) (by omega)
        obtain ⟨Γ_54, eΓ_54⟩ : ∃ y : tk_G, y = tg Γ_36 (39, 0, 0) 7 z_53.toInt := ⟨_, rfl⟩
        have hv_55 : ∀ i : Nat, i < 16 → ((upd v_40 7 z_53) i).toInt = Γ_54 (39, 0, 0) i := by rw [eΓ_54, tg_f]; exact tp_gi_upd hv_43
        have hI9 : tp_I cy L K Γ_54 (va_up f_35 o (.inr (12, [.ref (r_39 0), .ref (r_39 1), .int (v_40 0), .ref (r_39 2), .ref (r_39 3), .ref (r_39 4), .ref (r_39 5), .ref (r_39 6), .ref (r_39 7), .ref (r_39 8), .ref (r_39 9), .ref (r_39 10), .ref (r_39 11), .ref (r_39 12), .ref (r_39 13), .ref (r_39 14), .ref (r_39 15), .int (v_40 1), .int (v_40 2), .int (v_40 3), .int (v_40 4), .int (v_40 5), .int (v_40 6), .int z_53, .ref (r_39 16), .int (v_40 8), .ref (r_39 17), .int (v_40 9), .ref (r_39 18), .long q_41, .ref (r_39 19), .ref (r_39 20), .int (v_40 10), .int (v_40 11), .int (v_40 12), .ref (r_39 21), .ref (r_39 22), .int (v_40 13), .ref (r_39 23), .int (v_40 14), .int (v_40 15), .ref (r_39 24), .ref (r_39 25), .ref (r_39 26), .ref (r_39 27), .ref (r_39 28), .ref (r_39 29), .ref (r_39 30), .ref (r_39 31)]))) := by have q9 := hv_55; rw [eΓ_54, tg_f] at q9; rw [eΓ_54]; exact hI.setg hU rfl ho (show tp_o_M L K 0 0 (tgu (Γ_36 (39, 0, 0)) 7 z_53.toInt) _ from ⟨r_39, (upd v_40 7 z_53), q_41, rfl, hr_42, q9⟩)
        have hfr9 : ∀ b, (K b).1 ∉ ([39, 43, 44, 52, 45, 46, 53, 47, 54, 55, 56, 48, 49, 50, 51] : List Nat) → va_up f_35 o (.inr (12, [.ref (r_39 0), .ref (r_39 1), .int (v_40 0), .ref (r_39 2), .ref (r_39 3), .ref (r_39 4), .ref (r_39 5), .ref (r_39 6), .ref (r_39 7), .ref (r_39 8), .ref (r_39 9), .ref (r_39 10), .ref (r_39 11), .ref (r_39 12), .ref (r_39 13), .ref (r_39 14), .ref (r_39 15), .int (v_40 1), .int (v_40 2), .int (v_40 3), .int (v_40 4), .int (v_40 5), .int (v_40 6), .int z_53, .ref (r_39 16), .int (v_40 8), .ref (r_39 17), .int (v_40 9), .ref (r_39 18), .long q_41, .ref (r_39 19), .ref (r_39 20), .int (v_40 10), .int (v_40 11), .int (v_40 12), .ref (r_39 21), .ref (r_39 22), .int (v_40 13), .ref (r_39 23), .int (v_40 14), .int (v_40 15), .ref (r_39 24), .ref (r_39 25), .ref (r_39 26), .ref (r_39 27), .ref (r_39 28), .ref (r_39 29), .ref (r_39 30), .ref (r_39 31)])) b = f b := tp_fr hfr ho (by decide)
        refine tp_put (cy := cy) (ci := 12) (v := .int z_53) (ty := tyX12 23) (C := RX12) (T := TX12) (N := 49) hx hb hta inlX12 tyX12 tyX12_ok nmX12 hown hK hP hD hS ho.1 hf_38 rfl 23 (by decide) (hta _ wk_538) (fun _ h9 => h9) rfl (tyX12_ok 23 (by decide)) rfl rfl (Nat.le_of_ble_eq_true rfl) dX12_clauseHere_166 (fun H locs hP hD hS => ?_)
        have hP : va_P D vwCl (va_pl L (va_up f_35 o (.inr (12, [.ref (r_39 0), .ref (r_39 1), .int (v_40 0), .ref (r_39 2), .ref (r_39 3), .ref (r_39 4), .ref (r_39 5), .ref (r_39 6), .ref (r_39 7), .ref (r_39 8), .ref (r_39 9), .ref (r_39 10), .ref (r_39 11), .ref (r_39 12), .ref (r_39 13), .ref (r_39 14), .ref (r_39 15), .int (v_40 1), .int (v_40 2), .int (v_40 3), .int (v_40 4), .int (v_40 5), .int (v_40 6), .int z_53, .ref (r_39 16), .int (v_40 8), .ref (r_39 17), .int (v_40 9), .ref (r_39 18), .long q_41, .ref (r_39 19), .ref (r_39 20), .int (v_40 10), .int (v_40 11), .int (v_40 12), .ref (r_39 21), .ref (r_39 22), .int (v_40 13), .ref (r_39 23), .int (v_40 14), .int (v_40 15), .ref (r_39 24), .ref (r_39 25), .ref (r_39 26), .ref (r_39 27), .ref (r_39 28), .ref (r_39 29), .ref (r_39 30), .ref (r_39 31)])))) H := hP
        generalize hfe : va_up f_35 o (.inr (12, [.ref (r_39 0), .ref (r_39 1), .int (v_40 0), .ref (r_39 2), .ref (r_39 3), .ref (r_39 4), .ref (r_39 5), .ref (r_39 6), .ref (r_39 7), .ref (r_39 8), .ref (r_39 9), .ref (r_39 10), .ref (r_39 11), .ref (r_39 12), .ref (r_39 13), .ref (r_39 14), .ref (r_39 15), .int (v_40 1), .int (v_40 2), .int (v_40 3), .int (v_40 4), .int (v_40 5), .int (v_40 6), .int z_53, .ref (r_39 16), .int (v_40 8), .ref (r_39 17), .int (v_40 9), .ref (r_39 18), .long q_41, .ref (r_39 19), .ref (r_39 20), .int (v_40 10), .int (v_40 11), .int (v_40 12), .ref (r_39 21), .ref (r_39 22), .int (v_40 13), .ref (r_39 23), .int (v_40 14), .int (v_40 15), .ref (r_39 24), .ref (r_39 25), .ref (r_39 26), .ref (r_39 27), .ref (r_39 28), .ref (r_39 29), .ref (r_39 30), .ref (r_39 31)])) = f_56 at hP hI9 hfr9
        have hD : va_D A (va_pl L f_56) := tp_D hL hAL
        have hf_57 : f_56 o = .inr (12, [.ref (r_39 0), .ref (r_39 1), .int (v_40 0), .ref (r_39 2), .ref (r_39 3), .ref (r_39 4), .ref (r_39 5), .ref (r_39 6), .ref (r_39 7), .ref (r_39 8), .ref (r_39 9), .ref (r_39 10), .ref (r_39 11), .ref (r_39 12), .ref (r_39 13), .ref (r_39 14), .ref (r_39 15), .int (v_40 1), .int (v_40 2), .int (v_40 3), .int (v_40 4), .int (v_40 5), .int (v_40 6), .int z_53, .ref (r_39 16), .int (v_40 8), .ref (r_39 17), .int (v_40 9), .ref (r_39 18), .long q_41, .ref (r_39 19), .ref (r_39 20), .int (v_40 10), .int (v_40 11), .int (v_40 12), .ref (r_39 21), .ref (r_39 22), .int (v_40 13), .ref (r_39 23), .int (v_40 14), .int (v_40 15), .ref (r_39 24), .ref (r_39 25), .ref (r_39 26), .ref (r_39 27), .ref (r_39 28), .ref (r_39 29), .ref (r_39 30), .ref (r_39 31)]) := by rw [← hfe]; exact va_up_self _ _ _
        clear hfe
        have hI := hI9
        have hfr := hfr9
        clear hI9 hfr9
        have hgr : ∀ κ : tk_K, κ.1 ∉ ([39, 43, 44, 52, 45, 46, 53, 47, 54, 55, 56, 48, 49, 50, 51] : List Nat) → Γ_54 κ = Γ κ := tg_fr hgr eΓ_54 (by decide)
        have hx_58 : (v_40 0).toInt = Γ_54 (39, 0, 0) 0 := hv_55 0 (by decide)
        have hx_59 : (v_40 1).toInt = Γ_54 (39, 0, 0) 1 := hv_55 1 (by decide)
        have hx_60 : (v_40 3).toInt = Γ_54 (39, 0, 0) 3 := hv_55 3 (by decide)
        have hx_61 : (v_40 4).toInt = Γ_54 (39, 0, 0) 4 := hv_55 4 (by decide)
        have hx_62 : (v_40 5).toInt = Γ_54 (39, 0, 0) 5 := hv_55 5 (by decide)
        have hx_63 : (v_40 6).toInt = Γ_54 (39, 0, 0) 6 := hv_55 6 (by decide)
        have hx_64 : z_53.toInt = Γ_54 (39, 0, 0) 7 := hv_55 7 (by decide)
        have hx_65 : (v_40 8).toInt = Γ_54 (39, 0, 0) 8 := hv_55 8 (by decide)
        have hgM : ∀ κ : tk_K, κ.1 ∉ ([39] : List Nat) → Γ_54 κ = Γ κ := tg_fr hgM eΓ_54 (by decide)
        refine lv_aload_n hx hb dX12_clauseHere_169 rfl (lv_at hl 2 rfl) ?_
        refine lv_ldc2 (v := 125797183548517) hx hb hown (hta _ wk_553) dX12_clauseHere_170 ?_
        refine tq_ciR hS (hAf _ hS.1) (tq_rV (As := [.long 125797183548517]) (rest := []) ⟨hx, hb, hml, hown, hta⟩ (tp_P.pre hK hN hL hU hI hP) (tp_recv hK hP ho.1 hf_57 rfl) lk_X12_174 (r_X12_isWord l D cy H.size L K Γ_54 f_56 o 125797183548517 τ T0 ho ((hgr _ (by decide)).trans ht) (by first | omega | (simp only [Int32.toInt_toInt64]; omega) | decide | assumption) (by first | omega | (simp only [Int32.toInt_toInt64]; omega) | decide | assumption)) rfl rfl ⟨Nat.le_of_ble_eq_true rfl, Nat.le_of_ble_eq_true rfl⟩ rfl hl.1 rfl (Nat.le_of_ble_eq_true rfl) dX12_clauseHere_173 ⟨Nat.le_of_ble_eq_true rfl, Nat.le_of_ble_eq_true rfl⟩) (fun r_67 f_68 Γ_70 H locs hw_66 hP hI hc_69 hcg_71 hS => ?_)
        have hD : va_D A (va_pl L f_68) := tp_D hL hAL
        have hfr := tp_fr2 hfr hc_69 (by decide)
        have hgr : ∀ κ : tk_K, κ.1 ∉ ([39, 43, 44, 52, 45, 46, 53, 47, 54, 55, 56, 48, 49, 50, 51] : List Nat) → Γ_70 κ = Γ κ := tg_fr2 hgr hcg_71 (by decide)
        obtain ⟨hE_72, hw_66⟩ := hw_66
        have hE_72 : tl_E r_67 (tr_W τ T0 (Γ_70 (39, 0, 0) 1) 125797183548517) 1 0 := hE_72
        have hw_66 : Γ_70 (39, 0, 0) 0 = Γ_54 (39, 0, 0) 0 ∧ Γ_70 (39, 0, 0) 3 = Γ_54 (39, 0, 0) 3 ∧ Γ_70 (39, 0, 0) 4 = Γ_54 (39, 0, 0) 4 ∧ Γ_70 (39, 0, 0) 5 = Γ_54 (39, 0, 0) 5 ∧ Γ_70 (39, 0, 0) 6 = Γ_54 (39, 0, 0) 6 ∧ Γ_70 (39, 0, 0) 7 = Γ_54 (39, 0, 0) 7 ∧ Γ_70 (39, 0, 0) 8 = Γ_54 (39, 0, 0) 8 ∧ Γ_54 (39, 0, 0) 1 ≤ Γ_70 (39, 0, 0) 1 ∧ Γ_70 (39, 0, 0) 1 ≤ T0 ∧ (¬ τ (Γ_54 (39, 0, 0) 1).toNat = 32 → Γ_70 (39, 0, 0) 1 = Γ_54 (39, 0, 0) 1) := hw_66
        have hgM : ∀ κ : tk_K, κ.1 ∉ ([39] : List Nat) → Γ_70 κ = Γ κ := tg_fr2 hgM hcg_71 (by decide)
        have hnx : Γ_70 (39, 0, 0) 1 = Γ_54 (39, 0, 0) 1 := hw_66.2.2.2.2.2.2.2.2.2 (by have q9 := hH.L.2; omega)
        have hH : tr_H τ T0 (Γ_70 (39, 0, 0) 1) t0 := by rw [hnx]; exact hH
        refine lv_if_eq (tgt := 185) hx hb dX12_clauseHere_176 (by decide) (fun c_73 => ?_) (fun c_73 => ?_)
        · have c_73 := hE_72.f c_73
          refine lv_aload_n hx hb dX12_clauseHere_185 rfl (lv_at hl 2 rfl) ?_
          refine lv_ldc2 (v := 474315584357) hx hb hown (hta _ wk_554) dX12_clauseHere_186 ?_
          obtain ⟨r_75, v_76, q_77, hf_74, hr_78, hv_79⟩ := (show tp_o_M L K 0 0 (Γ_70 (39, 0, 0)) (f_68 o) from hI.at ho)
          have hx_80 : (v_76 0).toInt = Γ_70 (39, 0, 0) 0 := hv_79 0 (by decide)
          have hx_81 : (v_76 1).toInt = Γ_70 (39, 0, 0) 1 := hv_79 1 (by decide)
          have hx_82 : (v_76 3).toInt = Γ_70 (39, 0, 0) 3 := hv_79 3 (by decide)
          have hx_83 : (v_76 4).toInt = Γ_70 (39, 0, 0) 4 := hv_79 4 (by decide)
          have hx_84 : (v_76 5).toInt = Γ_70 (39, 0, 0) 5 := hv_79 5 (by decide)
          have hx_85 : (v_76 6).toInt = Γ_70 (39, 0, 0) 6 := hv_79 6 (by decide)
          have hx_86 : (v_76 7).toInt = Γ_70 (39, 0, 0) 7 := hv_79 7 (by decide)
          have hx_87 : (v_76 8).toInt = Γ_70 (39, 0, 0) 8 := hv_79 8 (by decide)
          refine tq_ciR hS (hAf _ hS.1) (tq_rV (As := [.long 474315584357]) (rest := []) ⟨hx, hb, hml, hown, hta⟩ (tp_P.pre hK hN hL hU hI hP) (tp_recv hK hP ho.1 hf_74 rfl) lk_X12_174 (r_X12_isWord l D cy H.size L K Γ_70 f_68 o 474315584357 τ T0 ho ((hgr _ (by decide)).trans ht) (by first | omega | (simp only [Int32.toInt_toInt64]; omega) | decide | assumption) (by first | omega | (simp only [Int32.toInt_toInt64]; omega) | decide | assumption)) rfl rfl ⟨Nat.le_of_ble_eq_true rfl, Nat.le_of_ble_eq_true rfl⟩ rfl hl.1 rfl (Nat.le_of_ble_eq_true rfl) dX12_clauseHere_189 ⟨Nat.le_of_ble_eq_true rfl, Nat.le_of_ble_eq_true rfl⟩) (fun r_89 f_90 Γ_92 H locs hw_88 hP hI hc_91 hcg_93 hS => ?_)
          have hD : va_D A (va_pl L f_90) := tp_D hL hAL
          have hfr := tp_fr2 hfr hc_91 (by decide)
          have hgr : ∀ κ : tk_K, κ.1 ∉ ([39, 43, 44, 52, 45, 46, 53, 47, 54, 55, 56, 48, 49, 50, 51] : List Nat) → Γ_92 κ = Γ κ := tg_fr2 hgr hcg_93 (by decide)
          obtain ⟨hE_94, hw_88⟩ := hw_88
          have hE_94 : tl_E r_89 (tr_W τ T0 (Γ_92 (39, 0, 0) 1) 474315584357) 1 0 := hE_94
          have hw_88 : Γ_92 (39, 0, 0) 0 = Γ_70 (39, 0, 0) 0 ∧ Γ_92 (39, 0, 0) 3 = Γ_70 (39, 0, 0) 3 ∧ Γ_92 (39, 0, 0) 4 = Γ_70 (39, 0, 0) 4 ∧ Γ_92 (39, 0, 0) 5 = Γ_70 (39, 0, 0) 5 ∧ Γ_92 (39, 0, 0) 6 = Γ_70 (39, 0, 0) 6 ∧ Γ_92 (39, 0, 0) 7 = Γ_70 (39, 0, 0) 7 ∧ Γ_92 (39, 0, 0) 8 = Γ_70 (39, 0, 0) 8 ∧ Γ_70 (39, 0, 0) 1 ≤ Γ_92 (39, 0, 0) 1 ∧ Γ_92 (39, 0, 0) 1 ≤ T0 ∧ (¬ τ (Γ_70 (39, 0, 0) 1).toNat = 32 → Γ_92 (39, 0, 0) 1 = Γ_70 (39, 0, 0) 1) := hw_88
          have hgM : ∀ κ : tk_K, κ.1 ∉ ([39] : List Nat) → Γ_92 κ = Γ κ := tg_fr2 hgM hcg_93 (by decide)
          have hnx : Γ_92 (39, 0, 0) 1 = Γ_70 (39, 0, 0) 1 := hw_88.2.2.2.2.2.2.2.2.2 (by have q9 := hH.L.2; omega)
          have hH : tr_H τ T0 (Γ_92 (39, 0, 0) 1) t0 := by rw [hnx]; exact hH
          refine lv_if_eq (tgt := 209) hx hb dX12_clauseHere_192 (by decide) (fun c_95 => ?_) (fun c_95 => ?_)
          · have c_95 := hE_94.f c_95
            refine lv_aload_n hx hb dX12_clauseHere_209 rfl (lv_at hl 2 rfl) ?_
            refine lv_ldc2 (v := 1700885619) hx hb hown (hta _ wk_555) dX12_clauseHere_210 ?_
            obtain ⟨r_97, v_98, q_99, hf_96, hr_100, hv_101⟩ := (show tp_o_M L K 0 0 (Γ_92 (39, 0, 0)) (f_90 o) from hI.at ho)
            have hx_102 : (v_98 0).toInt = Γ_92 (39, 0, 0) 0 := hv_101 0 (by decide)
            have hx_103 : (v_98 1).toInt = Γ_92 (39, 0, 0) 1 := hv_101 1 (by decide)
            have hx_104 : (v_98 3).toInt = Γ_92 (39, 0, 0) 3 := hv_101 3 (by decide)
            have hx_105 : (v_98 4).toInt = Γ_92 (39, 0, 0) 4 := hv_101 4 (by decide)
            have hx_106 : (v_98 5).toInt = Γ_92 (39, 0, 0) 5 := hv_101 5 (by decide)
            have hx_107 : (v_98 6).toInt = Γ_92 (39, 0, 0) 6 := hv_101 6 (by decide)
            have hx_108 : (v_98 7).toInt = Γ_92 (39, 0, 0) 7 := hv_101 7 (by decide)
            have hx_109 : (v_98 8).toInt = Γ_92 (39, 0, 0) 8 := hv_101 8 (by decide)
            refine tq_ciR hS (hAf _ hS.1) (tq_rV (As := [.long 1700885619]) (rest := []) ⟨hx, hb, hml, hown, hta⟩ (tp_P.pre hK hN hL hU hI hP) (tp_recv hK hP ho.1 hf_96 rfl) lk_X12_174 (r_X12_isWord l D cy H.size L K Γ_92 f_90 o 1700885619 τ T0 ho ((hgr _ (by decide)).trans ht) (by first | omega | (simp only [Int32.toInt_toInt64]; omega) | decide | assumption) (by first | omega | (simp only [Int32.toInt_toInt64]; omega) | decide | assumption)) rfl rfl ⟨Nat.le_of_ble_eq_true rfl, Nat.le_of_ble_eq_true rfl⟩ rfl hl.1 rfl (Nat.le_of_ble_eq_true rfl) dX12_clauseHere_213 ⟨Nat.le_of_ble_eq_true rfl, Nat.le_of_ble_eq_true rfl⟩) (fun r_111 f_112 Γ_114 H locs hw_110 hP hI hc_113 hcg_115 hS => ?_)
            have hD : va_D A (va_pl L f_112) := tp_D hL hAL
            have hfr := tp_fr2 hfr hc_113 (by decide)
            have hgr : ∀ κ : tk_K, κ.1 ∉ ([39, 43, 44, 52, 45, 46, 53, 47, 54, 55, 56, 48, 49, 50, 51] : List Nat) → Γ_114 κ = Γ κ := tg_fr2 hgr hcg_115 (by decide)
            obtain ⟨hE_116, hw_110⟩ := hw_110
            have hE_116 : tl_E r_111 (tr_W τ T0 (Γ_114 (39, 0, 0) 1) 1700885619) 1 0 := hE_116
            have hw_110 : Γ_114 (39, 0, 0) 0 = Γ_92 (39, 0, 0) 0 ∧ Γ_114 (39, 0, 0) 3 = Γ_92 (39, 0, 0) 3 ∧ Γ_114 (39, 0, 0) 4 = Γ_92 (39, 0, 0) 4 ∧ Γ_114 (39, 0, 0) 5 = Γ_92 (39, 0, 0) 5 ∧ Γ_114 (39, 0, 0) 6 = Γ_92 (39, 0, 0) 6 ∧ Γ_114 (39, 0, 0) 7 = Γ_92 (39, 0, 0) 7 ∧ Γ_114 (39, 0, 0) 8 = Γ_92 (39, 0, 0) 8 ∧ Γ_92 (39, 0, 0) 1 ≤ Γ_114 (39, 0, 0) 1 ∧ Γ_114 (39, 0, 0) 1 ≤ T0 ∧ (¬ τ (Γ_92 (39, 0, 0) 1).toNat = 32 → Γ_114 (39, 0, 0) 1 = Γ_92 (39, 0, 0) 1) := hw_110
            have hgM : ∀ κ : tk_K, κ.1 ∉ ([39] : List Nat) → Γ_114 κ = Γ κ := tg_fr2 hgM hcg_115 (by decide)
            have hnx : Γ_114 (39, 0, 0) 1 = Γ_92 (39, 0, 0) 1 := hw_110.2.2.2.2.2.2.2.2.2 (by have q9 := hH.L.2; omega)
            have hH : tr_H τ T0 (Γ_114 (39, 0, 0) 1) t0 := by rw [hnx]; exact hH
            refine lv_if_eq (tgt := 224) hx hb dX12_clauseHere_216 (by decide) (fun c_117 => ?_) (fun c_117 => ?_)
            · have c_117 := hE_116.f c_117
              refine lv_aload_n hx hb dX12_clauseHere_224 rfl (lv_at hl 2 rfl) ?_
              refine lv_ldc2 (v := 422608528499) hx hb hown (hta _ wk_556) dX12_clauseHere_225 ?_
              obtain ⟨r_119, v_120, q_121, hf_118, hr_122, hv_123⟩ := (show tp_o_M L K 0 0 (Γ_114 (39, 0, 0)) (f_112 o) from hI.at ho)
              have hx_124 : (v_120 0).toInt = Γ_114 (39, 0, 0) 0 := hv_123 0 (by decide)
              have hx_125 : (v_120 1).toInt = Γ_114 (39, 0, 0) 1 := hv_123 1 (by decide)
              have hx_126 : (v_120 3).toInt = Γ_114 (39, 0, 0) 3 := hv_123 3 (by decide)
              have hx_127 : (v_120 4).toInt = Γ_114 (39, 0, 0) 4 := hv_123 4 (by decide)
              have hx_128 : (v_120 5).toInt = Γ_114 (39, 0, 0) 5 := hv_123 5 (by decide)
              have hx_129 : (v_120 6).toInt = Γ_114 (39, 0, 0) 6 := hv_123 6 (by decide)
              have hx_130 : (v_120 7).toInt = Γ_114 (39, 0, 0) 7 := hv_123 7 (by decide)
              have hx_131 : (v_120 8).toInt = Γ_114 (39, 0, 0) 8 := hv_123 8 (by decide)
              refine tq_ciR hS (hAf _ hS.1) (tq_rV (As := [.long 422608528499]) (rest := []) ⟨hx, hb, hml, hown, hta⟩ (tp_P.pre hK hN hL hU hI hP) (tp_recv hK hP ho.1 hf_118 rfl) lk_X12_174 (r_X12_isWord l D cy H.size L K Γ_114 f_112 o 422608528499 τ T0 ho ((hgr _ (by decide)).trans ht) (by first | omega | (simp only [Int32.toInt_toInt64]; omega) | decide | assumption) (by first | omega | (simp only [Int32.toInt_toInt64]; omega) | decide | assumption)) rfl rfl ⟨Nat.le_of_ble_eq_true rfl, Nat.le_of_ble_eq_true rfl⟩ rfl hl.1 rfl (Nat.le_of_ble_eq_true rfl) dX12_clauseHere_228 ⟨Nat.le_of_ble_eq_true rfl, Nat.le_of_ble_eq_true rfl⟩) (fun r_133 f_134 Γ_136 H locs hw_132 hP hI hc_135 hcg_137 hS => ?_)
              have hD : va_D A (va_pl L f_134) := tp_D hL hAL
              have hfr := tp_fr2 hfr hc_135 (by decide)
              have hgr : ∀ κ : tk_K, κ.1 ∉ ([39, 43, 44, 52, 45, 46, 53, 47, 54, 55, 56, 48, 49, 50, 51] : List Nat) → Γ_136 κ = Γ κ := tg_fr2 hgr hcg_137 (by decide)
              obtain ⟨hE_138, hw_132⟩ := hw_132
              have hE_138 : tl_E r_133 (tr_W τ T0 (Γ_136 (39, 0, 0) 1) 422608528499) 1 0 := hE_138
              have hw_132 : Γ_136 (39, 0, 0) 0 = Γ_114 (39, 0, 0) 0 ∧ Γ_136 (39, 0, 0) 3 = Γ_114 (39, 0, 0) 3 ∧ Γ_136 (39, 0, 0) 4 = Γ_114 (39, 0, 0) 4 ∧ Γ_136 (39, 0, 0) 5 = Γ_114 (39, 0, 0) 5 ∧ Γ_136 (39, 0, 0) 6 = Γ_114 (39, 0, 0) 6 ∧ Γ_136 (39, 0, 0) 7 = Γ_114 (39, 0, 0) 7 ∧ Γ_136 (39, 0, 0) 8 = Γ_114 (39, 0, 0) 8 ∧ Γ_114 (39, 0, 0) 1 ≤ Γ_136 (39, 0, 0) 1 ∧ Γ_136 (39, 0, 0) 1 ≤ T0 ∧ (¬ τ (Γ_114 (39, 0, 0) 1).toNat = 32 → Γ_136 (39, 0, 0) 1 = Γ_114 (39, 0, 0) 1) := hw_132
              have hgM : ∀ κ : tk_K, κ.1 ∉ ([39] : List Nat) → Γ_136 κ = Γ κ := tg_fr2 hgM hcg_137 (by decide)
              have hnx : Γ_136 (39, 0, 0) 1 = Γ_114 (39, 0, 0) 1 := hw_132.2.2.2.2.2.2.2.2.2 (by have q9 := hH.L.2; omega)
              have hH : tr_H τ T0 (Γ_136 (39, 0, 0) 1) t0 := by rw [hnx]; exact hH
              refine lv_if_eq (tgt := 247) hx hb dX12_clauseHere_231 (by decide) (fun c_139 => ?_) (fun c_139 => ?_)
              · have c_139 := hE_138.f c_139
                refine lv_aload_n hx hb dX12_clauseHere_247 rfl (lv_at hl 2 rfl) ?_
                refine lv_ldc2 (v := 6775152) hx hb hown (hta _ wk_557) dX12_clauseHere_248 ?_
                obtain ⟨r_141, v_142, q_143, hf_140, hr_144, hv_145⟩ := (show tp_o_M L K 0 0 (Γ_136 (39, 0, 0)) (f_134 o) from hI.at ho)
                have hx_146 : (v_142 0).toInt = Γ_136 (39, 0, 0) 0 := hv_145 0 (by decide)
                have hx_147 : (v_142 1).toInt = Γ_136 (39, 0, 0) 1 := hv_145 1 (by decide)
                have hx_148 : (v_142 3).toInt = Γ_136 (39, 0, 0) 3 := hv_145 3 (by decide)
                have hx_149 : (v_142 4).toInt = Γ_136 (39, 0, 0) 4 := hv_145 4 (by decide)
                have hx_150 : (v_142 5).toInt = Γ_136 (39, 0, 0) 5 := hv_145 5 (by decide)
                have hx_151 : (v_142 6).toInt = Γ_136 (39, 0, 0) 6 := hv_145 6 (by decide)
                have hx_152 : (v_142 7).toInt = Γ_136 (39, 0, 0) 7 := hv_145 7 (by decide)
                have hx_153 : (v_142 8).toInt = Γ_136 (39, 0, 0) 8 := hv_145 8 (by decide)
                refine tq_ciR hS (hAf _ hS.1) (tq_rV (As := [.long 6775152]) (rest := []) ⟨hx, hb, hml, hown, hta⟩ (tp_P.pre hK hN hL hU hI hP) (tp_recv hK hP ho.1 hf_140 rfl) lk_X12_174 (r_X12_isWord l D cy H.size L K Γ_136 f_134 o 6775152 τ T0 ho ((hgr _ (by decide)).trans ht) (by first | omega | (simp only [Int32.toInt_toInt64]; omega) | decide | assumption) (by first | omega | (simp only [Int32.toInt_toInt64]; omega) | decide | assumption)) rfl rfl ⟨Nat.le_of_ble_eq_true rfl, Nat.le_of_ble_eq_true rfl⟩ rfl hl.1 rfl (Nat.le_of_ble_eq_true rfl) dX12_clauseHere_251 ⟨Nat.le_of_ble_eq_true rfl, Nat.le_of_ble_eq_true rfl⟩) (fun r_155 f_156 Γ_158 H locs hw_154 hP hI hc_157 hcg_159 hS => ?_)
                have hD : va_D A (va_pl L f_156) := tp_D hL hAL
                have hfr := tp_fr2 hfr hc_157 (by decide)
                have hgr : ∀ κ : tk_K, κ.1 ∉ ([39, 43, 44, 52, 45, 46, 53, 47, 54, 55, 56, 48, 49, 50, 51] : List Nat) → Γ_158 κ = Γ κ := tg_fr2 hgr hcg_159 (by decide)
                obtain ⟨hE_160, hw_154⟩ := hw_154
                have hE_160 : tl_E r_155 (tr_W τ T0 (Γ_158 (39, 0, 0) 1) 6775152) 1 0 := hE_160
                have hw_154 : Γ_158 (39, 0, 0) 0 = Γ_136 (39, 0, 0) 0 ∧ Γ_158 (39, 0, 0) 3 = Γ_136 (39, 0, 0) 3 ∧ Γ_158 (39, 0, 0) 4 = Γ_136 (39, 0, 0) 4 ∧ Γ_158 (39, 0, 0) 5 = Γ_136 (39, 0, 0) 5 ∧ Γ_158 (39, 0, 0) 6 = Γ_136 (39, 0, 0) 6 ∧ Γ_158 (39, 0, 0) 7 = Γ_136 (39, 0, 0) 7 ∧ Γ_158 (39, 0, 0) 8 = Γ_136 (39, 0, 0) 8 ∧ Γ_136 (39, 0, 0) 1 ≤ Γ_158 (39, 0, 0) 1 ∧ Γ_158 (39, 0, 0) 1 ≤ T0 ∧ (¬ τ (Γ_136 (39, 0, 0) 1).toNat = 32 → Γ_158 (39, 0, 0) 1 = Γ_136 (39, 0, 0) 1) := hw_154
                have hgM : ∀ κ : tk_K, κ.1 ∉ ([39] : List Nat) → Γ_158 κ = Γ κ := tg_fr2 hgM hcg_159 (by decide)
                have hnx : Γ_158 (39, 0, 0) 1 = Γ_136 (39, 0, 0) 1 := hw_154.2.2.2.2.2.2.2.2.2 (by have q9 := hH.L.2; omega)
                have hH : tr_H τ T0 (Γ_158 (39, 0, 0) 1) t0 := by rw [hnx]; exact hH
                refine lv_if_eq (tgt := 263) hx hb dX12_clauseHere_254 (by decide) (fun c_161 => ?_) (fun c_161 => ?_)
                · have c_161 := hE_160.f c_161
                  refine lv_aload_n hx hb dX12_clauseHere_263 rfl (lv_at hl 2 rfl) ?_
                  refine lv_ldc2 (v := 2003395685) hx hb hown (hta _ wk_558) dX12_clauseHere_264 ?_
                  obtain ⟨r_163, v_164, q_165, hf_162, hr_166, hv_167⟩ := (show tp_o_M L K 0 0 (Γ_158 (39, 0, 0)) (f_156 o) from hI.at ho)
                  have hx_168 : (v_164 0).toInt = Γ_158 (39, 0, 0) 0 := hv_167 0 (by decide)
                  have hx_169 : (v_164 1).toInt = Γ_158 (39, 0, 0) 1 := hv_167 1 (by decide)
                  have hx_170 : (v_164 3).toInt = Γ_158 (39, 0, 0) 3 := hv_167 3 (by decide)
                  have hx_171 : (v_164 4).toInt = Γ_158 (39, 0, 0) 4 := hv_167 4 (by decide)
                  have hx_172 : (v_164 5).toInt = Γ_158 (39, 0, 0) 5 := hv_167 5 (by decide)
                  have hx_173 : (v_164 6).toInt = Γ_158 (39, 0, 0) 6 := hv_167 6 (by decide)
                  have hx_174 : (v_164 7).toInt = Γ_158 (39, 0, 0) 7 := hv_167 7 (by decide)
                  have hx_175 : (v_164 8).toInt = Γ_158 (39, 0, 0) 8 := hv_167 8 (by decide)
                  refine tq_ciR hS (hAf _ hS.1) (tq_rV (As := [.long 2003395685]) (rest := []) ⟨hx, hb, hml, hown, hta⟩ (tp_P.pre hK hN hL hU hI hP) (tp_recv hK hP ho.1 hf_162 rfl) lk_X12_174 (r_X12_isWord l D cy H.size L K Γ_158 f_156 o 2003395685 τ T0 ho ((hgr _ (by decide)).trans ht) (by first | omega | (simp only [Int32.toInt_toInt64]; omega) | decide | assumption) (by first | omega | (simp only [Int32.toInt_toInt64]; omega) | decide | assumption)) rfl rfl ⟨Nat.le_of_ble_eq_true rfl, Nat.le_of_ble_eq_true rfl⟩ rfl hl.1 rfl (Nat.le_of_ble_eq_true rfl) dX12_clauseHere_267 ⟨Nat.le_of_ble_eq_true rfl, Nat.le_of_ble_eq_true rfl⟩) (fun r_177 f_178 Γ_180 H locs hw_176 hP hI hc_179 hcg_181 hS => ?_)
                  have hD : va_D A (va_pl L f_178) := tp_D hL hAL
                  have hfr := tp_fr2 hfr hc_179 (by decide)
                  have hgr : ∀ κ : tk_K, κ.1 ∉ ([39, 43, 44, 52, 45, 46, 53, 47, 54, 55, 56, 48, 49, 50, 51] : List Nat) → Γ_180 κ = Γ κ := tg_fr2 hgr hcg_181 (by decide)
                  obtain ⟨hE_182, hw_176⟩ := hw_176
                  have hE_182 : tl_E r_177 (tr_W τ T0 (Γ_180 (39, 0, 0) 1) 2003395685) 1 0 := hE_182
                  have hw_176 : Γ_180 (39, 0, 0) 0 = Γ_158 (39, 0, 0) 0 ∧ Γ_180 (39, 0, 0) 3 = Γ_158 (39, 0, 0) 3 ∧ Γ_180 (39, 0, 0) 4 = Γ_158 (39, 0, 0) 4 ∧ Γ_180 (39, 0, 0) 5 = Γ_158 (39, 0, 0) 5 ∧ Γ_180 (39, 0, 0) 6 = Γ_158 (39, 0, 0) 6 ∧ Γ_180 (39, 0, 0) 7 = Γ_158 (39, 0, 0) 7 ∧ Γ_180 (39, 0, 0) 8 = Γ_158 (39, 0, 0) 8 ∧ Γ_158 (39, 0, 0) 1 ≤ Γ_180 (39, 0, 0) 1 ∧ Γ_180 (39, 0, 0) 1 ≤ T0 ∧ (¬ τ (Γ_158 (39, 0, 0) 1).toNat = 32 → Γ_180 (39, 0, 0) 1 = Γ_158 (39, 0, 0) 1) := hw_176
                  have hgM : ∀ κ : tk_K, κ.1 ∉ ([39] : List Nat) → Γ_180 κ = Γ κ := tg_fr2 hgM hcg_181 (by decide)
                  have hnx : Γ_180 (39, 0, 0) 1 = Γ_158 (39, 0, 0) 1 := hw_176.2.2.2.2.2.2.2.2.2 (by have q9 := hH.L.2; omega)
                  have hH : tr_H τ T0 (Γ_180 (39, 0, 0) 1) t0 := by rw [hnx]; exact hH
                  refine lv_if_eq (tgt := 288) hx hb dX12_clauseHere_270 (by decide) (fun c_183 => ?_) (fun c_183 => ?_)
                  · have c_183 := hE_182.f c_183
                    refine lv_aload_n hx hb dX12_clauseHere_288 rfl (lv_at hl 2 rfl) ?_
                    refine lv_aload_n hx hb dX12_clauseHere_289 rfl (lv_at hl 2 rfl) ?_
                    refine lv_ldc2 (v := 1936419184) hx hb hown (hta _ wk_559) dX12_clauseHere_290 ?_
                    obtain ⟨r_185, v_186, q_187, hf_184, hr_188, hv_189⟩ := (show tp_o_M L K 0 0 (Γ_180 (39, 0, 0)) (f_178 o) from hI.at ho)
                    have hx_190 : (v_186 0).toInt = Γ_180 (39, 0, 0) 0 := hv_189 0 (by decide)
                    have hx_191 : (v_186 1).toInt = Γ_180 (39, 0, 0) 1 := hv_189 1 (by decide)
                    have hx_192 : (v_186 3).toInt = Γ_180 (39, 0, 0) 3 := hv_189 3 (by decide)
                    have hx_193 : (v_186 4).toInt = Γ_180 (39, 0, 0) 4 := hv_189 4 (by decide)
                    have hx_194 : (v_186 5).toInt = Γ_180 (39, 0, 0) 5 := hv_189 5 (by decide)
                    have hx_195 : (v_186 6).toInt = Γ_180 (39, 0, 0) 6 := hv_189 6 (by decide)
                    have hx_196 : (v_186 7).toInt = Γ_180 (39, 0, 0) 7 := hv_189 7 (by decide)
                    have hx_197 : (v_186 8).toInt = Γ_180 (39, 0, 0) 8 := hv_189 8 (by decide)
                    refine tq_ciR hS (hAf _ hS.1) (tq_rV (As := [.long 1936419184]) (rest := [.ref o]) ⟨hx, hb, hml, hown, hta⟩ (tp_P.pre hK hN hL hU hI hP) (tp_recv hK hP ho.1 hf_184 rfl) lk_X12_174 (r_X12_isWord l D cy H.size L K Γ_180 f_178 o 1936419184 τ T0 ho ((hgr _ (by decide)).trans ht) (by first | omega | (simp only [Int32.toInt_toInt64]; omega) | decide | assumption) (by first | omega | (simp only [Int32.toInt_toInt64]; omega) | decide | assumption)) rfl rfl ⟨Nat.le_of_ble_eq_true rfl, Nat.le_of_ble_eq_true rfl⟩ rfl hl.1 rfl (Nat.le_of_ble_eq_true rfl) dX12_clauseHere_293 ⟨Nat.le_of_ble_eq_true rfl, Nat.le_of_ble_eq_true rfl⟩) (fun r_199 f_200 Γ_202 H locs hw_198 hP hI hc_201 hcg_203 hS => ?_)
                    have hD : va_D A (va_pl L f_200) := tp_D hL hAL
                    have hfr := tp_fr2 hfr hc_201 (by decide)
                    have hgr : ∀ κ : tk_K, κ.1 ∉ ([39, 43, 44, 52, 45, 46, 53, 47, 54, 55, 56, 48, 49, 50, 51] : List Nat) → Γ_202 κ = Γ κ := tg_fr2 hgr hcg_203 (by decide)
                    obtain ⟨hE_204, hw_198⟩ := hw_198
                    have hE_204 : tl_E r_199 (tr_W τ T0 (Γ_202 (39, 0, 0) 1) 1936419184) 1 0 := hE_204
                    have hw_198 : Γ_202 (39, 0, 0) 0 = Γ_180 (39, 0, 0) 0 ∧ Γ_202 (39, 0, 0) 3 = Γ_180 (39, 0, 0) 3 ∧ Γ_202 (39, 0, 0) 4 = Γ_180 (39, 0, 0) 4 ∧ Γ_202 (39, 0, 0) 5 = Γ_180 (39, 0, 0) 5 ∧ Γ_202 (39, 0, 0) 6 = Γ_180 (39, 0, 0) 6 ∧ Γ_202 (39, 0, 0) 7 = Γ_180 (39, 0, 0) 7 ∧ Γ_202 (39, 0, 0) 8 = Γ_180 (39, 0, 0) 8 ∧ Γ_180 (39, 0, 0) 1 ≤ Γ_202 (39, 0, 0) 1 ∧ Γ_202 (39, 0, 0) 1 ≤ T0 ∧ (¬ τ (Γ_180 (39, 0, 0) 1).toNat = 32 → Γ_202 (39, 0, 0) 1 = Γ_180 (39, 0, 0) 1) := hw_198
                    have hgM : ∀ κ : tk_K, κ.1 ∉ ([39] : List Nat) → Γ_202 κ = Γ κ := tg_fr2 hgM hcg_203 (by decide)
                    have hnx : Γ_202 (39, 0, 0) 1 = Γ_180 (39, 0, 0) 1 := hw_198.2.2.2.2.2.2.2.2.2 (by have q9 := hH.L.2; omega)
                    have hH : tr_H τ T0 (Γ_202 (39, 0, 0) 1) t0 := by rw [hnx]; exact hH
                    refine lv_if_ne (tgt := 303) hx hb dX12_clauseHere_296 (by decide) (fun c_205 => ?_) (fun c_205 => ?_)
                    · have c_205 := hE_204.t c_205
                      refine lv_iconst (v := 0) hx hb dX12_clauseHere_303 (by decide) ?_
                      have f_SG : Γ_202 (43, 8800, 0) t0.toNat = Γ (43, 8800, 0) t0.toNat := congrFun (hgM (43, 8800, 0) (by decide)) _
                      have f_ML : Γ_202 (44, 22, 0) t0.toNat = Γ (44, 22, 0) t0.toNat := congrFun (hgM (44, 22, 0) (by decide)) _
                      have f_MC : Γ_202 (45, 1056, 0) t0.toNat = Γ (45, 1056, 0) t0.toNat := congrFun (hgM (45, 1056, 0) (by decide)) _
                      have f_MS : Γ_202 (46, 22, 0) t0.toNat = Γ (46, 22, 0) t0.toNat := congrFun (hgM (46, 22, 0) (by decide)) _
                      have f_ER : Γ_202 (47, 6, 0) t0.toNat = Γ (47, 6, 0) t0.toNat := congrFun (hgM (47, 6, 0) (by decide)) _
                      have f_BE : Γ_202 (48, 22, 0) t0.toNat = Γ (48, 22, 0) t0.toNat := congrFun (hgM (48, 22, 0) (by decide)) _
                      have f_GF : Γ_202 (49, 22, 0) t0.toNat = Γ (49, 22, 0) t0.toNat := congrFun (hgM (49, 22, 0) (by decide)) _
                      have f_GT : Γ_202 (50, 22, 0) t0.toNat = Γ (50, 22, 0) t0.toNat := congrFun (hgM (50, 22, 0) (by decide)) _
                      have f_WI : Γ_202 (51, 22, 0) t0.toNat = Γ (51, 22, 0) t0.toNat := congrFun (hgM (51, 22, 0) (by decide)) _
                      obtain ⟨r_207, v_208, q_209, hf_206, hr_210, hv_211⟩ := (show tp_o_M L K 0 0 (Γ_202 (39, 0, 0)) (f_200 o) from hI.at ho)
                      have hx_212 : (v_208 0).toInt = Γ_202 (39, 0, 0) 0 := hv_211 0 (by decide)
                      have hx_213 : (v_208 1).toInt = Γ_202 (39, 0, 0) 1 := hv_211 1 (by decide)
                      have hx_214 : (v_208 3).toInt = Γ_202 (39, 0, 0) 3 := hv_211 3 (by decide)
                      have hx_215 : (v_208 4).toInt = Γ_202 (39, 0, 0) 4 := hv_211 4 (by decide)
                      have hx_216 : (v_208 5).toInt = Γ_202 (39, 0, 0) 5 := hv_211 5 (by decide)
                      have hx_217 : (v_208 6).toInt = Γ_202 (39, 0, 0) 6 := hv_211 6 (by decide)
                      have hx_218 : (v_208 7).toInt = Γ_202 (39, 0, 0) 7 := hv_211 7 (by decide)
                      have hx_219 : (v_208 8).toInt = Γ_202 (39, 0, 0) 8 := hv_211 8 (by decide)
                      refine tq_ciR hS (hAf _ hS.1) (tq_rV (As := [.int 0]) (rest := []) ⟨hx, hb, hml, hown, hta⟩ (tp_P.pre hK hN hL hU hI hP) (tp_recv hK hP ho.1 hf_206 rfl) lk_X12_318 (r_clauseOf_0 l D cy H.size L K Γ_202 f_200 o τ T0 t0 ho ((hgr _ (by decide)).trans ht) (by first | omega | (simp only [Int32.toInt_toInt64]; omega) | decide | assumption) (by first | omega | (simp only [Int32.toInt_toInt64]; omega) | decide | assumption) (by first | omega | (simp only [Int32.toInt_toInt64]; omega) | decide | assumption) (by first | omega | (simp only [Int32.toInt_toInt64]; omega) | decide | assumption) (by first | omega | (simp only [Int32.toInt_toInt64]; omega) | decide | assumption) (by first | omega | (simp only [Int32.toInt_toInt64]; omega) | decide | assumption) (by rw [hgM (43, 8800, 0) (by decide), hgM (45, 1056, 0) (by decide), hgM (46, 22, 0) (by decide), hgM (44, 22, 0) (by decide)]; exact hrq.2.2.2.2.2) (hH.skip (by assumption))) rfl rfl ⟨Nat.le_of_ble_eq_true rfl, Nat.le_of_ble_eq_true rfl⟩ rfl hl.1 rfl (Nat.le_of_ble_eq_true rfl) dX12_clauseHere_304 ⟨Nat.le_of_ble_eq_true rfl, Nat.le_of_ble_eq_true rfl⟩) (fun r_221 f_222 Γ_224 H locs hw_220 hP hI hc_223 hcg_225 hS => ?_)
                      have hD : va_D A (va_pl L f_222) := tp_D hL hAL
                      have hfr := tp_fr2 hfr hc_223 (by decide)
                      have hgr : ∀ κ : tk_K, κ.1 ∉ ([39, 43, 44, 52, 45, 46, 53, 47, 54, 55, 56, 48, 49, 50, 51] : List Nat) → Γ_224 κ = Γ κ := tg_fr2 hgr hcg_225 (by decide)
                      obtain ⟨hE_226, hw_220⟩ := hw_220
                      have hE_226 : tl_J r_221 (Γ_224 (46, 22, 0) = tgu (Γ_202 (46, 22, 0)) t0.toNat (Γ_202 (46, 22, 0) t0.toNat + 1) ∧ Γ_224 (44, 22, 0) t0.toNat ≤ Γ_224 (39, 0, 0) 1 ∧ (0 ≤ Γ_224 (39, 0, 0) 5 ∧ Γ_224 (39, 0, 0) 5 ≤ 60) ∧ tc (Γ_224 (43, 8800, 0)) (Γ_224 (45, 1056, 0)) (Γ_224 (46, 22, 0)) t0 (Γ_224 (44, 22, 0) t0.toNat)) := hE_226
                      have hw_220 : Γ_224 (39, 0, 0) 0 = Γ_202 (39, 0, 0) 0 ∧ Γ_224 (39, 0, 0) 4 = Γ_202 (39, 0, 0) 4 ∧ Γ_224 (39, 0, 0) 7 = Γ_202 (39, 0, 0) 7 ∧ Γ_202 (39, 0, 0) 1 ≤ Γ_224 (39, 0, 0) 1 ∧ Γ_224 (39, 0, 0) 1 ≤ T0 ∧ fw (Γ_202 (43, 8800, 0)) (Γ_224 (43, 8800, 0)) (Γ_202 (44, 22, 0)) (Γ_224 (44, 22, 0)) t0 ∧ (∀ i : Nat, (i : Int) < 48 * t0 ∨ 48 * t0 + 48 ≤ i → Γ_224 (45, 1056, 0) i = Γ_202 (45, 1056, 0) i) ∧ (∀ j : Nat, ¬ j = t0.toNat → Γ_224 (46, 22, 0) j = Γ_202 (46, 22, 0) j) ∧ tc (Γ_224 (43, 8800, 0)) (Γ_224 (45, 1056, 0)) (Γ_224 (46, 22, 0)) t0 (400) ∧ (Γ_202 (46, 22, 0) t0.toNat ≤ Γ_224 (46, 22, 0) t0.toNat ∧ Γ_224 (46, 22, 0) t0.toNat ≤ Γ_202 (46, 22, 0) t0.toNat + 1) := hw_220
                      have e8_SG : Γ_202 (43, 8800, 0) = Γ (43, 8800, 0) := hgM (43, 8800, 0) (by decide)
                      have e8_ML : Γ_202 (44, 22, 0) = Γ (44, 22, 0) := hgM (44, 22, 0) (by decide)
                      have e8_MC : Γ_202 (45, 1056, 0) = Γ (45, 1056, 0) := hgM (45, 1056, 0) (by decide)
                      have e8_MS : Γ_202 (46, 22, 0) = Γ (46, 22, 0) := hgM (46, 22, 0) (by decide)
                      have e9_ER : Γ_224 (47, 6, 0) = Γ (47, 6, 0) := (hcg_225 (47, 6, 0) (by decide)).trans (hgM (47, 6, 0) (by decide))
                      have f9_ER : Γ_224 (47, 6, 0) t0.toNat = Γ (47, 6, 0) t0.toNat := congrFun e9_ER _
                      have e9_BE : Γ_224 (48, 22, 0) = Γ (48, 22, 0) := (hcg_225 (48, 22, 0) (by decide)).trans (hgM (48, 22, 0) (by decide))
                      have f9_BE : Γ_224 (48, 22, 0) t0.toNat = Γ (48, 22, 0) t0.toNat := congrFun e9_BE _
                      have e9_GF : Γ_224 (49, 22, 0) = Γ (49, 22, 0) := (hcg_225 (49, 22, 0) (by decide)).trans (hgM (49, 22, 0) (by decide))
                      have f9_GF : Γ_224 (49, 22, 0) t0.toNat = Γ (49, 22, 0) t0.toNat := congrFun e9_GF _
                      have e9_GT : Γ_224 (50, 22, 0) = Γ (50, 22, 0) := (hcg_225 (50, 22, 0) (by decide)).trans (hgM (50, 22, 0) (by decide))
                      have f9_GT : Γ_224 (50, 22, 0) t0.toNat = Γ (50, 22, 0) t0.toNat := congrFun e9_GT _
                      have e9_WI : Γ_224 (51, 22, 0) = Γ (51, 22, 0) := (hcg_225 (51, 22, 0) (by decide)).trans (hgM (51, 22, 0) (by decide))
                      have f9_WI : Γ_224 (51, 22, 0) t0.toNat = Γ (51, 22, 0) t0.toNat := congrFun e9_WI _
                      have hrg9 : rg Γ Γ_224 t0 := ⟨(fun i9 q9 => (hw_220.2.2.2.2.2.1.2.2 i9 (by omega)).trans (congrFun e8_SG i9)), (fun i9 q9 => (hw_220.2.2.2.2.2.2.1 i9 q9).trans (congrFun e8_MC i9)), fun j9 q9 => ⟨(hw_220.2.2.2.2.2.2.2.1 j9 (by omega)).trans (congrFun e8_MS j9), by rw [e9_ER], by rw [e9_BE], by rw [e9_GF], by rw [e9_GT], by rw [e9_WI]⟩⟩
                      have f8_SG : Γ_202 (43, 8800, 0) t0.toNat = Γ (43, 8800, 0) t0.toNat := congrFun e8_SG _
                      have f8_ML : Γ_202 (44, 22, 0) t0.toNat = Γ (44, 22, 0) t0.toNat := congrFun e8_ML _
                      have f8_MC : Γ_202 (45, 1056, 0) t0.toNat = Γ (45, 1056, 0) t0.toNat := congrFun e8_MC _
                      have f8_MS : Γ_202 (46, 22, 0) t0.toNat = Γ (46, 22, 0) t0.toNat := congrFun e8_MS _
                      have hms9 := hw_220.2.2.2.2.2.2.2.2.2
                      obtain ⟨b1, _, b3, b4, b5, b6, b7⟩ := id hrb
                      obtain ⟨r1, r2, r3, r4, r5, r6⟩ := id hrq
                      have hrb9 : rb Γ_224 t0 := ⟨by omega, hw_220.2.2.2.2.2.2.2.2.1, fun q9 => (by have q8 := b3 q9; have q7 := r5 q9; omega), by omega, by omega, by omega, by omega⟩
                      have hrq9 : tl_J r_221 (rq Γ_224 t0) := hE_226.imp (fun ⟨q1, q2, q3, q4⟩ => ⟨⟨by have q9 := hw_220.2.2.2.2.2.1.2.1; omega, q2⟩, q3, by omega, by rw [q1, tgu_s]; omega, fun q9 => (by have q8 := r5 q9; omega), q4⟩)
                      have hpo9 : tl_J (r_221 : Int32) (rq Γ_224 t0) ∧ Γ_224 (39, 0, 0) 0 = Γ (39, 0, 0) 0 ∧ Γ_224 (39, 0, 0) 4 = Γ (39, 0, 0) 4 ∧ Γ (39, 0, 0) 1 ≤ Γ_224 (39, 0, 0) 1 ∧ Γ_224 (39, 0, 0) 1 ≤ T0 ∧ rg Γ Γ_224 t0 ∧ rb Γ_224 t0 := ⟨hrq9, ⟨(by omega), (by omega), (by omega), (by omega), hrg9, hrb9⟩⟩
                      exact W.zret (ty := .boolean) (v := r_221) hx hb hr hE_226.nar (fun t ht hW => ⟨⟨_, (f_222, Γ_224), rfl, hpo9, by rw [ht]; exact hP, hI, hfr, hgr⟩, hS.F ht⟩) hS.2.2 dX12_clauseHere_307
                    · have c_205 := hE_204.f c_205
                      refine lv_iconst (v := 1) hx hb dX12_clauseHere_299 (by decide) ?_
                      refine lv_goto (tgt := 304) hx hb dX12_clauseHere_300 (by decide) ?_
                      have f_SG : Γ_202 (43, 8800, 0) t0.toNat = Γ (43, 8800, 0) t0.toNat := congrFun (hgM (43, 8800, 0) (by decide)) _
                      have f_ML : Γ_202 (44, 22, 0) t0.toNat = Γ (44, 22, 0) t0.toNat := congrFun (hgM (44, 22, 0) (by decide)) _
                      have f_MC : Γ_202 (45, 1056, 0) t0.toNat = Γ (45, 1056, 0) t0.toNat := congrFun (hgM (45, 1056, 0) (by decide)) _
                      have f_MS : Γ_202 (46, 22, 0) t0.toNat = Γ (46, 22, 0) t0.toNat := congrFun (hgM (46, 22, 0) (by decide)) _
                      have f_ER : Γ_202 (47, 6, 0) t0.toNat = Γ (47, 6, 0) t0.toNat := congrFun (hgM (47, 6, 0) (by decide)) _
                      have f_BE : Γ_202 (48, 22, 0) t0.toNat = Γ (48, 22, 0) t0.toNat := congrFun (hgM (48, 22, 0) (by decide)) _
                      have f_GF : Γ_202 (49, 22, 0) t0.toNat = Γ (49, 22, 0) t0.toNat := congrFun (hgM (49, 22, 0) (by decide)) _
                      have f_GT : Γ_202 (50, 22, 0) t0.toNat = Γ (50, 22, 0) t0.toNat := congrFun (hgM (50, 22, 0) (by decide)) _
                      have f_WI : Γ_202 (51, 22, 0) t0.toNat = Γ (51, 22, 0) t0.toNat := congrFun (hgM (51, 22, 0) (by decide)) _
                      obtain ⟨r_228, v_229, q_230, hf_227, hr_231, hv_232⟩ := (show tp_o_M L K 0 0 (Γ_202 (39, 0, 0)) (f_200 o) from hI.at ho)
                      have hx_233 : (v_229 0).toInt = Γ_202 (39, 0, 0) 0 := hv_232 0 (by decide)
                      have hx_234 : (v_229 1).toInt = Γ_202 (39, 0, 0) 1 := hv_232 1 (by decide)
                      have hx_235 : (v_229 3).toInt = Γ_202 (39, 0, 0) 3 := hv_232 3 (by decide)
                      have hx_236 : (v_229 4).toInt = Γ_202 (39, 0, 0) 4 := hv_232 4 (by decide)
                      have hx_237 : (v_229 5).toInt = Γ_202 (39, 0, 0) 5 := hv_232 5 (by decide)
                      have hx_238 : (v_229 6).toInt = Γ_202 (39, 0, 0) 6 := hv_232 6 (by decide)
                      have hx_239 : (v_229 7).toInt = Γ_202 (39, 0, 0) 7 := hv_232 7 (by decide)
                      have hx_240 : (v_229 8).toInt = Γ_202 (39, 0, 0) 8 := hv_232 8 (by decide)
                      refine tq_ciR hS (hAf _ hS.1) (tq_rV (As := [.int 1]) (rest := []) ⟨hx, hb, hml, hown, hta⟩ (tp_P.pre hK hN hL hU hI hP) (tp_recv hK hP ho.1 hf_227 rfl) lk_X12_318 (r_clauseOf_1 l D cy H.size L K Γ_202 f_200 o τ T0 t0 ho ((hgr _ (by decide)).trans ht) (by first | omega | (simp only [Int32.toInt_toInt64]; omega) | decide | assumption) (by first | omega | (simp only [Int32.toInt_toInt64]; omega) | decide | assumption) (by first | omega | (simp only [Int32.toInt_toInt64]; omega) | decide | assumption) (by first | omega | (simp only [Int32.toInt_toInt64]; omega) | decide | assumption) (by first | omega | (simp only [Int32.toInt_toInt64]; omega) | decide | assumption) (by first | omega | (simp only [Int32.toInt_toInt64]; omega) | decide | assumption) (by rw [hgM (43, 8800, 0) (by decide), hgM (45, 1056, 0) (by decide), hgM (46, 22, 0) (by decide), hgM (44, 22, 0) (by decide)]; exact hrq.2.2.2.2.2)) rfl rfl ⟨Nat.le_of_ble_eq_true rfl, Nat.le_of_ble_eq_true rfl⟩ rfl hl.1 rfl (Nat.le_of_ble_eq_true rfl) dX12_clauseHere_304 ⟨Nat.le_of_ble_eq_true rfl, Nat.le_of_ble_eq_true rfl⟩) (fun r_242 f_243 Γ_245 H locs hw_241 hP hI hc_244 hcg_246 hS => ?_)
                      have hD : va_D A (va_pl L f_243) := tp_D hL hAL
                      have hfr := tp_fr2 hfr hc_244 (by decide)
                      have hgr : ∀ κ : tk_K, κ.1 ∉ ([39, 43, 44, 52, 45, 46, 53, 47, 54, 55, 56, 48, 49, 50, 51] : List Nat) → Γ_245 κ = Γ κ := tg_fr2 hgr hcg_246 (by decide)
                      obtain ⟨hE_247, hw_241⟩ := hw_241
                      have hE_247 : tl_J r_242 (Γ_245 (46, 22, 0) = tgu (Γ_202 (46, 22, 0)) t0.toNat (Γ_202 (46, 22, 0) t0.toNat + 1) ∧ Γ_245 (44, 22, 0) t0.toNat ≤ Γ_245 (39, 0, 0) 1 ∧ (0 ≤ Γ_245 (39, 0, 0) 5 ∧ Γ_245 (39, 0, 0) 5 ≤ 60) ∧ tc (Γ_245 (43, 8800, 0)) (Γ_245 (45, 1056, 0)) (Γ_245 (46, 22, 0)) t0 (Γ_245 (44, 22, 0) t0.toNat)) := hE_247
                      have hw_241 : Γ_245 (39, 0, 0) 0 = Γ_202 (39, 0, 0) 0 ∧ Γ_245 (39, 0, 0) 4 = Γ_202 (39, 0, 0) 4 ∧ Γ_245 (39, 0, 0) 7 = Γ_202 (39, 0, 0) 7 ∧ Γ_202 (39, 0, 0) 1 ≤ Γ_245 (39, 0, 0) 1 ∧ Γ_245 (39, 0, 0) 1 ≤ T0 ∧ fw (Γ_202 (43, 8800, 0)) (Γ_245 (43, 8800, 0)) (Γ_202 (44, 22, 0)) (Γ_245 (44, 22, 0)) t0 ∧ (∀ i : Nat, (i : Int) < 48 * t0 ∨ 48 * t0 + 48 ≤ i → Γ_245 (45, 1056, 0) i = Γ_202 (45, 1056, 0) i) ∧ (∀ j : Nat, ¬ j = t0.toNat → Γ_245 (46, 22, 0) j = Γ_202 (46, 22, 0) j) ∧ tc (Γ_245 (43, 8800, 0)) (Γ_245 (45, 1056, 0)) (Γ_245 (46, 22, 0)) t0 (400) ∧ (Γ_202 (46, 22, 0) t0.toNat ≤ Γ_245 (46, 22, 0) t0.toNat ∧ Γ_245 (46, 22, 0) t0.toNat ≤ Γ_202 (46, 22, 0) t0.toNat + 1) := hw_241
                      have e8_SG : Γ_202 (43, 8800, 0) = Γ (43, 8800, 0) := hgM (43, 8800, 0) (by decide)
                      have e8_ML : Γ_202 (44, 22, 0) = Γ (44, 22, 0) := hgM (44, 22, 0) (by decide)
                      have e8_MC : Γ_202 (45, 1056, 0) = Γ (45, 1056, 0) := hgM (45, 1056, 0) (by decide)
                      have e8_MS : Γ_202 (46, 22, 0) = Γ (46, 22, 0) := hgM (46, 22, 0) (by decide)
                      have e9_ER : Γ_245 (47, 6, 0) = Γ (47, 6, 0) := (hcg_246 (47, 6, 0) (by decide)).trans (hgM (47, 6, 0) (by decide))
                      have f9_ER : Γ_245 (47, 6, 0) t0.toNat = Γ (47, 6, 0) t0.toNat := congrFun e9_ER _
                      have e9_BE : Γ_245 (48, 22, 0) = Γ (48, 22, 0) := (hcg_246 (48, 22, 0) (by decide)).trans (hgM (48, 22, 0) (by decide))
                      have f9_BE : Γ_245 (48, 22, 0) t0.toNat = Γ (48, 22, 0) t0.toNat := congrFun e9_BE _
                      have e9_GF : Γ_245 (49, 22, 0) = Γ (49, 22, 0) := (hcg_246 (49, 22, 0) (by decide)).trans (hgM (49, 22, 0) (by decide))
                      have f9_GF : Γ_245 (49, 22, 0) t0.toNat = Γ (49, 22, 0) t0.toNat := congrFun e9_GF _
                      have e9_GT : Γ_245 (50, 22, 0) = Γ (50, 22, 0) := (hcg_246 (50, 22, 0) (by decide)).trans (hgM (50, 22, 0) (by decide))
                      have f9_GT : Γ_245 (50, 22, 0) t0.toNat = Γ (50, 22, 0) t0.toNat := congrFun e9_GT _
                      have e9_WI : Γ_245 (51, 22, 0) = Γ (51, 22, 0) := (hcg_246 (51, 22, 0) (by decide)).trans (hgM (51, 22, 0) (by decide))
                      have f9_WI : Γ_245 (51, 22, 0) t0.toNat = Γ (51, 22, 0) t0.toNat := congrFun e9_WI _
                      have hrg9 : rg Γ Γ_245 t0 := ⟨(fun i9 q9 => (hw_241.2.2.2.2.2.1.2.2 i9 (by omega)).trans (congrFun e8_SG i9)), (fun i9 q9 => (hw_241.2.2.2.2.2.2.1 i9 q9).trans (congrFun e8_MC i9)), fun j9 q9 => ⟨(hw_241.2.2.2.2.2.2.2.1 j9 (by omega)).trans (congrFun e8_MS j9), by rw [e9_ER], by rw [e9_BE], by rw [e9_GF], by rw [e9_GT], by rw [e9_WI]⟩⟩
                      have f8_SG : Γ_202 (43, 8800, 0) t0.toNat = Γ (43, 8800, 0) t0.toNat := congrFun e8_SG _
                      have f8_ML : Γ_202 (44, 22, 0) t0.toNat = Γ (44, 22, 0) t0.toNat := congrFun e8_ML _
                      have f8_MC : Γ_202 (45, 1056, 0) t0.toNat = Γ (45, 1056, 0) t0.toNat := congrFun e8_MC _
                      have f8_MS : Γ_202 (46, 22, 0) t0.toNat = Γ (46, 22, 0) t0.toNat := congrFun e8_MS _
                      have hms9 := hw_241.2.2.2.2.2.2.2.2.2
                      obtain ⟨b1, _, b3, b4, b5, b6, b7⟩ := id hrb
                      obtain ⟨r1, r2, r3, r4, r5, r6⟩ := id hrq
                      have hrb9 : rb Γ_245 t0 := ⟨by omega, hw_241.2.2.2.2.2.2.2.2.1, fun q9 => (by have q8 := b3 q9; have q7 := r5 q9; omega), by omega, by omega, by omega, by omega⟩
                      have hrq9 : tl_J r_242 (rq Γ_245 t0) := hE_247.imp (fun ⟨q1, q2, q3, q4⟩ => ⟨⟨by have q9 := hw_241.2.2.2.2.2.1.2.1; omega, q2⟩, q3, by omega, by rw [q1, tgu_s]; omega, fun q9 => (by have q8 := r5 q9; omega), q4⟩)
                      have hpo9 : tl_J (r_242 : Int32) (rq Γ_245 t0) ∧ Γ_245 (39, 0, 0) 0 = Γ (39, 0, 0) 0 ∧ Γ_245 (39, 0, 0) 4 = Γ (39, 0, 0) 4 ∧ Γ (39, 0, 0) 1 ≤ Γ_245 (39, 0, 0) 1 ∧ Γ_245 (39, 0, 0) 1 ≤ T0 ∧ rg Γ Γ_245 t0 ∧ rb Γ_245 t0 := ⟨hrq9, ⟨(by omega), (by omega), (by omega), (by omega), hrg9, hrb9⟩⟩
                      exact W.zret (ty := .boolean) (v := r_242) hx hb hr hE_247.nar (fun t ht hW => ⟨⟨_, (f_243, Γ_245), rfl, hpo9, by rw [ht]; exact hP, hI, hfr, hgr⟩, hS.F ht⟩) hS.2.2 dX12_clauseHere_307
                  · have c_183 := hE_182.t c_183
                    refine lv_aload_n hx hb dX12_clauseHere_273 rfl (lv_at hl 2 rfl) ?_
                    refine lv_aload_n hx hb dX12_clauseHere_274 rfl (lv_at hl 2 rfl) ?_
                    obtain ⟨r_249, v_250, q_251, hf_248, hr_252, hv_253⟩ := (show tp_o_M L K 0 0 (Γ_180 (39, 0, 0)) (f_178 o) from hI.at ho)
                    have hx_254 : (v_250 0).toInt = Γ_180 (39, 0, 0) 0 := hv_253 0 (by decide)
                    have hx_255 : (v_250 1).toInt = Γ_180 (39, 0, 0) 1 := hv_253 1 (by decide)
                    have hx_256 : (v_250 3).toInt = Γ_180 (39, 0, 0) 3 := hv_253 3 (by decide)
                    have hx_257 : (v_250 4).toInt = Γ_180 (39, 0, 0) 4 := hv_253 4 (by decide)
                    have hx_258 : (v_250 5).toInt = Γ_180 (39, 0, 0) 5 := hv_253 5 (by decide)
                    have hx_259 : (v_250 6).toInt = Γ_180 (39, 0, 0) 6 := hv_253 6 (by decide)
                    have hx_260 : (v_250 7).toInt = Γ_180 (39, 0, 0) 7 := hv_253 7 (by decide)
                    have hx_261 : (v_250 8).toInt = Γ_180 (39, 0, 0) 8 := hv_253 8 (by decide)
                    refine tp_get (cy := cy) (ci := 12) (v := .ref (r_249 15)) (C := RX12) (T := TX12) (N := 49) hx hb hta inlX12 hown hK hP ho.1 hf_248 rfl 16 (by decide) (hta _ wk_165) (fun _ h9 => h9) rfl dX12_clauseHere_275 ?_
                    refine lv_iconst (v := 0) hx hb dX12_clauseHere_278 (by decide) ?_
                    refine lv_bipush (v := 50) hx hb dX12_clauseHere_279 (by decide) ?_
                    refine lv_iload_n hx hb dX12_clauseHere_281 rfl (lv_at hl 1 rfl) ?_
                    have f_SG : Γ_180 (43, 8800, 0) t0.toNat = Γ (43, 8800, 0) t0.toNat := congrFun (hgM (43, 8800, 0) (by decide)) _
                    have f_ML : Γ_180 (44, 22, 0) t0.toNat = Γ (44, 22, 0) t0.toNat := congrFun (hgM (44, 22, 0) (by decide)) _
                    have f_MC : Γ_180 (45, 1056, 0) t0.toNat = Γ (45, 1056, 0) t0.toNat := congrFun (hgM (45, 1056, 0) (by decide)) _
                    have f_MS : Γ_180 (46, 22, 0) t0.toNat = Γ (46, 22, 0) t0.toNat := congrFun (hgM (46, 22, 0) (by decide)) _
                    have f_ER : Γ_180 (47, 6, 0) t0.toNat = Γ (47, 6, 0) t0.toNat := congrFun (hgM (47, 6, 0) (by decide)) _
                    have f_BE : Γ_180 (48, 22, 0) t0.toNat = Γ (48, 22, 0) t0.toNat := congrFun (hgM (48, 22, 0) (by decide)) _
                    have f_GF : Γ_180 (49, 22, 0) t0.toNat = Γ (49, 22, 0) t0.toNat := congrFun (hgM (49, 22, 0) (by decide)) _
                    have f_GT : Γ_180 (50, 22, 0) t0.toNat = Γ (50, 22, 0) t0.toNat := congrFun (hgM (50, 22, 0) (by decide)) _
                    have f_WI : Γ_180 (51, 22, 0) t0.toNat = Γ (51, 22, 0) t0.toNat := congrFun (hgM (51, 22, 0) (by decide)) _
                    refine tq_ciR hS (hAf _ hS.1) (tq_rV (As := [.ref (r_249 15), .int 0, .int 50, .int (v_23 1)]) (rest := []) ⟨hx, hb, hml, hown, hta⟩ (tp_P.pre hK hN hL hU hI hP) (tp_recv hK hP ho.1 hf_248 rfl) lk_X12_284 (r_sets_MWIDE l D cy H.size L K Γ_180 f_178 o (r_249 15) 0 50 (v_23 1) τ T0 t0 ho (show tp_r L K 51 22 0 (r_249 15) from hr_252 15 (by decide)) ((hgr _ (by decide)).trans ht) (by first | omega | (simp only [Int32.toInt_toInt64]; omega) | decide | assumption) (by first | omega | (simp only [Int32.toInt_toInt64]; omega) | decide | assumption) (by first | omega | (simp only [Int32.toInt_toInt64]; omega) | decide | assumption)) rfl rfl ⟨Nat.le_of_ble_eq_true rfl, Nat.le_of_ble_eq_true rfl⟩ rfl hl.1 rfl (Nat.le_of_ble_eq_true rfl) dX12_clauseHere_282 ⟨Nat.le_of_ble_eq_true rfl, Nat.le_of_ble_eq_true rfl⟩) (fun r_263 f_264 Γ_266 H locs hw_262 hP hI hc_265 hcg_267 hS => ?_)
                    have hD : va_D A (va_pl L f_264) := tp_D hL hAL
                    have hfr := tp_fr2 hfr hc_265 (by decide)
                    have hgr : ∀ κ : tk_K, κ.1 ∉ ([39, 43, 44, 52, 45, 46, 53, 47, 54, 55, 56, 48, 49, 50, 51] : List Nat) → Γ_266 κ = Γ κ := tg_fr2 hgr hcg_267 (by decide)
                    obtain ⟨hE_268, hw_262⟩ := hw_262
                    have hE_268 : tl_J r_263 (((0 : Int) ≤ Γ_266 (39, 0, 0) 3 ∧ Γ_266 (39, 0, 0) 3 ≤ (50 : Int)) ∧ Γ_180 (39, 0, 0) 1 + 1 ≤ Γ_266 (39, 0, 0) 1 ∧ Γ_266 (51, 22, 0) = tgu (Γ_180 (51, 22, 0)) t0.toNat (Γ_266 (39, 0, 0) 3)) := hE_268
                    have hw_262 : Γ_266 (39, 0, 0) 0 = Γ_180 (39, 0, 0) 0 ∧ Γ_266 (39, 0, 0) 4 = Γ_180 (39, 0, 0) 4 ∧ Γ_266 (39, 0, 0) 5 = Γ_180 (39, 0, 0) 5 ∧ Γ_266 (39, 0, 0) 6 = Γ_180 (39, 0, 0) 6 ∧ Γ_266 (39, 0, 0) 7 = Γ_180 (39, 0, 0) 7 ∧ Γ_266 (39, 0, 0) 8 = Γ_180 (39, 0, 0) 8 ∧ Γ_180 (39, 0, 0) 1 ≤ Γ_266 (39, 0, 0) 1 ∧ Γ_266 (39, 0, 0) 1 ≤ T0 ∧ (∀ j : Nat, ¬ j = t0.toNat → Γ_266 (51, 22, 0) j = Γ_180 (51, 22, 0) j) ∧ (Γ_266 (51, 22, 0) t0.toNat = Γ_180 (51, 22, 0) t0.toNat ∨ ((0 : Int) ≤ Γ_266 (51, 22, 0) t0.toNat ∧ Γ_266 (51, 22, 0) t0.toNat ≤ (50 : Int))) := hw_262
                    have e9_SG : Γ_266 (43, 8800, 0) = Γ (43, 8800, 0) := (hcg_267 (43, 8800, 0) (by decide)).trans (hgM (43, 8800, 0) (by decide))
                    have f9_SG : Γ_266 (43, 8800, 0) t0.toNat = Γ (43, 8800, 0) t0.toNat := congrFun e9_SG _
                    have e9_ML : Γ_266 (44, 22, 0) = Γ (44, 22, 0) := (hcg_267 (44, 22, 0) (by decide)).trans (hgM (44, 22, 0) (by decide))
                    have f9_ML : Γ_266 (44, 22, 0) t0.toNat = Γ (44, 22, 0) t0.toNat := congrFun e9_ML _
                    have e9_MC : Γ_266 (45, 1056, 0) = Γ (45, 1056, 0) := (hcg_267 (45, 1056, 0) (by decide)).trans (hgM (45, 1056, 0) (by decide))
                    have f9_MC : Γ_266 (45, 1056, 0) t0.toNat = Γ (45, 1056, 0) t0.toNat := congrFun e9_MC _
                    have e9_MS : Γ_266 (46, 22, 0) = Γ (46, 22, 0) := (hcg_267 (46, 22, 0) (by decide)).trans (hgM (46, 22, 0) (by decide))
                    have f9_MS : Γ_266 (46, 22, 0) t0.toNat = Γ (46, 22, 0) t0.toNat := congrFun e9_MS _
                    have e9_ER : Γ_266 (47, 6, 0) = Γ (47, 6, 0) := (hcg_267 (47, 6, 0) (by decide)).trans (hgM (47, 6, 0) (by decide))
                    have f9_ER : Γ_266 (47, 6, 0) t0.toNat = Γ (47, 6, 0) t0.toNat := congrFun e9_ER _
                    have e9_BE : Γ_266 (48, 22, 0) = Γ (48, 22, 0) := (hcg_267 (48, 22, 0) (by decide)).trans (hgM (48, 22, 0) (by decide))
                    have f9_BE : Γ_266 (48, 22, 0) t0.toNat = Γ (48, 22, 0) t0.toNat := congrFun e9_BE _
                    have e9_GF : Γ_266 (49, 22, 0) = Γ (49, 22, 0) := (hcg_267 (49, 22, 0) (by decide)).trans (hgM (49, 22, 0) (by decide))
                    have f9_GF : Γ_266 (49, 22, 0) t0.toNat = Γ (49, 22, 0) t0.toNat := congrFun e9_GF _
                    have e9_GT : Γ_266 (50, 22, 0) = Γ (50, 22, 0) := (hcg_267 (50, 22, 0) (by decide)).trans (hgM (50, 22, 0) (by decide))
                    have f9_GT : Γ_266 (50, 22, 0) t0.toNat = Γ (50, 22, 0) t0.toNat := congrFun e9_GT _
                    have e8_WI : Γ_180 (51, 22, 0) = Γ (51, 22, 0) := hgM (51, 22, 0) (by decide)
                    have hrg9 : rg Γ Γ_266 t0 := ⟨(fun i9 _ => by rw [e9_SG]), (fun i9 _ => by rw [e9_MC]), fun j9 q9 => ⟨by rw [e9_MS], by rw [e9_ER], by rw [e9_BE], by rw [e9_GF], by rw [e9_GT], (hw_262.2.2.2.2.2.2.2.2.1 j9 (by omega)).trans (congrFun e8_WI j9)⟩⟩
                    have f8_WI : Γ_180 (51, 22, 0) t0.toNat = Γ (51, 22, 0) t0.toNat := congrFun e8_WI _
                    have hbb9 := hw_262.2.2.2.2.2.2.2.2.2
                    obtain ⟨b1, _, b3, b4, b5, b6, b7⟩ := id hrb
                    obtain ⟨r1, r2, r3, r4, r5, r6⟩ := id hrq
                    have hrb9 : rb Γ_266 t0 := ⟨by omega, (by rw [e9_SG, e9_MC, e9_MS]; exact hrb.2.1), fun q9 => (by have q8 := b3 q9; have q7 := r5 q9; omega), by omega, by omega, by omega, by omega⟩
                    have hrq9 : tl_J r_263 (rq Γ_266 t0) := hE_268.imp (fun _ => ⟨by omega, by omega, by omega, by omega, fun q9 => (by have q8 := r5 q9; omega), by rw [e9_SG, e9_MC, e9_MS, e9_ML]; exact r6⟩)
                    refine lv_goto (tgt := 307) hx hb dX12_clauseHere_285 (by decide) ?_
                    have hpo9 : tl_J (r_263 : Int32) (rq Γ_266 t0) ∧ Γ_266 (39, 0, 0) 0 = Γ (39, 0, 0) 0 ∧ Γ_266 (39, 0, 0) 4 = Γ (39, 0, 0) 4 ∧ Γ (39, 0, 0) 1 ≤ Γ_266 (39, 0, 0) 1 ∧ Γ_266 (39, 0, 0) 1 ≤ T0 ∧ rg Γ Γ_266 t0 ∧ rb Γ_266 t0 := ⟨hrq9, ⟨(by omega), (by omega), (by omega), (by omega), hrg9, hrb9⟩⟩
                    exact W.zret (ty := .boolean) (v := r_263) hx hb hr hE_268.nar (fun t ht hW => ⟨⟨_, (f_264, Γ_266), rfl, hpo9, by rw [ht]; exact hP, hI, hfr, hgr⟩, hS.F ht⟩) hS.2.2 dX12_clauseHere_307
                · have c_161 := hE_160.t c_161
                  refine lv_aload_n hx hb dX12_clauseHere_257 rfl (lv_at hl 2 rfl) ?_
                  refine lv_iload_n hx hb dX12_clauseHere_258 rfl (lv_at hl 1 rfl) ?_
                  have f_SG : Γ_158 (43, 8800, 0) t0.toNat = Γ (43, 8800, 0) t0.toNat := congrFun (hgM (43, 8800, 0) (by decide)) _
                  have f_ML : Γ_158 (44, 22, 0) t0.toNat = Γ (44, 22, 0) t0.toNat := congrFun (hgM (44, 22, 0) (by decide)) _
                  have f_MC : Γ_158 (45, 1056, 0) t0.toNat = Γ (45, 1056, 0) t0.toNat := congrFun (hgM (45, 1056, 0) (by decide)) _
                  have f_MS : Γ_158 (46, 22, 0) t0.toNat = Γ (46, 22, 0) t0.toNat := congrFun (hgM (46, 22, 0) (by decide)) _
                  have f_ER : Γ_158 (47, 6, 0) t0.toNat = Γ (47, 6, 0) t0.toNat := congrFun (hgM (47, 6, 0) (by decide)) _
                  have f_BE : Γ_158 (48, 22, 0) t0.toNat = Γ (48, 22, 0) t0.toNat := congrFun (hgM (48, 22, 0) (by decide)) _
                  have f_GF : Γ_158 (49, 22, 0) t0.toNat = Γ (49, 22, 0) t0.toNat := congrFun (hgM (49, 22, 0) (by decide)) _
                  have f_GT : Γ_158 (50, 22, 0) t0.toNat = Γ (50, 22, 0) t0.toNat := congrFun (hgM (50, 22, 0) (by decide)) _
                  have f_WI : Γ_158 (51, 22, 0) t0.toNat = Γ (51, 22, 0) t0.toNat := congrFun (hgM (51, 22, 0) (by decide)) _
                  obtain ⟨r_270, v_271, q_272, hf_269, hr_273, hv_274⟩ := (show tp_o_M L K 0 0 (Γ_158 (39, 0, 0)) (f_156 o) from hI.at ho)
                  have hx_275 : (v_271 0).toInt = Γ_158 (39, 0, 0) 0 := hv_274 0 (by decide)
                  have hx_276 : (v_271 1).toInt = Γ_158 (39, 0, 0) 1 := hv_274 1 (by decide)
                  have hx_277 : (v_271 3).toInt = Γ_158 (39, 0, 0) 3 := hv_274 3 (by decide)
                  have hx_278 : (v_271 4).toInt = Γ_158 (39, 0, 0) 4 := hv_274 4 (by decide)
                  have hx_279 : (v_271 5).toInt = Γ_158 (39, 0, 0) 5 := hv_274 5 (by decide)
                  have hx_280 : (v_271 6).toInt = Γ_158 (39, 0, 0) 6 := hv_274 6 (by decide)
                  have hx_281 : (v_271 7).toInt = Γ_158 (39, 0, 0) 7 := hv_274 7 (by decide)
                  have hx_282 : (v_271 8).toInt = Γ_158 (39, 0, 0) 8 := hv_274 8 (by decide)
                  refine tq_ciR hS (hAf _ hS.1) (tq_rV (As := [.int (v_23 1)]) (rest := []) ⟨hx, hb, hml, hown, hta⟩ (tp_P.pre hK hN hL hU hI hP) (tp_recv hK hP ho.1 hf_269 rfl) lk_X12_315 (r_X12_gapped l D cy H.size L K Γ_158 f_156 o (v_23 1) τ T0 t0 ho ((hgr _ (by decide)).trans ht) (by first | omega | (simp only [Int32.toInt_toInt64]; omega) | decide | assumption) (by first | omega | (simp only [Int32.toInt_toInt64]; omega) | decide | assumption) (by first | omega | (simp only [Int32.toInt_toInt64]; omega) | decide | assumption) (by first | omega | (simp only [Int32.toInt_toInt64]; omega) | decide | assumption) (by first | omega | (simp only [Int32.toInt_toInt64]; omega) | decide | assumption)) rfl rfl ⟨Nat.le_of_ble_eq_true rfl, Nat.le_of_ble_eq_true rfl⟩ rfl hl.1 rfl (Nat.le_of_ble_eq_true rfl) dX12_clauseHere_259 ⟨Nat.le_of_ble_eq_true rfl, Nat.le_of_ble_eq_true rfl⟩) (fun r_284 f_285 Γ_287 H locs hw_283 hP hI hc_286 hcg_288 hS => ?_)
                  have hD : va_D A (va_pl L f_285) := tp_D hL hAL
                  have hfr := tp_fr2 hfr hc_286 (by decide)
                  have hgr : ∀ κ : tk_K, κ.1 ∉ ([39, 43, 44, 52, 45, 46, 53, 47, 54, 55, 56, 48, 49, 50, 51] : List Nat) → Γ_287 κ = Γ κ := tg_fr2 hgr hcg_288 (by decide)
                  obtain ⟨hE_289, hw_283⟩ := hw_283
                  have hE_289 : tl_J r_284 (True) := hE_289
                  have hw_283 : Γ_287 (39, 0, 0) 0 = Γ_158 (39, 0, 0) 0 ∧ Γ_287 (39, 0, 0) 4 = Γ_158 (39, 0, 0) 4 ∧ Γ_287 (39, 0, 0) 5 = Γ_158 (39, 0, 0) 5 ∧ Γ_287 (39, 0, 0) 6 = Γ_158 (39, 0, 0) 6 ∧ Γ_287 (39, 0, 0) 7 = Γ_158 (39, 0, 0) 7 ∧ Γ_287 (39, 0, 0) 8 = Γ_158 (39, 0, 0) 8 ∧ Γ_158 (39, 0, 0) 1 ≤ Γ_287 (39, 0, 0) 1 ∧ Γ_287 (39, 0, 0) 1 ≤ T0 ∧ (∀ j : Nat, ¬ j = t0.toNat → Γ_287 (49, 22, 0) j = Γ_158 (49, 22, 0) j ∧ Γ_287 (50, 22, 0) j = Γ_158 (50, 22, 0) j) ∧ (-1 ≤ Γ_287 (49, 22, 0) t0.toNat ∧ Γ_287 (49, 22, 0) t0.toNat ≤ 299) ∧ (0 ≤ Γ_287 (50, 22, 0) t0.toNat ∧ Γ_287 (50, 22, 0) t0.toNat ≤ 299) := hw_283
                  have e9_SG : Γ_287 (43, 8800, 0) = Γ (43, 8800, 0) := (hcg_288 (43, 8800, 0) (by decide)).trans (hgM (43, 8800, 0) (by decide))
                  have f9_SG : Γ_287 (43, 8800, 0) t0.toNat = Γ (43, 8800, 0) t0.toNat := congrFun e9_SG _
                  have e9_ML : Γ_287 (44, 22, 0) = Γ (44, 22, 0) := (hcg_288 (44, 22, 0) (by decide)).trans (hgM (44, 22, 0) (by decide))
                  have f9_ML : Γ_287 (44, 22, 0) t0.toNat = Γ (44, 22, 0) t0.toNat := congrFun e9_ML _
                  have e9_MC : Γ_287 (45, 1056, 0) = Γ (45, 1056, 0) := (hcg_288 (45, 1056, 0) (by decide)).trans (hgM (45, 1056, 0) (by decide))
                  have f9_MC : Γ_287 (45, 1056, 0) t0.toNat = Γ (45, 1056, 0) t0.toNat := congrFun e9_MC _
                  have e9_MS : Γ_287 (46, 22, 0) = Γ (46, 22, 0) := (hcg_288 (46, 22, 0) (by decide)).trans (hgM (46, 22, 0) (by decide))
                  have f9_MS : Γ_287 (46, 22, 0) t0.toNat = Γ (46, 22, 0) t0.toNat := congrFun e9_MS _
                  have e9_ER : Γ_287 (47, 6, 0) = Γ (47, 6, 0) := (hcg_288 (47, 6, 0) (by decide)).trans (hgM (47, 6, 0) (by decide))
                  have f9_ER : Γ_287 (47, 6, 0) t0.toNat = Γ (47, 6, 0) t0.toNat := congrFun e9_ER _
                  have e9_BE : Γ_287 (48, 22, 0) = Γ (48, 22, 0) := (hcg_288 (48, 22, 0) (by decide)).trans (hgM (48, 22, 0) (by decide))
                  have f9_BE : Γ_287 (48, 22, 0) t0.toNat = Γ (48, 22, 0) t0.toNat := congrFun e9_BE _
                  have e8_GF : Γ_158 (49, 22, 0) = Γ (49, 22, 0) := hgM (49, 22, 0) (by decide)
                  have e8_GT : Γ_158 (50, 22, 0) = Γ (50, 22, 0) := hgM (50, 22, 0) (by decide)
                  have e9_WI : Γ_287 (51, 22, 0) = Γ (51, 22, 0) := (hcg_288 (51, 22, 0) (by decide)).trans (hgM (51, 22, 0) (by decide))
                  have f9_WI : Γ_287 (51, 22, 0) t0.toNat = Γ (51, 22, 0) t0.toNat := congrFun e9_WI _
                  have hrg9 : rg Γ Γ_287 t0 := ⟨(fun i9 _ => by rw [e9_SG]), (fun i9 _ => by rw [e9_MC]), fun j9 q9 => ⟨by rw [e9_MS], by rw [e9_ER], by rw [e9_BE], (hw_283.2.2.2.2.2.2.2.2.1 j9 (by omega)).1.trans (congrFun e8_GF j9), (hw_283.2.2.2.2.2.2.2.2.1 j9 (by omega)).2.trans (congrFun e8_GT j9), by rw [e9_WI]⟩⟩
                  have f8_GF : Γ_158 (49, 22, 0) t0.toNat = Γ (49, 22, 0) t0.toNat := congrFun e8_GF _
                  have f8_GT : Γ_158 (50, 22, 0) t0.toNat = Γ (50, 22, 0) t0.toNat := congrFun e8_GT _
                  have hgg9 := hw_283.2.2.2.2.2.2.2.2.2.1
                  have hgg8 := hw_283.2.2.2.2.2.2.2.2.2.2
                  obtain ⟨b1, _, b3, b4, b5, b6, b7⟩ := id hrb
                  obtain ⟨r1, r2, r3, r4, r5, r6⟩ := id hrq
                  have hrb9 : rb Γ_287 t0 := ⟨by omega, (by rw [e9_SG, e9_MC, e9_MS]; exact hrb.2.1), fun q9 => (by have q8 := b3 q9; have q7 := r5 q9; omega), by omega, by omega, by omega, by omega⟩
                  have hrq9 : tl_J r_284 (rq Γ_287 t0) := hE_289.imp (fun _ => ⟨by omega, by omega, by omega, by omega, fun q9 => (by have q8 := r5 q9; omega), by rw [e9_SG, e9_MC, e9_MS, e9_ML]; exact r6⟩)
                  have hpo9 : tl_J (r_284 : Int32) (rq Γ_287 t0) ∧ Γ_287 (39, 0, 0) 0 = Γ (39, 0, 0) 0 ∧ Γ_287 (39, 0, 0) 4 = Γ (39, 0, 0) 4 ∧ Γ (39, 0, 0) 1 ≤ Γ_287 (39, 0, 0) 1 ∧ Γ_287 (39, 0, 0) 1 ≤ T0 ∧ rg Γ Γ_287 t0 ∧ rb Γ_287 t0 := ⟨hrq9, ⟨(by omega), (by omega), (by omega), (by omega), hrg9, hrb9⟩⟩
                  exact W.zret (ty := .boolean) (v := r_284) hx hb hr hE_289.nar (fun t ht hW => ⟨⟨_, (f_285, Γ_287), rfl, hpo9, by rw [ht]; exact hP, hI, hfr, hgr⟩, hS.F ht⟩) hS.2.2 dX12_clauseHere_262
              · have c_139 := hE_138.t c_139
                refine lv_aload_n hx hb dX12_clauseHere_234 rfl (lv_at hl 2 rfl) ?_
                refine lv_aload_n hx hb dX12_clauseHere_235 rfl (lv_at hl 2 rfl) ?_
                obtain ⟨r_291, v_292, q_293, hf_290, hr_294, hv_295⟩ := (show tp_o_M L K 0 0 (Γ_136 (39, 0, 0)) (f_134 o) from hI.at ho)
                have hx_296 : (v_292 0).toInt = Γ_136 (39, 0, 0) 0 := hv_295 0 (by decide)
                have hx_297 : (v_292 1).toInt = Γ_136 (39, 0, 0) 1 := hv_295 1 (by decide)
                have hx_298 : (v_292 3).toInt = Γ_136 (39, 0, 0) 3 := hv_295 3 (by decide)
                have hx_299 : (v_292 4).toInt = Γ_136 (39, 0, 0) 4 := hv_295 4 (by decide)
                have hx_300 : (v_292 5).toInt = Γ_136 (39, 0, 0) 5 := hv_295 5 (by decide)
                have hx_301 : (v_292 6).toInt = Γ_136 (39, 0, 0) 6 := hv_295 6 (by decide)
                have hx_302 : (v_292 7).toInt = Γ_136 (39, 0, 0) 7 := hv_295 7 (by decide)
                have hx_303 : (v_292 8).toInt = Γ_136 (39, 0, 0) 8 := hv_295 8 (by decide)
                refine tp_get (cy := cy) (ci := 12) (v := .ref (r_291 12)) (C := RX12) (T := TX12) (N := 49) hx hb hta inlX12 hown hK hP ho.1 hf_290 rfl 13 (by decide) (hta _ wk_162) (fun _ h9 => h9) rfl dX12_clauseHere_236 ?_
                refine lv_iconst (v := 0) hx hb dX12_clauseHere_239 (by decide) ?_
                refine lv_bipush (v := 40) hx hb dX12_clauseHere_240 (by decide) ?_
                refine lv_iload_n hx hb dX12_clauseHere_242 rfl (lv_at hl 1 rfl) ?_
                have f_SG : Γ_136 (43, 8800, 0) t0.toNat = Γ (43, 8800, 0) t0.toNat := congrFun (hgM (43, 8800, 0) (by decide)) _
                have f_ML : Γ_136 (44, 22, 0) t0.toNat = Γ (44, 22, 0) t0.toNat := congrFun (hgM (44, 22, 0) (by decide)) _
                have f_MC : Γ_136 (45, 1056, 0) t0.toNat = Γ (45, 1056, 0) t0.toNat := congrFun (hgM (45, 1056, 0) (by decide)) _
                have f_MS : Γ_136 (46, 22, 0) t0.toNat = Γ (46, 22, 0) t0.toNat := congrFun (hgM (46, 22, 0) (by decide)) _
                have f_ER : Γ_136 (47, 6, 0) t0.toNat = Γ (47, 6, 0) t0.toNat := congrFun (hgM (47, 6, 0) (by decide)) _
                have f_BE : Γ_136 (48, 22, 0) t0.toNat = Γ (48, 22, 0) t0.toNat := congrFun (hgM (48, 22, 0) (by decide)) _
                have f_GF : Γ_136 (49, 22, 0) t0.toNat = Γ (49, 22, 0) t0.toNat := congrFun (hgM (49, 22, 0) (by decide)) _
                have f_GT : Γ_136 (50, 22, 0) t0.toNat = Γ (50, 22, 0) t0.toNat := congrFun (hgM (50, 22, 0) (by decide)) _
                have f_WI : Γ_136 (51, 22, 0) t0.toNat = Γ (51, 22, 0) t0.toNat := congrFun (hgM (51, 22, 0) (by decide)) _
                refine tq_ciR hS (hAf _ hS.1) (tq_rV (As := [.ref (r_291 12), .int 0, .int 40, .int (v_23 1)]) (rest := []) ⟨hx, hb, hml, hown, hta⟩ (tp_P.pre hK hN hL hU hI hP) (tp_recv hK hP ho.1 hf_290 rfl) lk_X12_284 (r_sets_MBENDS l D cy H.size L K Γ_136 f_134 o (r_291 12) 0 40 (v_23 1) τ T0 t0 ho (show tp_r L K 48 22 0 (r_291 12) from hr_294 12 (by decide)) ((hgr _ (by decide)).trans ht) (by first | omega | (simp only [Int32.toInt_toInt64]; omega) | decide | assumption) (by first | omega | (simp only [Int32.toInt_toInt64]; omega) | decide | assumption) (by first | omega | (simp only [Int32.toInt_toInt64]; omega) | decide | assumption)) rfl rfl ⟨Nat.le_of_ble_eq_true rfl, Nat.le_of_ble_eq_true rfl⟩ rfl hl.1 rfl (Nat.le_of_ble_eq_true rfl) dX12_clauseHere_243 ⟨Nat.le_of_ble_eq_true rfl, Nat.le_of_ble_eq_true rfl⟩) (fun r_305 f_306 Γ_308 H locs hw_304 hP hI hc_307 hcg_309 hS => ?_)
                have hD : va_D A (va_pl L f_306) := tp_D hL hAL
                have hfr := tp_fr2 hfr hc_307 (by decide)
                have hgr : ∀ κ : tk_K, κ.1 ∉ ([39, 43, 44, 52, 45, 46, 53, 47, 54, 55, 56, 48, 49, 50, 51] : List Nat) → Γ_308 κ = Γ κ := tg_fr2 hgr hcg_309 (by decide)
                obtain ⟨hE_310, hw_304⟩ := hw_304
                have hE_310 : tl_J r_305 (((0 : Int) ≤ Γ_308 (39, 0, 0) 3 ∧ Γ_308 (39, 0, 0) 3 ≤ (40 : Int)) ∧ Γ_136 (39, 0, 0) 1 + 1 ≤ Γ_308 (39, 0, 0) 1 ∧ Γ_308 (48, 22, 0) = tgu (Γ_136 (48, 22, 0)) t0.toNat (Γ_308 (39, 0, 0) 3)) := hE_310
                have hw_304 : Γ_308 (39, 0, 0) 0 = Γ_136 (39, 0, 0) 0 ∧ Γ_308 (39, 0, 0) 4 = Γ_136 (39, 0, 0) 4 ∧ Γ_308 (39, 0, 0) 5 = Γ_136 (39, 0, 0) 5 ∧ Γ_308 (39, 0, 0) 6 = Γ_136 (39, 0, 0) 6 ∧ Γ_308 (39, 0, 0) 7 = Γ_136 (39, 0, 0) 7 ∧ Γ_308 (39, 0, 0) 8 = Γ_136 (39, 0, 0) 8 ∧ Γ_136 (39, 0, 0) 1 ≤ Γ_308 (39, 0, 0) 1 ∧ Γ_308 (39, 0, 0) 1 ≤ T0 ∧ (∀ j : Nat, ¬ j = t0.toNat → Γ_308 (48, 22, 0) j = Γ_136 (48, 22, 0) j) ∧ (Γ_308 (48, 22, 0) t0.toNat = Γ_136 (48, 22, 0) t0.toNat ∨ ((0 : Int) ≤ Γ_308 (48, 22, 0) t0.toNat ∧ Γ_308 (48, 22, 0) t0.toNat ≤ (40 : Int))) := hw_304
                have e9_SG : Γ_308 (43, 8800, 0) = Γ (43, 8800, 0) := (hcg_309 (43, 8800, 0) (by decide)).trans (hgM (43, 8800, 0) (by decide))
                have f9_SG : Γ_308 (43, 8800, 0) t0.toNat = Γ (43, 8800, 0) t0.toNat := congrFun e9_SG _
                have e9_ML : Γ_308 (44, 22, 0) = Γ (44, 22, 0) := (hcg_309 (44, 22, 0) (by decide)).trans (hgM (44, 22, 0) (by decide))
                have f9_ML : Γ_308 (44, 22, 0) t0.toNat = Γ (44, 22, 0) t0.toNat := congrFun e9_ML _
                have e9_MC : Γ_308 (45, 1056, 0) = Γ (45, 1056, 0) := (hcg_309 (45, 1056, 0) (by decide)).trans (hgM (45, 1056, 0) (by decide))
                have f9_MC : Γ_308 (45, 1056, 0) t0.toNat = Γ (45, 1056, 0) t0.toNat := congrFun e9_MC _
                have e9_MS : Γ_308 (46, 22, 0) = Γ (46, 22, 0) := (hcg_309 (46, 22, 0) (by decide)).trans (hgM (46, 22, 0) (by decide))
                have f9_MS : Γ_308 (46, 22, 0) t0.toNat = Γ (46, 22, 0) t0.toNat := congrFun e9_MS _
                have e9_ER : Γ_308 (47, 6, 0) = Γ (47, 6, 0) := (hcg_309 (47, 6, 0) (by decide)).trans (hgM (47, 6, 0) (by decide))
                have f9_ER : Γ_308 (47, 6, 0) t0.toNat = Γ (47, 6, 0) t0.toNat := congrFun e9_ER _
                have e8_BE : Γ_136 (48, 22, 0) = Γ (48, 22, 0) := hgM (48, 22, 0) (by decide)
                have e9_GF : Γ_308 (49, 22, 0) = Γ (49, 22, 0) := (hcg_309 (49, 22, 0) (by decide)).trans (hgM (49, 22, 0) (by decide))
                have f9_GF : Γ_308 (49, 22, 0) t0.toNat = Γ (49, 22, 0) t0.toNat := congrFun e9_GF _
                have e9_GT : Γ_308 (50, 22, 0) = Γ (50, 22, 0) := (hcg_309 (50, 22, 0) (by decide)).trans (hgM (50, 22, 0) (by decide))
                have f9_GT : Γ_308 (50, 22, 0) t0.toNat = Γ (50, 22, 0) t0.toNat := congrFun e9_GT _
                have e9_WI : Γ_308 (51, 22, 0) = Γ (51, 22, 0) := (hcg_309 (51, 22, 0) (by decide)).trans (hgM (51, 22, 0) (by decide))
                have f9_WI : Γ_308 (51, 22, 0) t0.toNat = Γ (51, 22, 0) t0.toNat := congrFun e9_WI _
                have hrg9 : rg Γ Γ_308 t0 := ⟨(fun i9 _ => by rw [e9_SG]), (fun i9 _ => by rw [e9_MC]), fun j9 q9 => ⟨by rw [e9_MS], by rw [e9_ER], (hw_304.2.2.2.2.2.2.2.2.1 j9 (by omega)).trans (congrFun e8_BE j9), by rw [e9_GF], by rw [e9_GT], by rw [e9_WI]⟩⟩
                have f8_BE : Γ_136 (48, 22, 0) t0.toNat = Γ (48, 22, 0) t0.toNat := congrFun e8_BE _
                have hbb9 := hw_304.2.2.2.2.2.2.2.2.2
                obtain ⟨b1, _, b3, b4, b5, b6, b7⟩ := id hrb
                obtain ⟨r1, r2, r3, r4, r5, r6⟩ := id hrq
                have hrb9 : rb Γ_308 t0 := ⟨by omega, (by rw [e9_SG, e9_MC, e9_MS]; exact hrb.2.1), fun q9 => (by have q8 := b3 q9; have q7 := r5 q9; omega), by omega, by omega, by omega, by omega⟩
                have hrq9 : tl_J r_305 (rq Γ_308 t0) := hE_310.imp (fun _ => ⟨by omega, by omega, by omega, by omega, fun q9 => (by have q8 := r5 q9; omega), by rw [e9_SG, e9_MC, e9_MS, e9_ML]; exact r6⟩)
                have hpo9 : tl_J (r_305 : Int32) (rq Γ_308 t0) ∧ Γ_308 (39, 0, 0) 0 = Γ (39, 0, 0) 0 ∧ Γ_308 (39, 0, 0) 4 = Γ (39, 0, 0) 4 ∧ Γ (39, 0, 0) 1 ≤ Γ_308 (39, 0, 0) 1 ∧ Γ_308 (39, 0, 0) 1 ≤ T0 ∧ rg Γ Γ_308 t0 ∧ rb Γ_308 t0 := ⟨hrq9, ⟨(by omega), (by omega), (by omega), (by omega), hrg9, hrb9⟩⟩
                exact W.zret (ty := .boolean) (v := r_305) hx hb hr hE_310.nar (fun t ht hW => ⟨⟨_, (f_306, Γ_308), rfl, hpo9, by rw [ht]; exact hP, hI, hfr, hgr⟩, hS.F ht⟩) hS.2.2 dX12_clauseHere_246
            · have c_117 := hE_116.t c_117
              refine lv_aload_n hx hb dX12_clauseHere_219 rfl (lv_at hl 2 rfl) ?_
              have f_SG : Γ_114 (43, 8800, 0) t0.toNat = Γ (43, 8800, 0) t0.toNat := congrFun (hgM (43, 8800, 0) (by decide)) _
              have f_ML : Γ_114 (44, 22, 0) t0.toNat = Γ (44, 22, 0) t0.toNat := congrFun (hgM (44, 22, 0) (by decide)) _
              have f_MC : Γ_114 (45, 1056, 0) t0.toNat = Γ (45, 1056, 0) t0.toNat := congrFun (hgM (45, 1056, 0) (by decide)) _
              have f_MS : Γ_114 (46, 22, 0) t0.toNat = Γ (46, 22, 0) t0.toNat := congrFun (hgM (46, 22, 0) (by decide)) _
              have f_ER : Γ_114 (47, 6, 0) t0.toNat = Γ (47, 6, 0) t0.toNat := congrFun (hgM (47, 6, 0) (by decide)) _
              have f_BE : Γ_114 (48, 22, 0) t0.toNat = Γ (48, 22, 0) t0.toNat := congrFun (hgM (48, 22, 0) (by decide)) _
              have f_GF : Γ_114 (49, 22, 0) t0.toNat = Γ (49, 22, 0) t0.toNat := congrFun (hgM (49, 22, 0) (by decide)) _
              have f_GT : Γ_114 (50, 22, 0) t0.toNat = Γ (50, 22, 0) t0.toNat := congrFun (hgM (50, 22, 0) (by decide)) _
              have f_WI : Γ_114 (51, 22, 0) t0.toNat = Γ (51, 22, 0) t0.toNat := congrFun (hgM (51, 22, 0) (by decide)) _
              obtain ⟨r_312, v_313, q_314, hf_311, hr_315, hv_316⟩ := (show tp_o_M L K 0 0 (Γ_114 (39, 0, 0)) (f_112 o) from hI.at ho)
              have hx_317 : (v_313 0).toInt = Γ_114 (39, 0, 0) 0 := hv_316 0 (by decide)
              have hx_318 : (v_313 1).toInt = Γ_114 (39, 0, 0) 1 := hv_316 1 (by decide)
              have hx_319 : (v_313 3).toInt = Γ_114 (39, 0, 0) 3 := hv_316 3 (by decide)
              have hx_320 : (v_313 4).toInt = Γ_114 (39, 0, 0) 4 := hv_316 4 (by decide)
              have hx_321 : (v_313 5).toInt = Γ_114 (39, 0, 0) 5 := hv_316 5 (by decide)
              have hx_322 : (v_313 6).toInt = Γ_114 (39, 0, 0) 6 := hv_316 6 (by decide)
              have hx_323 : (v_313 7).toInt = Γ_114 (39, 0, 0) 7 := hv_316 7 (by decide)
              have hx_324 : (v_313 8).toInt = Γ_114 (39, 0, 0) 8 := hv_316 8 (by decide)
              refine tq_ciR hS (hAf _ hS.1) (tq_rV (As := []) (rest := []) ⟨hx, hb, hml, hown, hta⟩ (tp_P.pre hK hN hL hU hI hP) (tp_recv hK hP ho.1 hf_311 rfl) lk_X12_312 (r_X12_eaten l D cy H.size L K Γ_114 f_112 o τ T0 t0 ho ((hgr _ (by decide)).trans ht) (by first | omega | (simp only [Int32.toInt_toInt64]; omega) | decide | assumption) (by first | omega | (simp only [Int32.toInt_toInt64]; omega) | decide | assumption) (by first | omega | (simp only [Int32.toInt_toInt64]; omega) | decide | assumption) (hH.eats (by assumption)) (by have q8 := b3 (hH.eats (by assumption)); have q7 := r5 (hH.eats (by assumption)); omega)) rfl rfl ⟨Nat.le_of_ble_eq_true rfl, Nat.le_of_ble_eq_true rfl⟩ rfl hl.1 rfl (Nat.le_of_ble_eq_true rfl) dX12_clauseHere_220 ⟨Nat.le_of_ble_eq_true rfl, Nat.le_of_ble_eq_true rfl⟩) (fun r_326 f_327 Γ_329 H locs hw_325 hP hI hc_328 hcg_330 hS => ?_)
              have hD : va_D A (va_pl L f_327) := tp_D hL hAL
              have hfr := tp_fr2 hfr hc_328 (by decide)
              have hgr : ∀ κ : tk_K, κ.1 ∉ ([39, 43, 44, 52, 45, 46, 53, 47, 54, 55, 56, 48, 49, 50, 51] : List Nat) → Γ_329 κ = Γ κ := tg_fr2 hgr hcg_330 (by decide)
              obtain ⟨hE_331, hw_325⟩ := hw_325
              have hE_331 : tl_J r_326 (Γ_329 (47, 6, 0) = tgu (Γ_114 (47, 6, 0)) t0.toNat (Γ_114 (47, 6, 0) t0.toNat + 1)) := hE_331
              have hw_325 : Γ_329 (39, 0, 0) 0 = Γ_114 (39, 0, 0) 0 ∧ Γ_329 (39, 0, 0) 4 = Γ_114 (39, 0, 0) 4 ∧ Γ_329 (39, 0, 0) 5 = Γ_114 (39, 0, 0) 5 ∧ Γ_329 (39, 0, 0) 6 = Γ_114 (39, 0, 0) 6 ∧ Γ_329 (39, 0, 0) 7 = Γ_114 (39, 0, 0) 7 ∧ Γ_329 (39, 0, 0) 8 = Γ_114 (39, 0, 0) 8 ∧ Γ_114 (39, 0, 0) 1 ≤ Γ_329 (39, 0, 0) 1 ∧ Γ_329 (39, 0, 0) 1 ≤ T0 ∧ (∀ j : Nat, ¬ j = t0.toNat → Γ_329 (47, 6, 0) j = Γ_114 (47, 6, 0) j) ∧ (Γ_114 (47, 6, 0) t0.toNat ≤ Γ_329 (47, 6, 0) t0.toNat ∧ Γ_329 (47, 6, 0) t0.toNat ≤ Γ_114 (47, 6, 0) t0.toNat + 1) := hw_325
              have e9_SG : Γ_329 (43, 8800, 0) = Γ (43, 8800, 0) := (hcg_330 (43, 8800, 0) (by decide)).trans (hgM (43, 8800, 0) (by decide))
              have f9_SG : Γ_329 (43, 8800, 0) t0.toNat = Γ (43, 8800, 0) t0.toNat := congrFun e9_SG _
              have e9_ML : Γ_329 (44, 22, 0) = Γ (44, 22, 0) := (hcg_330 (44, 22, 0) (by decide)).trans (hgM (44, 22, 0) (by decide))
              have f9_ML : Γ_329 (44, 22, 0) t0.toNat = Γ (44, 22, 0) t0.toNat := congrFun e9_ML _
              have e9_MC : Γ_329 (45, 1056, 0) = Γ (45, 1056, 0) := (hcg_330 (45, 1056, 0) (by decide)).trans (hgM (45, 1056, 0) (by decide))
              have f9_MC : Γ_329 (45, 1056, 0) t0.toNat = Γ (45, 1056, 0) t0.toNat := congrFun e9_MC _
              have e9_MS : Γ_329 (46, 22, 0) = Γ (46, 22, 0) := (hcg_330 (46, 22, 0) (by decide)).trans (hgM (46, 22, 0) (by decide))
              have f9_MS : Γ_329 (46, 22, 0) t0.toNat = Γ (46, 22, 0) t0.toNat := congrFun e9_MS _
              have e8_ER : Γ_114 (47, 6, 0) = Γ (47, 6, 0) := hgM (47, 6, 0) (by decide)
              have e9_BE : Γ_329 (48, 22, 0) = Γ (48, 22, 0) := (hcg_330 (48, 22, 0) (by decide)).trans (hgM (48, 22, 0) (by decide))
              have f9_BE : Γ_329 (48, 22, 0) t0.toNat = Γ (48, 22, 0) t0.toNat := congrFun e9_BE _
              have e9_GF : Γ_329 (49, 22, 0) = Γ (49, 22, 0) := (hcg_330 (49, 22, 0) (by decide)).trans (hgM (49, 22, 0) (by decide))
              have f9_GF : Γ_329 (49, 22, 0) t0.toNat = Γ (49, 22, 0) t0.toNat := congrFun e9_GF _
              have e9_GT : Γ_329 (50, 22, 0) = Γ (50, 22, 0) := (hcg_330 (50, 22, 0) (by decide)).trans (hgM (50, 22, 0) (by decide))
              have f9_GT : Γ_329 (50, 22, 0) t0.toNat = Γ (50, 22, 0) t0.toNat := congrFun e9_GT _
              have e9_WI : Γ_329 (51, 22, 0) = Γ (51, 22, 0) := (hcg_330 (51, 22, 0) (by decide)).trans (hgM (51, 22, 0) (by decide))
              have f9_WI : Γ_329 (51, 22, 0) t0.toNat = Γ (51, 22, 0) t0.toNat := congrFun e9_WI _
              have hrg9 : rg Γ Γ_329 t0 := ⟨(fun i9 _ => by rw [e9_SG]), (fun i9 _ => by rw [e9_MC]), fun j9 q9 => ⟨by rw [e9_MS], (hw_325.2.2.2.2.2.2.2.2.1 j9 (by omega)).trans (congrFun e8_ER j9), by rw [e9_BE], by rw [e9_GF], by rw [e9_GT], by rw [e9_WI]⟩⟩
              have f8_ER : Γ_114 (47, 6, 0) t0.toNat = Γ (47, 6, 0) t0.toNat := congrFun e8_ER _
              have hbb9 := hw_325.2.2.2.2.2.2.2.2.2
              obtain ⟨b1, _, b3, b4, b5, b6, b7⟩ := id hrb
              obtain ⟨r1, r2, r3, r4, r5, r6⟩ := id hrq
              have hrb9 : rb Γ_329 t0 := ⟨by omega, (by rw [e9_SG, e9_MC, e9_MS]; exact hrb.2.1), fun q9 => (by have q8 := b3 q9; have q7 := r5 q9; omega), by omega, by omega, by omega, by omega⟩
              have hrq9 : tl_J r_326 (rq Γ_329 t0) := hE_331.imp (fun _ => ⟨by omega, by omega, by omega, by omega, fun q9 => (by have q8 := r5 q9; omega), by rw [e9_SG, e9_MC, e9_MS, e9_ML]; exact r6⟩)
              have hpo9 : tl_J (r_326 : Int32) (rq Γ_329 t0) ∧ Γ_329 (39, 0, 0) 0 = Γ (39, 0, 0) 0 ∧ Γ_329 (39, 0, 0) 4 = Γ (39, 0, 0) 4 ∧ Γ (39, 0, 0) 1 ≤ Γ_329 (39, 0, 0) 1 ∧ Γ_329 (39, 0, 0) 1 ≤ T0 ∧ rg Γ Γ_329 t0 ∧ rb Γ_329 t0 := ⟨hrq9, ⟨(by omega), (by omega), (by omega), (by omega), hrg9, hrb9⟩⟩
              exact W.zret (ty := .boolean) (v := r_326) hx hb hr hE_331.nar (fun t ht hW => ⟨⟨_, (f_327, Γ_329), rfl, hpo9, by rw [ht]; exact hP, hI, hfr, hgr⟩, hS.F ht⟩) hS.2.2 dX12_clauseHere_223
          · have c_95 := hE_94.t c_95
            refine lv_aload_n hx hb dX12_clauseHere_195 rfl (lv_at hl 2 rfl) ?_
            refine lv_aload_n hx hb dX12_clauseHere_196 rfl (lv_at hl 2 rfl) ?_
            obtain ⟨r_333, v_334, q_335, hf_332, hr_336, hv_337⟩ := (show tp_o_M L K 0 0 (Γ_92 (39, 0, 0)) (f_90 o) from hI.at ho)
            have hx_338 : (v_334 0).toInt = Γ_92 (39, 0, 0) 0 := hv_337 0 (by decide)
            have hx_339 : (v_334 1).toInt = Γ_92 (39, 0, 0) 1 := hv_337 1 (by decide)
            have hx_340 : (v_334 3).toInt = Γ_92 (39, 0, 0) 3 := hv_337 3 (by decide)
            have hx_341 : (v_334 4).toInt = Γ_92 (39, 0, 0) 4 := hv_337 4 (by decide)
            have hx_342 : (v_334 5).toInt = Γ_92 (39, 0, 0) 5 := hv_337 5 (by decide)
            have hx_343 : (v_334 6).toInt = Γ_92 (39, 0, 0) 6 := hv_337 6 (by decide)
            have hx_344 : (v_334 7).toInt = Γ_92 (39, 0, 0) 7 := hv_337 7 (by decide)
            have hx_345 : (v_334 8).toInt = Γ_92 (39, 0, 0) 8 := hv_337 8 (by decide)
            refine tp_get (cy := cy) (ci := 12) (v := .ref (r_333 11)) (C := RX12) (T := TX12) (N := 49) hx hb hta inlX12 hown hK hP ho.1 hf_332 rfl 12 (by decide) (hta _ wk_161) (fun _ h9 => h9) rfl dX12_clauseHere_197 ?_
            refine lv_iconst (v := 0) hx hb dX12_clauseHere_200 (by decide) ?_
            refine lv_sipush (v := 9999) hx hb dX12_clauseHere_201 (by decide) ?_
            refine lv_iload_n hx hb dX12_clauseHere_204 rfl (lv_at hl 1 rfl) ?_
            have f_SG : Γ_92 (43, 8800, 0) t0.toNat = Γ (43, 8800, 0) t0.toNat := congrFun (hgM (43, 8800, 0) (by decide)) _
            have f_ML : Γ_92 (44, 22, 0) t0.toNat = Γ (44, 22, 0) t0.toNat := congrFun (hgM (44, 22, 0) (by decide)) _
            have f_MC : Γ_92 (45, 1056, 0) t0.toNat = Γ (45, 1056, 0) t0.toNat := congrFun (hgM (45, 1056, 0) (by decide)) _
            have f_MS : Γ_92 (46, 22, 0) t0.toNat = Γ (46, 22, 0) t0.toNat := congrFun (hgM (46, 22, 0) (by decide)) _
            have f_ER : Γ_92 (47, 6, 0) t0.toNat = Γ (47, 6, 0) t0.toNat := congrFun (hgM (47, 6, 0) (by decide)) _
            have f_BE : Γ_92 (48, 22, 0) t0.toNat = Γ (48, 22, 0) t0.toNat := congrFun (hgM (48, 22, 0) (by decide)) _
            have f_GF : Γ_92 (49, 22, 0) t0.toNat = Γ (49, 22, 0) t0.toNat := congrFun (hgM (49, 22, 0) (by decide)) _
            have f_GT : Γ_92 (50, 22, 0) t0.toNat = Γ (50, 22, 0) t0.toNat := congrFun (hgM (50, 22, 0) (by decide)) _
            have f_WI : Γ_92 (51, 22, 0) t0.toNat = Γ (51, 22, 0) t0.toNat := congrFun (hgM (51, 22, 0) (by decide)) _
            refine tq_ciR hS (hAf _ hS.1) (tq_rV (As := [.ref (r_333 11), .int 0, .int 9999, .int (v_23 1)]) (rest := []) ⟨hx, hb, hml, hown, hta⟩ (tp_P.pre hK hN hL hU hI hP) (tp_recv hK hP ho.1 hf_332 rfl) lk_X12_284 (r_sets_MNOISE l D cy H.size L K Γ_92 f_90 o (r_333 11) 0 9999 (v_23 1) τ T0 t0 ho (show tp_r L K 56 22 0 (r_333 11) from hr_336 11 (by decide)) ((hgr _ (by decide)).trans ht) (by first | omega | (simp only [Int32.toInt_toInt64]; omega) | decide | assumption) (by first | omega | (simp only [Int32.toInt_toInt64]; omega) | decide | assumption) (by first | omega | (simp only [Int32.toInt_toInt64]; omega) | decide | assumption)) rfl rfl ⟨Nat.le_of_ble_eq_true rfl, Nat.le_of_ble_eq_true rfl⟩ rfl hl.1 rfl (Nat.le_of_ble_eq_true rfl) dX12_clauseHere_205 ⟨Nat.le_of_ble_eq_true rfl, Nat.le_of_ble_eq_true rfl⟩) (fun r_347 f_348 Γ_350 H locs hw_346 hP hI hc_349 hcg_351 hS => ?_)
            have hD : va_D A (va_pl L f_348) := tp_D hL hAL
            have hfr := tp_fr2 hfr hc_349 (by decide)
            have hgr : ∀ κ : tk_K, κ.1 ∉ ([39, 43, 44, 52, 45, 46, 53, 47, 54, 55, 56, 48, 49, 50, 51] : List Nat) → Γ_350 κ = Γ κ := tg_fr2 hgr hcg_351 (by decide)
            obtain ⟨hE_352, hw_346⟩ := hw_346
            have hE_352 : tl_J r_347 (((0 : Int) ≤ Γ_350 (39, 0, 0) 3 ∧ Γ_350 (39, 0, 0) 3 ≤ (9999 : Int)) ∧ Γ_92 (39, 0, 0) 1 + 1 ≤ Γ_350 (39, 0, 0) 1) := hE_352
            have hw_346 : Γ_350 (39, 0, 0) 0 = Γ_92 (39, 0, 0) 0 ∧ Γ_350 (39, 0, 0) 4 = Γ_92 (39, 0, 0) 4 ∧ Γ_350 (39, 0, 0) 5 = Γ_92 (39, 0, 0) 5 ∧ Γ_350 (39, 0, 0) 6 = Γ_92 (39, 0, 0) 6 ∧ Γ_350 (39, 0, 0) 7 = Γ_92 (39, 0, 0) 7 ∧ Γ_350 (39, 0, 0) 8 = Γ_92 (39, 0, 0) 8 ∧ Γ_92 (39, 0, 0) 1 ≤ Γ_350 (39, 0, 0) 1 ∧ Γ_350 (39, 0, 0) 1 ≤ T0 := hw_346
            have e9_SG : Γ_350 (43, 8800, 0) = Γ (43, 8800, 0) := (hcg_351 (43, 8800, 0) (by decide)).trans (hgM (43, 8800, 0) (by decide))
            have f9_SG : Γ_350 (43, 8800, 0) t0.toNat = Γ (43, 8800, 0) t0.toNat := congrFun e9_SG _
            have e9_ML : Γ_350 (44, 22, 0) = Γ (44, 22, 0) := (hcg_351 (44, 22, 0) (by decide)).trans (hgM (44, 22, 0) (by decide))
            have f9_ML : Γ_350 (44, 22, 0) t0.toNat = Γ (44, 22, 0) t0.toNat := congrFun e9_ML _
            have e9_MC : Γ_350 (45, 1056, 0) = Γ (45, 1056, 0) := (hcg_351 (45, 1056, 0) (by decide)).trans (hgM (45, 1056, 0) (by decide))
            have f9_MC : Γ_350 (45, 1056, 0) t0.toNat = Γ (45, 1056, 0) t0.toNat := congrFun e9_MC _
            have e9_MS : Γ_350 (46, 22, 0) = Γ (46, 22, 0) := (hcg_351 (46, 22, 0) (by decide)).trans (hgM (46, 22, 0) (by decide))
            have f9_MS : Γ_350 (46, 22, 0) t0.toNat = Γ (46, 22, 0) t0.toNat := congrFun e9_MS _
            have e9_ER : Γ_350 (47, 6, 0) = Γ (47, 6, 0) := (hcg_351 (47, 6, 0) (by decide)).trans (hgM (47, 6, 0) (by decide))
            have f9_ER : Γ_350 (47, 6, 0) t0.toNat = Γ (47, 6, 0) t0.toNat := congrFun e9_ER _
            have e9_BE : Γ_350 (48, 22, 0) = Γ (48, 22, 0) := (hcg_351 (48, 22, 0) (by decide)).trans (hgM (48, 22, 0) (by decide))
            have f9_BE : Γ_350 (48, 22, 0) t0.toNat = Γ (48, 22, 0) t0.toNat := congrFun e9_BE _
            have e9_GF : Γ_350 (49, 22, 0) = Γ (49, 22, 0) := (hcg_351 (49, 22, 0) (by decide)).trans (hgM (49, 22, 0) (by decide))
            have f9_GF : Γ_350 (49, 22, 0) t0.toNat = Γ (49, 22, 0) t0.toNat := congrFun e9_GF _
            have e9_GT : Γ_350 (50, 22, 0) = Γ (50, 22, 0) := (hcg_351 (50, 22, 0) (by decide)).trans (hgM (50, 22, 0) (by decide))
            have f9_GT : Γ_350 (50, 22, 0) t0.toNat = Γ (50, 22, 0) t0.toNat := congrFun e9_GT _
            have e9_WI : Γ_350 (51, 22, 0) = Γ (51, 22, 0) := (hcg_351 (51, 22, 0) (by decide)).trans (hgM (51, 22, 0) (by decide))
            have f9_WI : Γ_350 (51, 22, 0) t0.toNat = Γ (51, 22, 0) t0.toNat := congrFun e9_WI _
            have hrg9 : rg Γ Γ_350 t0 := ⟨(fun i9 _ => by rw [e9_SG]), (fun i9 _ => by rw [e9_MC]), fun j9 q9 => ⟨by rw [e9_MS], by rw [e9_ER], by rw [e9_BE], by rw [e9_GF], by rw [e9_GT], by rw [e9_WI]⟩⟩
            obtain ⟨b1, _, b3, b4, b5, b6, b7⟩ := id hrb
            obtain ⟨r1, r2, r3, r4, r5, r6⟩ := id hrq
            have hrb9 : rb Γ_350 t0 := ⟨by omega, (by rw [e9_SG, e9_MC, e9_MS]; exact hrb.2.1), fun q9 => (by have q8 := b3 q9; have q7 := r5 q9; omega), by omega, by omega, by omega, by omega⟩
            have hrq9 : tl_J r_347 (rq Γ_350 t0) := hE_352.imp (fun _ => ⟨by omega, by omega, by omega, by omega, fun q9 => (by have q8 := r5 q9; omega), by rw [e9_SG, e9_MC, e9_MS, e9_ML]; exact r6⟩)
            have hpo9 : tl_J (r_347 : Int32) (rq Γ_350 t0) ∧ Γ_350 (39, 0, 0) 0 = Γ (39, 0, 0) 0 ∧ Γ_350 (39, 0, 0) 4 = Γ (39, 0, 0) 4 ∧ Γ (39, 0, 0) 1 ≤ Γ_350 (39, 0, 0) 1 ∧ Γ_350 (39, 0, 0) 1 ≤ T0 ∧ rg Γ Γ_350 t0 ∧ rb Γ_350 t0 := ⟨hrq9, ⟨(by omega), (by omega), (by omega), (by omega), hrg9, hrb9⟩⟩
            exact W.zret (ty := .boolean) (v := r_347) hx hb hr hE_352.nar (fun t ht hW => ⟨⟨_, (f_348, Γ_350), rfl, hpo9, by rw [ht]; exact hP, hI, hfr, hgr⟩, hS.F ht⟩) hS.2.2 dX12_clauseHere_208
        · have c_73 := hE_72.t c_73
          refine lv_aload_n hx hb dX12_clauseHere_179 rfl (lv_at hl 2 rfl) ?_
          refine lv_iload_n hx hb dX12_clauseHere_180 rfl (lv_at hl 1 rfl) ?_
          have f_SG : Γ_70 (43, 8800, 0) t0.toNat = Γ (43, 8800, 0) t0.toNat := congrFun (hgM (43, 8800, 0) (by decide)) _
          have f_ML : Γ_70 (44, 22, 0) t0.toNat = Γ (44, 22, 0) t0.toNat := congrFun (hgM (44, 22, 0) (by decide)) _
          have f_MC : Γ_70 (45, 1056, 0) t0.toNat = Γ (45, 1056, 0) t0.toNat := congrFun (hgM (45, 1056, 0) (by decide)) _
          have f_MS : Γ_70 (46, 22, 0) t0.toNat = Γ (46, 22, 0) t0.toNat := congrFun (hgM (46, 22, 0) (by decide)) _
          have f_ER : Γ_70 (47, 6, 0) t0.toNat = Γ (47, 6, 0) t0.toNat := congrFun (hgM (47, 6, 0) (by decide)) _
          have f_BE : Γ_70 (48, 22, 0) t0.toNat = Γ (48, 22, 0) t0.toNat := congrFun (hgM (48, 22, 0) (by decide)) _
          have f_GF : Γ_70 (49, 22, 0) t0.toNat = Γ (49, 22, 0) t0.toNat := congrFun (hgM (49, 22, 0) (by decide)) _
          have f_GT : Γ_70 (50, 22, 0) t0.toNat = Γ (50, 22, 0) t0.toNat := congrFun (hgM (50, 22, 0) (by decide)) _
          have f_WI : Γ_70 (51, 22, 0) t0.toNat = Γ (51, 22, 0) t0.toNat := congrFun (hgM (51, 22, 0) (by decide)) _
          obtain ⟨r_354, v_355, q_356, hf_353, hr_357, hv_358⟩ := (show tp_o_M L K 0 0 (Γ_70 (39, 0, 0)) (f_68 o) from hI.at ho)
          have hx_359 : (v_355 0).toInt = Γ_70 (39, 0, 0) 0 := hv_358 0 (by decide)
          have hx_360 : (v_355 1).toInt = Γ_70 (39, 0, 0) 1 := hv_358 1 (by decide)
          have hx_361 : (v_355 3).toInt = Γ_70 (39, 0, 0) 3 := hv_358 3 (by decide)
          have hx_362 : (v_355 4).toInt = Γ_70 (39, 0, 0) 4 := hv_358 4 (by decide)
          have hx_363 : (v_355 5).toInt = Γ_70 (39, 0, 0) 5 := hv_358 5 (by decide)
          have hx_364 : (v_355 6).toInt = Γ_70 (39, 0, 0) 6 := hv_358 6 (by decide)
          have hx_365 : (v_355 7).toInt = Γ_70 (39, 0, 0) 7 := hv_358 7 (by decide)
          have hx_366 : (v_355 8).toInt = Γ_70 (39, 0, 0) 8 := hv_358 8 (by decide)
          refine tq_ciR hS (hAf _ hS.1) (tq_rV (As := [.int (v_23 1)]) (rest := []) ⟨hx, hb, hml, hown, hta⟩ (tp_P.pre hK hN hL hU hI hP) (tp_recv hK hP ho.1 hf_353 rfl) lk_X12_309 (r_X12_rippled l D cy H.size L K Γ_70 f_68 o (v_23 1) τ T0 t0 ho ((hgr _ (by decide)).trans ht) (by first | omega | (simp only [Int32.toInt_toInt64]; omega) | decide | assumption) (by first | omega | (simp only [Int32.toInt_toInt64]; omega) | decide | assumption) (by first | omega | (simp only [Int32.toInt_toInt64]; omega) | decide | assumption)) rfl rfl ⟨Nat.le_of_ble_eq_true rfl, Nat.le_of_ble_eq_true rfl⟩ rfl hl.1 rfl (Nat.le_of_ble_eq_true rfl) dX12_clauseHere_181 ⟨Nat.le_of_ble_eq_true rfl, Nat.le_of_ble_eq_true rfl⟩) (fun r_368 f_369 Γ_371 H locs hw_367 hP hI hc_370 hcg_372 hS => ?_)
          have hD : va_D A (va_pl L f_369) := tp_D hL hAL
          have hfr := tp_fr2 hfr hc_370 (by decide)
          have hgr : ∀ κ : tk_K, κ.1 ∉ ([39, 43, 44, 52, 45, 46, 53, 47, 54, 55, 56, 48, 49, 50, 51] : List Nat) → Γ_371 κ = Γ κ := tg_fr2 hgr hcg_372 (by decide)
          obtain ⟨hE_373, hw_367⟩ := hw_367
          have hE_373 : tl_J r_368 (Γ_70 (39, 0, 0) 1 ≤ Γ_371 (39, 0, 0) 1) := hE_373
          have hw_367 : Γ_371 (39, 0, 0) 0 = Γ_70 (39, 0, 0) 0 ∧ Γ_371 (39, 0, 0) 4 = Γ_70 (39, 0, 0) 4 ∧ Γ_371 (39, 0, 0) 5 = Γ_70 (39, 0, 0) 5 ∧ Γ_371 (39, 0, 0) 6 = Γ_70 (39, 0, 0) 6 ∧ Γ_371 (39, 0, 0) 7 = Γ_70 (39, 0, 0) 7 ∧ Γ_371 (39, 0, 0) 8 = Γ_70 (39, 0, 0) 8 ∧ Γ_70 (39, 0, 0) 1 ≤ Γ_371 (39, 0, 0) 1 ∧ Γ_371 (39, 0, 0) 1 ≤ T0 := hw_367
          have e9_SG : Γ_371 (43, 8800, 0) = Γ (43, 8800, 0) := (hcg_372 (43, 8800, 0) (by decide)).trans (hgM (43, 8800, 0) (by decide))
          have f9_SG : Γ_371 (43, 8800, 0) t0.toNat = Γ (43, 8800, 0) t0.toNat := congrFun e9_SG _
          have e9_ML : Γ_371 (44, 22, 0) = Γ (44, 22, 0) := (hcg_372 (44, 22, 0) (by decide)).trans (hgM (44, 22, 0) (by decide))
          have f9_ML : Γ_371 (44, 22, 0) t0.toNat = Γ (44, 22, 0) t0.toNat := congrFun e9_ML _
          have e9_MC : Γ_371 (45, 1056, 0) = Γ (45, 1056, 0) := (hcg_372 (45, 1056, 0) (by decide)).trans (hgM (45, 1056, 0) (by decide))
          have f9_MC : Γ_371 (45, 1056, 0) t0.toNat = Γ (45, 1056, 0) t0.toNat := congrFun e9_MC _
          have e9_MS : Γ_371 (46, 22, 0) = Γ (46, 22, 0) := (hcg_372 (46, 22, 0) (by decide)).trans (hgM (46, 22, 0) (by decide))
          have f9_MS : Γ_371 (46, 22, 0) t0.toNat = Γ (46, 22, 0) t0.toNat := congrFun e9_MS _
          have e9_ER : Γ_371 (47, 6, 0) = Γ (47, 6, 0) := (hcg_372 (47, 6, 0) (by decide)).trans (hgM (47, 6, 0) (by decide))
          have f9_ER : Γ_371 (47, 6, 0) t0.toNat = Γ (47, 6, 0) t0.toNat := congrFun e9_ER _
          have e9_BE : Γ_371 (48, 22, 0) = Γ (48, 22, 0) := (hcg_372 (48, 22, 0) (by decide)).trans (hgM (48, 22, 0) (by decide))
          have f9_BE : Γ_371 (48, 22, 0) t0.toNat = Γ (48, 22, 0) t0.toNat := congrFun e9_BE _
          have e9_GF : Γ_371 (49, 22, 0) = Γ (49, 22, 0) := (hcg_372 (49, 22, 0) (by decide)).trans (hgM (49, 22, 0) (by decide))
          have f9_GF : Γ_371 (49, 22, 0) t0.toNat = Γ (49, 22, 0) t0.toNat := congrFun e9_GF _
          have e9_GT : Γ_371 (50, 22, 0) = Γ (50, 22, 0) := (hcg_372 (50, 22, 0) (by decide)).trans (hgM (50, 22, 0) (by decide))
          have f9_GT : Γ_371 (50, 22, 0) t0.toNat = Γ (50, 22, 0) t0.toNat := congrFun e9_GT _
          have e9_WI : Γ_371 (51, 22, 0) = Γ (51, 22, 0) := (hcg_372 (51, 22, 0) (by decide)).trans (hgM (51, 22, 0) (by decide))
          have f9_WI : Γ_371 (51, 22, 0) t0.toNat = Γ (51, 22, 0) t0.toNat := congrFun e9_WI _
          have hrg9 : rg Γ Γ_371 t0 := ⟨(fun i9 _ => by rw [e9_SG]), (fun i9 _ => by rw [e9_MC]), fun j9 q9 => ⟨by rw [e9_MS], by rw [e9_ER], by rw [e9_BE], by rw [e9_GF], by rw [e9_GT], by rw [e9_WI]⟩⟩
          obtain ⟨b1, _, b3, b4, b5, b6, b7⟩ := id hrb
          obtain ⟨r1, r2, r3, r4, r5, r6⟩ := id hrq
          have hrb9 : rb Γ_371 t0 := ⟨by omega, (by rw [e9_SG, e9_MC, e9_MS]; exact hrb.2.1), fun q9 => (by have q8 := b3 q9; have q7 := r5 q9; omega), by omega, by omega, by omega, by omega⟩
          have hrq9 : tl_J r_368 (rq Γ_371 t0) := hE_373.imp (fun _ => ⟨by omega, by omega, by omega, by omega, fun q9 => (by have q8 := r5 q9; omega), by rw [e9_SG, e9_MC, e9_MS, e9_ML]; exact r6⟩)
          have hpo9 : tl_J (r_368 : Int32) (rq Γ_371 t0) ∧ Γ_371 (39, 0, 0) 0 = Γ (39, 0, 0) 0 ∧ Γ_371 (39, 0, 0) 4 = Γ (39, 0, 0) 4 ∧ Γ (39, 0, 0) 1 ≤ Γ_371 (39, 0, 0) 1 ∧ Γ_371 (39, 0, 0) 1 ≤ T0 ∧ rg Γ Γ_371 t0 ∧ rb Γ_371 t0 := ⟨hrq9, ⟨(by omega), (by omega), (by omega), (by omega), hrg9, hrb9⟩⟩
          exact W.zret (ty := .boolean) (v := r_368) hx hb hr hE_373.nar (fun t ht hW => ⟨⟨_, (f_369, Γ_371), rfl, hpo9, by rw [ht]; exact hP, hI, hfr, hgr⟩, hS.F ht⟩) hS.2.2 dX12_clauseHere_184
      · have c_52 : (v_40 7).toInt = (12 : Int) := tl_eq c_52
        refine lv_aload_n hx hb dX12_clauseHere_152 rfl (lv_at hl 2 rfl) ?_
        refine lv_iconst (v := 4) hx hb dX12_clauseHere_153 (by decide) ?_
        refine lv_iload_n hx hb dX12_clauseHere_154 rfl (lv_at hl 1 rfl) ?_
        refine tq_ciR hS (hAf _ hS.1) (tq_rV (As := [.int 4, .int (v_23 1)]) (rest := []) ⟨hx, hb, hml, hown, hta⟩ (tp_P.pre hK hN hL hU hI hP) (tp_recv hK hP ho.1 hf_38 rfl) lk_X12_184 (r_X12_fails l D cy H.size L K Γ_36 f_35 o 4 (v_23 1) ho) rfl rfl ⟨Nat.le_of_ble_eq_true rfl, Nat.le_of_ble_eq_true rfl⟩ rfl hl.1 rfl (Nat.le_of_ble_eq_true rfl) dX12_clauseHere_155 ⟨Nat.le_of_ble_eq_true rfl, Nat.le_of_ble_eq_true rfl⟩) (fun r_375 f_376 Γ_378 H locs hw_374 hP hI hc_377 hcg_379 hS => ?_)
        have hD : va_D A (va_pl L f_376) := tp_D hL hAL
        have hfr := tp_fr2 hfr hc_377 (by decide)
        have hgr : ∀ κ : tk_K, κ.1 ∉ ([39, 43, 44, 52, 45, 46, 53, 47, 54, 55, 56, 48, 49, 50, 51] : List Nat) → Γ_378 κ = Γ κ := tg_fr2 hgr hcg_379 (by decide)
        obtain ⟨rfl, hw_374⟩ := hw_374
        have hw_374 : Γ_378 (39, 0, 0) 0 = Γ_36 (39, 0, 0) 0 ∧ Γ_378 (39, 0, 0) 1 = Γ_36 (39, 0, 0) 1 ∧ Γ_378 (39, 0, 0) 3 = Γ_36 (39, 0, 0) 3 ∧ Γ_378 (39, 0, 0) 4 = Γ_36 (39, 0, 0) 4 ∧ Γ_378 (39, 0, 0) 5 = Γ_36 (39, 0, 0) 5 ∧ Γ_378 (39, 0, 0) 6 = Γ_36 (39, 0, 0) 6 ∧ Γ_378 (39, 0, 0) 7 = Γ_36 (39, 0, 0) 7 ∧ Γ_378 (39, 0, 0) 8 = Γ_36 (39, 0, 0) 8 := hw_374
        have hgM : ∀ κ : tk_K, κ.1 ∉ ([39] : List Nat) → Γ_378 κ = Γ κ := tg_fr2 hgM hcg_379 (by decide)
        have hrg9 : rg Γ Γ_378 t0 := rg.refl.same hgM
        have hrb9 : rb Γ_378 t0 := hrb.same hgM
        have hpo9 : tl_J (0 : Int32) (rq Γ_378 t0) ∧ Γ_378 (39, 0, 0) 0 = Γ (39, 0, 0) 0 ∧ Γ_378 (39, 0, 0) 4 = Γ (39, 0, 0) 4 ∧ Γ (39, 0, 0) 1 ≤ Γ_378 (39, 0, 0) 1 ∧ Γ_378 (39, 0, 0) 1 ≤ T0 ∧ rg Γ Γ_378 t0 ∧ rb Γ_378 t0 := ⟨(Or.inr rfl), ⟨(by omega), (by omega), (by omega), (by omega), hrg9, hrb9⟩⟩
        exact W.zret (ty := .boolean) (v := 0) hx hb hr rfl (fun t ht hW => ⟨⟨_, (f_376, Γ_378), rfl, hpo9, by rw [ht]; exact hP, hI, hfr, hgr⟩, hS.F ht⟩) hS.2.2 dX12_clauseHere_158
    · have c_37 : u3.toInt = (0 : Int) := tl_eq c_37
      refine lv_aload_n hx hb dX12_clauseHere_136 rfl (lv_at hl 2 rfl) ?_
      refine lv_iconst (v := 0) hx hb dX12_clauseHere_137 (by decide) ?_
      refine lv_iload_n hx hb dX12_clauseHere_138 rfl (lv_at hl 1 rfl) ?_
      obtain ⟨r_381, v_382, q_383, hf_380, hr_384, hv_385⟩ := (show tp_o_M L K 0 0 (Γ_36 (39, 0, 0)) (f_35 o) from hI.at ho)
      have hx_386 : (v_382 0).toInt = Γ_36 (39, 0, 0) 0 := hv_385 0 (by decide)
      have hx_387 : (v_382 1).toInt = Γ_36 (39, 0, 0) 1 := hv_385 1 (by decide)
      have hx_388 : (v_382 3).toInt = Γ_36 (39, 0, 0) 3 := hv_385 3 (by decide)
      have hx_389 : (v_382 4).toInt = Γ_36 (39, 0, 0) 4 := hv_385 4 (by decide)
      have hx_390 : (v_382 5).toInt = Γ_36 (39, 0, 0) 5 := hv_385 5 (by decide)
      have hx_391 : (v_382 6).toInt = Γ_36 (39, 0, 0) 6 := hv_385 6 (by decide)
      have hx_392 : (v_382 7).toInt = Γ_36 (39, 0, 0) 7 := hv_385 7 (by decide)
      have hx_393 : (v_382 8).toInt = Γ_36 (39, 0, 0) 8 := hv_385 8 (by decide)
      refine tq_ciR hS (hAf _ hS.1) (tq_rV (As := [.int 0, .int (v_23 1)]) (rest := []) ⟨hx, hb, hml, hown, hta⟩ (tp_P.pre hK hN hL hU hI hP) (tp_recv hK hP ho.1 hf_380 rfl) lk_X12_184 (r_X12_fails l D cy H.size L K Γ_36 f_35 o 0 (v_23 1) ho) rfl rfl ⟨Nat.le_of_ble_eq_true rfl, Nat.le_of_ble_eq_true rfl⟩ rfl hl.1 rfl (Nat.le_of_ble_eq_true rfl) dX12_clauseHere_139 ⟨Nat.le_of_ble_eq_true rfl, Nat.le_of_ble_eq_true rfl⟩) (fun r_395 f_396 Γ_398 H locs hw_394 hP hI hc_397 hcg_399 hS => ?_)
      have hD : va_D A (va_pl L f_396) := tp_D hL hAL
      have hfr := tp_fr2 hfr hc_397 (by decide)
      have hgr : ∀ κ : tk_K, κ.1 ∉ ([39, 43, 44, 52, 45, 46, 53, 47, 54, 55, 56, 48, 49, 50, 51] : List Nat) → Γ_398 κ = Γ κ := tg_fr2 hgr hcg_399 (by decide)
      obtain ⟨rfl, hw_394⟩ := hw_394
      have hw_394 : Γ_398 (39, 0, 0) 0 = Γ_36 (39, 0, 0) 0 ∧ Γ_398 (39, 0, 0) 1 = Γ_36 (39, 0, 0) 1 ∧ Γ_398 (39, 0, 0) 3 = Γ_36 (39, 0, 0) 3 ∧ Γ_398 (39, 0, 0) 4 = Γ_36 (39, 0, 0) 4 ∧ Γ_398 (39, 0, 0) 5 = Γ_36 (39, 0, 0) 5 ∧ Γ_398 (39, 0, 0) 6 = Γ_36 (39, 0, 0) 6 ∧ Γ_398 (39, 0, 0) 7 = Γ_36 (39, 0, 0) 7 ∧ Γ_398 (39, 0, 0) 8 = Γ_36 (39, 0, 0) 8 := hw_394
      have hgM : ∀ κ : tk_K, κ.1 ∉ ([39] : List Nat) → Γ_398 κ = Γ κ := tg_fr2 hgM hcg_399 (by decide)
      have hrg9 : rg Γ Γ_398 t0 := rg.refl.same hgM
      have hrb9 : rb Γ_398 t0 := hrb.same hgM
      have hpo9 : tl_J (0 : Int32) (rq Γ_398 t0) ∧ Γ_398 (39, 0, 0) 0 = Γ (39, 0, 0) 0 ∧ Γ_398 (39, 0, 0) 4 = Γ (39, 0, 0) 4 ∧ Γ (39, 0, 0) 1 ≤ Γ_398 (39, 0, 0) 1 ∧ Γ_398 (39, 0, 0) 1 ≤ T0 ∧ rg Γ Γ_398 t0 ∧ rb Γ_398 t0 := ⟨(Or.inr rfl), ⟨(by omega), (by omega), (by omega), (by omega), hrg9, hrb9⟩⟩
      exact W.zret (ty := .boolean) (v := 0) hx hb hr rfl (fun t ht hW => ⟨⟨_, (f_396, Γ_398), rfl, hpo9, by rw [ht]; exact hP, hI, hfr, hgr⟩, hS.F ht⟩) hS.2.2 dX12_clauseHere_142
  refine lv_aload_n hx hb dX12_clauseHere_10 rfl (lv_at hl 1 rfl) ?_
  refine lv_aload_n hx hb dX12_clauseHere_11 rfl (lv_at hl 1 rfl) ?_
  refine tp_get (cy := cy) (ci := 12) (v := .int (v_23 4)) (C := RX12) (T := TX12) (N := 49) hx hb hta inlX12 hown hK hP ho.1 hf_21 rfl 20 (by decide) (hta _ wk_537) (fun _ h9 => h9) rfl dX12_clauseHere_12 ?_
  refine tl_si (tq_rV (As := [.int (v_23 4)]) (rest := []) ⟨hx, hb, hml, hown, hta⟩ (tp_P.pre hK hN hL hU hI hP) (tp_recv hK hP ho.1 hf_21 rfl) lk_X12_194 (r_X12_kindOf l D cy H.size L K Γ_19 f_17 o (v_23 4) ho) rfl rfl ⟨Nat.le_of_ble_eq_true rfl, Nat.le_of_ble_eq_true rfl⟩ rfl hl.1 rfl (Nat.le_of_ble_eq_true rfl) dX12_clauseHere_15 ⟨Nat.le_of_ble_eq_true rfl, Nat.le_of_ble_eq_true rfl⟩) (fun r_401 hw_400 => ?_)
  have hw_400 : ((v_23 4).toInt < 6 ∧ r_401.toInt = 0) ∨ (6 ≤ (v_23 4).toInt ∧ (v_23 4).toInt < 14 ∧ r_401.toInt = 1) ∨ (14 ≤ (v_23 4).toInt ∧ r_401.toInt = 2) := hw_400
  refine lv_istore_n (lv' := [(2, .int r_401), (1, .int (v_23 1)), (0, .ref o)]) hx hb dX12_clauseHere_18 rfl hl (by decide) rfl (fun ls hl => ?_)
  refine lv_iload_n hx hb dX12_clauseHere_19 rfl (lv_at hl 0 rfl) ?_
  refine lv_if_ne (tgt := 71) hx hb dX12_clauseHere_20 (by decide) (fun c_402 => ?_) (fun c_402 => ?_)
  · have c_402 : ¬ r_401.toInt = (0 : Int) := tl_neq c_402
    refine lv_iload_n hx hb dX12_clauseHere_71 rfl (lv_at hl 0 rfl) ?_
    refine lv_iconst (v := 1) hx hb dX12_clauseHere_72 (by decide) ?_
    refine lv_icmp_ne (tgt := 124) hx hb dX12_clauseHere_73 (by decide) (fun c_403 => ?_) (fun c_403 => ?_)
    · have c_403 : ¬ r_401.toInt = (1 : Int) := tl_neq c_403
      refine lv_aload_n hx hb dX12_clauseHere_124 rfl (lv_at hl 2 rfl) ?_
      refine lv_ldc2 (v := 444150998387) hx hb hown (hta _ wk_560) dX12_clauseHere_125 ?_
      refine tq_ciR hS (hAf _ hS.1) (tq_rV (As := [.long 444150998387]) (rest := []) ⟨hx, hb, hml, hown, hta⟩ (tp_P.pre hK hN hL hU hI hP) (tp_recv hK hP ho.1 hf_21 rfl) lk_X12_174 (r_X12_isWord l D cy H.size L K Γ_19 f_17 o 444150998387 τ T0 ho ((hgr _ (by decide)).trans ht) (by first | omega | (simp only [Int32.toInt_toInt64]; omega) | decide | assumption) (by first | omega | (simp only [Int32.toInt_toInt64]; omega) | decide | assumption)) rfl rfl ⟨Nat.le_of_ble_eq_true rfl, Nat.le_of_ble_eq_true rfl⟩ rfl hl.1 rfl (Nat.le_of_ble_eq_true rfl) dX12_clauseHere_128 ⟨Nat.le_of_ble_eq_true rfl, Nat.le_of_ble_eq_true rfl⟩) (fun r_405 f_406 Γ_408 H locs hw_404 hP hI hc_407 hcg_409 hS => ?_)
      have hD : va_D A (va_pl L f_406) := tp_D hL hAL
      have hfr := tp_fr2 hfr hc_407 (by decide)
      have hgr : ∀ κ : tk_K, κ.1 ∉ ([39, 43, 44, 52, 45, 46, 53, 47, 54, 55, 56, 48, 49, 50, 51] : List Nat) → Γ_408 κ = Γ κ := tg_fr2 hgr hcg_409 (by decide)
      obtain ⟨hE_410, hw_404⟩ := hw_404
      have hE_410 : tl_E r_405 (tr_W τ T0 (Γ_408 (39, 0, 0) 1) 444150998387) 1 0 := hE_410
      have hw_404 : Γ_408 (39, 0, 0) 0 = Γ_19 (39, 0, 0) 0 ∧ Γ_408 (39, 0, 0) 3 = Γ_19 (39, 0, 0) 3 ∧ Γ_408 (39, 0, 0) 4 = Γ_19 (39, 0, 0) 4 ∧ Γ_408 (39, 0, 0) 5 = Γ_19 (39, 0, 0) 5 ∧ Γ_408 (39, 0, 0) 6 = Γ_19 (39, 0, 0) 6 ∧ Γ_408 (39, 0, 0) 7 = Γ_19 (39, 0, 0) 7 ∧ Γ_408 (39, 0, 0) 8 = Γ_19 (39, 0, 0) 8 ∧ Γ_19 (39, 0, 0) 1 ≤ Γ_408 (39, 0, 0) 1 ∧ Γ_408 (39, 0, 0) 1 ≤ T0 ∧ (¬ τ (Γ_19 (39, 0, 0) 1).toNat = 32 → Γ_408 (39, 0, 0) 1 = Γ_19 (39, 0, 0) 1) := hw_404
      have hgM : ∀ κ : tk_K, κ.1 ∉ ([39] : List Nat) → Γ_408 κ = Γ κ := tg_fr2 hgM hcg_409 (by decide)
      refine lv_istore_n (lv' := [(3, .int r_405), (2, .int r_401), (1, .int (v_23 1)), (0, .ref o)]) hx hb dX12_clauseHere_131 rfl hl (by decide) rfl (fun ls hl => ?_)
      exact hjn132 f_406 Γ_408 r_405 H locs ls (show Γ_408 (39, 0, 0) 0 = Γ (39, 0, 0) 0 from (by omega)) (show Γ_408 (39, 0, 0) 3 = Γ (39, 0, 0) 3 from (by omega)) (show Γ_408 (39, 0, 0) 4 = Γ (39, 0, 0) 4 from (by omega)) (show Γ_408 (39, 0, 0) 5 = Γ (39, 0, 0) 5 from (by omega)) (show Γ_408 (39, 0, 0) 6 = Γ (39, 0, 0) 6 from (by omega)) (show Γ_408 (39, 0, 0) 7 = Γ (39, 0, 0) 7 from (by omega)) (show Γ_408 (39, 0, 0) 8 = Γ (39, 0, 0) 8 from (by omega)) (show Γ (39, 0, 0) 1 ≤ Γ_408 (39, 0, 0) 1 ∧ Γ_408 (39, 0, 0) 1 ≤ T0 from (by omega)) (show ∀ κ : tk_K, κ.1 ∉ ([39] : List Nat) → Γ_408 κ = Γ κ from hgM) (show r_405.toInt = 0 ∨ r_405.toInt = 1 from (by rcases hE_410 with ⟨_, q9⟩ | ⟨_, q9⟩ <;> rw [q9] <;> decide)) (show r_405.toInt = 1 → tr_H τ T0 (Γ_408 (39, 0, 0) 1) t0 from (fun q9 => Or.inr (Or.inr ⟨by omega, hE_410.t (fun q8 => by rw [q8] at q9; exact absurd q9 (by decide))⟩))) hP hI hfr hgr hS (lv_sub hl [0, 2, 3] rfl)
    · have c_403 : r_401.toInt = (1 : Int) := tl_eq c_403
      refine lv_aload_n hx hb dX12_clauseHere_76 rfl (lv_at hl 2 rfl) ?_
      refine lv_ldc2 (v := 422608528499) hx hb hown (hta _ wk_556) dX12_clauseHere_77 ?_
      refine tq_ciR hS (hAf _ hS.1) (tq_rV (As := [.long 422608528499]) (rest := []) ⟨hx, hb, hml, hown, hta⟩ (tp_P.pre hK hN hL hU hI hP) (tp_recv hK hP ho.1 hf_21 rfl) lk_X12_174 (r_X12_isWord l D cy H.size L K Γ_19 f_17 o 422608528499 τ T0 ho ((hgr _ (by decide)).trans ht) (by first | omega | (simp only [Int32.toInt_toInt64]; omega) | decide | assumption) (by first | omega | (simp only [Int32.toInt_toInt64]; omega) | decide | assumption)) rfl rfl ⟨Nat.le_of_ble_eq_true rfl, Nat.le_of_ble_eq_true rfl⟩ rfl hl.1 rfl (Nat.le_of_ble_eq_true rfl) dX12_clauseHere_80 ⟨Nat.le_of_ble_eq_true rfl, Nat.le_of_ble_eq_true rfl⟩) (fun r_412 f_413 Γ_415 H locs hw_411 hP hI hc_414 hcg_416 hS => ?_)
      have hD : va_D A (va_pl L f_413) := tp_D hL hAL
      have hfr := tp_fr2 hfr hc_414 (by decide)
      have hgr : ∀ κ : tk_K, κ.1 ∉ ([39, 43, 44, 52, 45, 46, 53, 47, 54, 55, 56, 48, 49, 50, 51] : List Nat) → Γ_415 κ = Γ κ := tg_fr2 hgr hcg_416 (by decide)
      obtain ⟨hE_417, hw_411⟩ := hw_411
      have hE_417 : tl_E r_412 (tr_W τ T0 (Γ_415 (39, 0, 0) 1) 422608528499) 1 0 := hE_417
      have hw_411 : Γ_415 (39, 0, 0) 0 = Γ_19 (39, 0, 0) 0 ∧ Γ_415 (39, 0, 0) 3 = Γ_19 (39, 0, 0) 3 ∧ Γ_415 (39, 0, 0) 4 = Γ_19 (39, 0, 0) 4 ∧ Γ_415 (39, 0, 0) 5 = Γ_19 (39, 0, 0) 5 ∧ Γ_415 (39, 0, 0) 6 = Γ_19 (39, 0, 0) 6 ∧ Γ_415 (39, 0, 0) 7 = Γ_19 (39, 0, 0) 7 ∧ Γ_415 (39, 0, 0) 8 = Γ_19 (39, 0, 0) 8 ∧ Γ_19 (39, 0, 0) 1 ≤ Γ_415 (39, 0, 0) 1 ∧ Γ_415 (39, 0, 0) 1 ≤ T0 ∧ (¬ τ (Γ_19 (39, 0, 0) 1).toNat = 32 → Γ_415 (39, 0, 0) 1 = Γ_19 (39, 0, 0) 1) := hw_411
      have hgM : ∀ κ : tk_K, κ.1 ∉ ([39] : List Nat) → Γ_415 κ = Γ κ := tg_fr2 hgM hcg_416 (by decide)
      refine lv_if_ne (tgt := 116) hx hb dX12_clauseHere_83 (by decide) (fun c_418 => ?_) (fun c_418 => ?_)
      · have c_418 := hE_417.t c_418
        refine lv_iconst (v := 1) hx hb dX12_clauseHere_116 (by decide) ?_
        refine lv_goto (tgt := 131) hx hb dX12_clauseHere_117 (by decide) ?_
        refine lv_istore_n (lv' := [(3, .int 1), (2, .int r_401), (1, .int (v_23 1)), (0, .ref o)]) hx hb dX12_clauseHere_131 rfl hl (by decide) rfl (fun ls hl => ?_)
        exact hjn132 f_413 Γ_415 1 H locs ls (show Γ_415 (39, 0, 0) 0 = Γ (39, 0, 0) 0 from (by omega)) (show Γ_415 (39, 0, 0) 3 = Γ (39, 0, 0) 3 from (by omega)) (show Γ_415 (39, 0, 0) 4 = Γ (39, 0, 0) 4 from (by omega)) (show Γ_415 (39, 0, 0) 5 = Γ (39, 0, 0) 5 from (by omega)) (show Γ_415 (39, 0, 0) 6 = Γ (39, 0, 0) 6 from (by omega)) (show Γ_415 (39, 0, 0) 7 = Γ (39, 0, 0) 7 from (by omega)) (show Γ_415 (39, 0, 0) 8 = Γ (39, 0, 0) 8 from (by omega)) (show Γ (39, 0, 0) 1 ≤ Γ_415 (39, 0, 0) 1 ∧ Γ_415 (39, 0, 0) 1 ≤ T0 from (by omega)) (show ∀ κ : tk_K, κ.1 ∉ ([39] : List Nat) → Γ_415 κ = Γ κ from hgM) (show (1 : Int) = 0 ∨ (1 : Int) = 1 from (by decide)) (show (1 : Int) = 1 → tr_H τ T0 (Γ_415 (39, 0, 0) 1) t0 from (fun _ => by first | exact Or.inl ⟨by omega, by first | exact Or.inl (by assumption) | exact Or.inr (Or.inl (by assumption)) | exact Or.inr (Or.inr (Or.inl (by assumption))) | exact Or.inr (Or.inr (Or.inr (by assumption)))⟩ | exact Or.inr (Or.inl ⟨by omega, by first | exact Or.inl (by assumption) | exact Or.inr (Or.inl (by assumption)) | exact Or.inr (Or.inr (Or.inl (by assumption))) | exact Or.inr (Or.inr (Or.inr (by assumption)))⟩))) hP hI hfr hgr hS (lv_sub hl [0, 2, 3] rfl)
      · have c_418 := hE_417.f c_418
        refine lv_aload_n hx hb dX12_clauseHere_86 rfl (lv_at hl 2 rfl) ?_
        refine lv_ldc2 (v := 6775152) hx hb hown (hta _ wk_557) dX12_clauseHere_87 ?_
        obtain ⟨r_420, v_421, q_422, hf_419, hr_423, hv_424⟩ := (show tp_o_M L K 0 0 (Γ_415 (39, 0, 0)) (f_413 o) from hI.at ho)
        have hx_425 : (v_421 0).toInt = Γ_415 (39, 0, 0) 0 := hv_424 0 (by decide)
        have hx_426 : (v_421 1).toInt = Γ_415 (39, 0, 0) 1 := hv_424 1 (by decide)
        have hx_427 : (v_421 3).toInt = Γ_415 (39, 0, 0) 3 := hv_424 3 (by decide)
        have hx_428 : (v_421 4).toInt = Γ_415 (39, 0, 0) 4 := hv_424 4 (by decide)
        have hx_429 : (v_421 5).toInt = Γ_415 (39, 0, 0) 5 := hv_424 5 (by decide)
        have hx_430 : (v_421 6).toInt = Γ_415 (39, 0, 0) 6 := hv_424 6 (by decide)
        have hx_431 : (v_421 7).toInt = Γ_415 (39, 0, 0) 7 := hv_424 7 (by decide)
        have hx_432 : (v_421 8).toInt = Γ_415 (39, 0, 0) 8 := hv_424 8 (by decide)
        refine tq_ciR hS (hAf _ hS.1) (tq_rV (As := [.long 6775152]) (rest := []) ⟨hx, hb, hml, hown, hta⟩ (tp_P.pre hK hN hL hU hI hP) (tp_recv hK hP ho.1 hf_419 rfl) lk_X12_174 (r_X12_isWord l D cy H.size L K Γ_415 f_413 o 6775152 τ T0 ho ((hgr _ (by decide)).trans ht) (by first | omega | (simp only [Int32.toInt_toInt64]; omega) | decide | assumption) (by first | omega | (simp only [Int32.toInt_toInt64]; omega) | decide | assumption)) rfl rfl ⟨Nat.le_of_ble_eq_true rfl, Nat.le_of_ble_eq_true rfl⟩ rfl hl.1 rfl (Nat.le_of_ble_eq_true rfl) dX12_clauseHere_90 ⟨Nat.le_of_ble_eq_true rfl, Nat.le_of_ble_eq_true rfl⟩) (fun r_434 f_435 Γ_437 H locs hw_433 hP hI hc_436 hcg_438 hS => ?_)
        have hD : va_D A (va_pl L f_435) := tp_D hL hAL
        have hfr := tp_fr2 hfr hc_436 (by decide)
        have hgr : ∀ κ : tk_K, κ.1 ∉ ([39, 43, 44, 52, 45, 46, 53, 47, 54, 55, 56, 48, 49, 50, 51] : List Nat) → Γ_437 κ = Γ κ := tg_fr2 hgr hcg_438 (by decide)
        obtain ⟨hE_439, hw_433⟩ := hw_433
        have hE_439 : tl_E r_434 (tr_W τ T0 (Γ_437 (39, 0, 0) 1) 6775152) 1 0 := hE_439
        have hw_433 : Γ_437 (39, 0, 0) 0 = Γ_415 (39, 0, 0) 0 ∧ Γ_437 (39, 0, 0) 3 = Γ_415 (39, 0, 0) 3 ∧ Γ_437 (39, 0, 0) 4 = Γ_415 (39, 0, 0) 4 ∧ Γ_437 (39, 0, 0) 5 = Γ_415 (39, 0, 0) 5 ∧ Γ_437 (39, 0, 0) 6 = Γ_415 (39, 0, 0) 6 ∧ Γ_437 (39, 0, 0) 7 = Γ_415 (39, 0, 0) 7 ∧ Γ_437 (39, 0, 0) 8 = Γ_415 (39, 0, 0) 8 ∧ Γ_415 (39, 0, 0) 1 ≤ Γ_437 (39, 0, 0) 1 ∧ Γ_437 (39, 0, 0) 1 ≤ T0 ∧ (¬ τ (Γ_415 (39, 0, 0) 1).toNat = 32 → Γ_437 (39, 0, 0) 1 = Γ_415 (39, 0, 0) 1) := hw_433
        have hgM : ∀ κ : tk_K, κ.1 ∉ ([39] : List Nat) → Γ_437 κ = Γ κ := tg_fr2 hgM hcg_438 (by decide)
        refine lv_if_ne (tgt := 116) hx hb dX12_clauseHere_93 (by decide) (fun c_440 => ?_) (fun c_440 => ?_)
        · have c_440 := hE_439.t c_440
          refine lv_iconst (v := 1) hx hb dX12_clauseHere_116 (by decide) ?_
          refine lv_goto (tgt := 131) hx hb dX12_clauseHere_117 (by decide) ?_
          refine lv_istore_n (lv' := [(3, .int 1), (2, .int r_401), (1, .int (v_23 1)), (0, .ref o)]) hx hb dX12_clauseHere_131 rfl hl (by decide) rfl (fun ls hl => ?_)
          exact hjn132 f_435 Γ_437 1 H locs ls (show Γ_437 (39, 0, 0) 0 = Γ (39, 0, 0) 0 from (by omega)) (show Γ_437 (39, 0, 0) 3 = Γ (39, 0, 0) 3 from (by omega)) (show Γ_437 (39, 0, 0) 4 = Γ (39, 0, 0) 4 from (by omega)) (show Γ_437 (39, 0, 0) 5 = Γ (39, 0, 0) 5 from (by omega)) (show Γ_437 (39, 0, 0) 6 = Γ (39, 0, 0) 6 from (by omega)) (show Γ_437 (39, 0, 0) 7 = Γ (39, 0, 0) 7 from (by omega)) (show Γ_437 (39, 0, 0) 8 = Γ (39, 0, 0) 8 from (by omega)) (show Γ (39, 0, 0) 1 ≤ Γ_437 (39, 0, 0) 1 ∧ Γ_437 (39, 0, 0) 1 ≤ T0 from (by omega)) (show ∀ κ : tk_K, κ.1 ∉ ([39] : List Nat) → Γ_437 κ = Γ κ from hgM) (show (1 : Int) = 0 ∨ (1 : Int) = 1 from (by decide)) (show (1 : Int) = 1 → tr_H τ T0 (Γ_437 (39, 0, 0) 1) t0 from (fun _ => by first | exact Or.inl ⟨by omega, by first | exact Or.inl (by assumption) | exact Or.inr (Or.inl (by assumption)) | exact Or.inr (Or.inr (Or.inl (by assumption))) | exact Or.inr (Or.inr (Or.inr (by assumption)))⟩ | exact Or.inr (Or.inl ⟨by omega, by first | exact Or.inl (by assumption) | exact Or.inr (Or.inl (by assumption)) | exact Or.inr (Or.inr (Or.inl (by assumption))) | exact Or.inr (Or.inr (Or.inr (by assumption)))⟩))) hP hI hfr hgr hS (lv_sub hl [0, 2, 3] rfl)
        · have c_440 := hE_439.f c_440
          refine lv_aload_n hx hb dX12_clauseHere_96 rfl (lv_at hl 2 rfl) ?_
          refine lv_ldc2 (v := 2003395685) hx hb hown (hta _ wk_558) dX12_clauseHere_97 ?_
          obtain ⟨r_442, v_443, q_444, hf_441, hr_445, hv_446⟩ := (show tp_o_M L K 0 0 (Γ_437 (39, 0, 0)) (f_435 o) from hI.at ho)
          have hx_447 : (v_443 0).toInt = Γ_437 (39, 0, 0) 0 := hv_446 0 (by decide)
          have hx_448 : (v_443 1).toInt = Γ_437 (39, 0, 0) 1 := hv_446 1 (by decide)
          have hx_449 : (v_443 3).toInt = Γ_437 (39, 0, 0) 3 := hv_446 3 (by decide)
          have hx_450 : (v_443 4).toInt = Γ_437 (39, 0, 0) 4 := hv_446 4 (by decide)
          have hx_451 : (v_443 5).toInt = Γ_437 (39, 0, 0) 5 := hv_446 5 (by decide)
          have hx_452 : (v_443 6).toInt = Γ_437 (39, 0, 0) 6 := hv_446 6 (by decide)
          have hx_453 : (v_443 7).toInt = Γ_437 (39, 0, 0) 7 := hv_446 7 (by decide)
          have hx_454 : (v_443 8).toInt = Γ_437 (39, 0, 0) 8 := hv_446 8 (by decide)
          refine tq_ciR hS (hAf _ hS.1) (tq_rV (As := [.long 2003395685]) (rest := []) ⟨hx, hb, hml, hown, hta⟩ (tp_P.pre hK hN hL hU hI hP) (tp_recv hK hP ho.1 hf_441 rfl) lk_X12_174 (r_X12_isWord l D cy H.size L K Γ_437 f_435 o 2003395685 τ T0 ho ((hgr _ (by decide)).trans ht) (by first | omega | (simp only [Int32.toInt_toInt64]; omega) | decide | assumption) (by first | omega | (simp only [Int32.toInt_toInt64]; omega) | decide | assumption)) rfl rfl ⟨Nat.le_of_ble_eq_true rfl, Nat.le_of_ble_eq_true rfl⟩ rfl hl.1 rfl (Nat.le_of_ble_eq_true rfl) dX12_clauseHere_100 ⟨Nat.le_of_ble_eq_true rfl, Nat.le_of_ble_eq_true rfl⟩) (fun r_456 f_457 Γ_459 H locs hw_455 hP hI hc_458 hcg_460 hS => ?_)
          have hD : va_D A (va_pl L f_457) := tp_D hL hAL
          have hfr := tp_fr2 hfr hc_458 (by decide)
          have hgr : ∀ κ : tk_K, κ.1 ∉ ([39, 43, 44, 52, 45, 46, 53, 47, 54, 55, 56, 48, 49, 50, 51] : List Nat) → Γ_459 κ = Γ κ := tg_fr2 hgr hcg_460 (by decide)
          obtain ⟨hE_461, hw_455⟩ := hw_455
          have hE_461 : tl_E r_456 (tr_W τ T0 (Γ_459 (39, 0, 0) 1) 2003395685) 1 0 := hE_461
          have hw_455 : Γ_459 (39, 0, 0) 0 = Γ_437 (39, 0, 0) 0 ∧ Γ_459 (39, 0, 0) 3 = Γ_437 (39, 0, 0) 3 ∧ Γ_459 (39, 0, 0) 4 = Γ_437 (39, 0, 0) 4 ∧ Γ_459 (39, 0, 0) 5 = Γ_437 (39, 0, 0) 5 ∧ Γ_459 (39, 0, 0) 6 = Γ_437 (39, 0, 0) 6 ∧ Γ_459 (39, 0, 0) 7 = Γ_437 (39, 0, 0) 7 ∧ Γ_459 (39, 0, 0) 8 = Γ_437 (39, 0, 0) 8 ∧ Γ_437 (39, 0, 0) 1 ≤ Γ_459 (39, 0, 0) 1 ∧ Γ_459 (39, 0, 0) 1 ≤ T0 ∧ (¬ τ (Γ_437 (39, 0, 0) 1).toNat = 32 → Γ_459 (39, 0, 0) 1 = Γ_437 (39, 0, 0) 1) := hw_455
          have hgM : ∀ κ : tk_K, κ.1 ∉ ([39] : List Nat) → Γ_459 κ = Γ κ := tg_fr2 hgM hcg_460 (by decide)
          refine lv_if_ne (tgt := 116) hx hb dX12_clauseHere_103 (by decide) (fun c_462 => ?_) (fun c_462 => ?_)
          · have c_462 := hE_461.t c_462
            refine lv_iconst (v := 1) hx hb dX12_clauseHere_116 (by decide) ?_
            refine lv_goto (tgt := 131) hx hb dX12_clauseHere_117 (by decide) ?_
            refine lv_istore_n (lv' := [(3, .int 1), (2, .int r_401), (1, .int (v_23 1)), (0, .ref o)]) hx hb dX12_clauseHere_131 rfl hl (by decide) rfl (fun ls hl => ?_)
            exact hjn132 f_457 Γ_459 1 H locs ls (show Γ_459 (39, 0, 0) 0 = Γ (39, 0, 0) 0 from (by omega)) (show Γ_459 (39, 0, 0) 3 = Γ (39, 0, 0) 3 from (by omega)) (show Γ_459 (39, 0, 0) 4 = Γ (39, 0, 0) 4 from (by omega)) (show Γ_459 (39, 0, 0) 5 = Γ (39, 0, 0) 5 from (by omega)) (show Γ_459 (39, 0, 0) 6 = Γ (39, 0, 0) 6 from (by omega)) (show Γ_459 (39, 0, 0) 7 = Γ (39, 0, 0) 7 from (by omega)) (show Γ_459 (39, 0, 0) 8 = Γ (39, 0, 0) 8 from (by omega)) (show Γ (39, 0, 0) 1 ≤ Γ_459 (39, 0, 0) 1 ∧ Γ_459 (39, 0, 0) 1 ≤ T0 from (by omega)) (show ∀ κ : tk_K, κ.1 ∉ ([39] : List Nat) → Γ_459 κ = Γ κ from hgM) (show (1 : Int) = 0 ∨ (1 : Int) = 1 from (by decide)) (show (1 : Int) = 1 → tr_H τ T0 (Γ_459 (39, 0, 0) 1) t0 from (fun _ => by first | exact Or.inl ⟨by omega, by first | exact Or.inl (by assumption) | exact Or.inr (Or.inl (by assumption)) | exact Or.inr (Or.inr (Or.inl (by assumption))) | exact Or.inr (Or.inr (Or.inr (by assumption)))⟩ | exact Or.inr (Or.inl ⟨by omega, by first | exact Or.inl (by assumption) | exact Or.inr (Or.inl (by assumption)) | exact Or.inr (Or.inr (Or.inl (by assumption))) | exact Or.inr (Or.inr (Or.inr (by assumption)))⟩))) hP hI hfr hgr hS (lv_sub hl [0, 2, 3] rfl)
          · have c_462 := hE_461.f c_462
            refine lv_aload_n hx hb dX12_clauseHere_106 rfl (lv_at hl 2 rfl) ?_
            refine lv_ldc2 (v := 1936419184) hx hb hown (hta _ wk_559) dX12_clauseHere_107 ?_
            obtain ⟨r_464, v_465, q_466, hf_463, hr_467, hv_468⟩ := (show tp_o_M L K 0 0 (Γ_459 (39, 0, 0)) (f_457 o) from hI.at ho)
            have hx_469 : (v_465 0).toInt = Γ_459 (39, 0, 0) 0 := hv_468 0 (by decide)
            have hx_470 : (v_465 1).toInt = Γ_459 (39, 0, 0) 1 := hv_468 1 (by decide)
            have hx_471 : (v_465 3).toInt = Γ_459 (39, 0, 0) 3 := hv_468 3 (by decide)
            have hx_472 : (v_465 4).toInt = Γ_459 (39, 0, 0) 4 := hv_468 4 (by decide)
            have hx_473 : (v_465 5).toInt = Γ_459 (39, 0, 0) 5 := hv_468 5 (by decide)
            have hx_474 : (v_465 6).toInt = Γ_459 (39, 0, 0) 6 := hv_468 6 (by decide)
            have hx_475 : (v_465 7).toInt = Γ_459 (39, 0, 0) 7 := hv_468 7 (by decide)
            have hx_476 : (v_465 8).toInt = Γ_459 (39, 0, 0) 8 := hv_468 8 (by decide)
            refine tq_ciR hS (hAf _ hS.1) (tq_rV (As := [.long 1936419184]) (rest := []) ⟨hx, hb, hml, hown, hta⟩ (tp_P.pre hK hN hL hU hI hP) (tp_recv hK hP ho.1 hf_463 rfl) lk_X12_174 (r_X12_isWord l D cy H.size L K Γ_459 f_457 o 1936419184 τ T0 ho ((hgr _ (by decide)).trans ht) (by first | omega | (simp only [Int32.toInt_toInt64]; omega) | decide | assumption) (by first | omega | (simp only [Int32.toInt_toInt64]; omega) | decide | assumption)) rfl rfl ⟨Nat.le_of_ble_eq_true rfl, Nat.le_of_ble_eq_true rfl⟩ rfl hl.1 rfl (Nat.le_of_ble_eq_true rfl) dX12_clauseHere_110 ⟨Nat.le_of_ble_eq_true rfl, Nat.le_of_ble_eq_true rfl⟩) (fun r_478 f_479 Γ_481 H locs hw_477 hP hI hc_480 hcg_482 hS => ?_)
            have hD : va_D A (va_pl L f_479) := tp_D hL hAL
            have hfr := tp_fr2 hfr hc_480 (by decide)
            have hgr : ∀ κ : tk_K, κ.1 ∉ ([39, 43, 44, 52, 45, 46, 53, 47, 54, 55, 56, 48, 49, 50, 51] : List Nat) → Γ_481 κ = Γ κ := tg_fr2 hgr hcg_482 (by decide)
            obtain ⟨hE_483, hw_477⟩ := hw_477
            have hE_483 : tl_E r_478 (tr_W τ T0 (Γ_481 (39, 0, 0) 1) 1936419184) 1 0 := hE_483
            have hw_477 : Γ_481 (39, 0, 0) 0 = Γ_459 (39, 0, 0) 0 ∧ Γ_481 (39, 0, 0) 3 = Γ_459 (39, 0, 0) 3 ∧ Γ_481 (39, 0, 0) 4 = Γ_459 (39, 0, 0) 4 ∧ Γ_481 (39, 0, 0) 5 = Γ_459 (39, 0, 0) 5 ∧ Γ_481 (39, 0, 0) 6 = Γ_459 (39, 0, 0) 6 ∧ Γ_481 (39, 0, 0) 7 = Γ_459 (39, 0, 0) 7 ∧ Γ_481 (39, 0, 0) 8 = Γ_459 (39, 0, 0) 8 ∧ Γ_459 (39, 0, 0) 1 ≤ Γ_481 (39, 0, 0) 1 ∧ Γ_481 (39, 0, 0) 1 ≤ T0 ∧ (¬ τ (Γ_459 (39, 0, 0) 1).toNat = 32 → Γ_481 (39, 0, 0) 1 = Γ_459 (39, 0, 0) 1) := hw_477
            have hgM : ∀ κ : tk_K, κ.1 ∉ ([39] : List Nat) → Γ_481 κ = Γ κ := tg_fr2 hgM hcg_482 (by decide)
            refine lv_if_eq (tgt := 120) hx hb dX12_clauseHere_113 (by decide) (fun c_484 => ?_) (fun c_484 => ?_)
            · have c_484 := hE_483.f c_484
              refine lv_iconst (v := 0) hx hb dX12_clauseHere_120 (by decide) ?_
              refine lv_goto (tgt := 131) hx hb dX12_clauseHere_121 (by decide) ?_
              refine lv_istore_n (lv' := [(3, .int 0), (2, .int r_401), (1, .int (v_23 1)), (0, .ref o)]) hx hb dX12_clauseHere_131 rfl hl (by decide) rfl (fun ls hl => ?_)
              exact hjn132 f_479 Γ_481 0 H locs ls (show Γ_481 (39, 0, 0) 0 = Γ (39, 0, 0) 0 from (by omega)) (show Γ_481 (39, 0, 0) 3 = Γ (39, 0, 0) 3 from (by omega)) (show Γ_481 (39, 0, 0) 4 = Γ (39, 0, 0) 4 from (by omega)) (show Γ_481 (39, 0, 0) 5 = Γ (39, 0, 0) 5 from (by omega)) (show Γ_481 (39, 0, 0) 6 = Γ (39, 0, 0) 6 from (by omega)) (show Γ_481 (39, 0, 0) 7 = Γ (39, 0, 0) 7 from (by omega)) (show Γ_481 (39, 0, 0) 8 = Γ (39, 0, 0) 8 from (by omega)) (show Γ (39, 0, 0) 1 ≤ Γ_481 (39, 0, 0) 1 ∧ Γ_481 (39, 0, 0) 1 ≤ T0 from (by omega)) (show ∀ κ : tk_K, κ.1 ∉ ([39] : List Nat) → Γ_481 κ = Γ κ from hgM) (show (0 : Int) = 0 ∨ (0 : Int) = 1 from (by decide)) (show (0 : Int) = 1 → tr_H τ T0 (Γ_481 (39, 0, 0) 1) t0 from (fun q9 => absurd q9 (by decide))) hP hI hfr hgr hS (lv_sub hl [0, 2, 3] rfl)
            · have c_484 := hE_483.t c_484
              refine lv_iconst (v := 1) hx hb dX12_clauseHere_116 (by decide) ?_
              refine lv_goto (tgt := 131) hx hb dX12_clauseHere_117 (by decide) ?_
              refine lv_istore_n (lv' := [(3, .int 1), (2, .int r_401), (1, .int (v_23 1)), (0, .ref o)]) hx hb dX12_clauseHere_131 rfl hl (by decide) rfl (fun ls hl => ?_)
              exact hjn132 f_479 Γ_481 1 H locs ls (show Γ_481 (39, 0, 0) 0 = Γ (39, 0, 0) 0 from (by omega)) (show Γ_481 (39, 0, 0) 3 = Γ (39, 0, 0) 3 from (by omega)) (show Γ_481 (39, 0, 0) 4 = Γ (39, 0, 0) 4 from (by omega)) (show Γ_481 (39, 0, 0) 5 = Γ (39, 0, 0) 5 from (by omega)) (show Γ_481 (39, 0, 0) 6 = Γ (39, 0, 0) 6 from (by omega)) (show Γ_481 (39, 0, 0) 7 = Γ (39, 0, 0) 7 from (by omega)) (show Γ_481 (39, 0, 0) 8 = Γ (39, 0, 0) 8 from (by omega)) (show Γ (39, 0, 0) 1 ≤ Γ_481 (39, 0, 0) 1 ∧ Γ_481 (39, 0, 0) 1 ≤ T0 from (by omega)) (show ∀ κ : tk_K, κ.1 ∉ ([39] : List Nat) → Γ_481 κ = Γ κ from hgM) (show (1 : Int) = 0 ∨ (1 : Int) = 1 from (by decide)) (show (1 : Int) = 1 → tr_H τ T0 (Γ_481 (39, 0, 0) 1) t0 from (fun _ => by first | exact Or.inl ⟨by omega, by first | exact Or.inl (by assumption) | exact Or.inr (Or.inl (by assumption)) | exact Or.inr (Or.inr (Or.inl (by assumption))) | exact Or.inr (Or.inr (Or.inr (by assumption)))⟩ | exact Or.inr (Or.inl ⟨by omega, by first | exact Or.inl (by assumption) | exact Or.inr (Or.inl (by assumption)) | exact Or.inr (Or.inr (Or.inl (by assumption))) | exact Or.inr (Or.inr (Or.inr (by assumption)))⟩))) hP hI hfr hgr hS (lv_sub hl [0, 2, 3] rfl)
  · have c_402 : r_401.toInt = (0 : Int) := tl_eq c_402
    refine lv_aload_n hx hb dX12_clauseHere_23 rfl (lv_at hl 2 rfl) ?_
    refine lv_ldc2 (v := 495672979045) hx hb hown (hta _ wk_552) dX12_clauseHere_24 ?_
    refine tq_ciR hS (hAf _ hS.1) (tq_rV (As := [.long 495672979045]) (rest := []) ⟨hx, hb, hml, hown, hta⟩ (tp_P.pre hK hN hL hU hI hP) (tp_recv hK hP ho.1 hf_21 rfl) lk_X12_174 (r_X12_isWord l D cy H.size L K Γ_19 f_17 o 495672979045 τ T0 ho ((hgr _ (by decide)).trans ht) (by first | omega | (simp only [Int32.toInt_toInt64]; omega) | decide | assumption) (by first | omega | (simp only [Int32.toInt_toInt64]; omega) | decide | assumption)) rfl rfl ⟨Nat.le_of_ble_eq_true rfl, Nat.le_of_ble_eq_true rfl⟩ rfl hl.1 rfl (Nat.le_of_ble_eq_true rfl) dX12_clauseHere_27 ⟨Nat.le_of_ble_eq_true rfl, Nat.le_of_ble_eq_true rfl⟩) (fun r_486 f_487 Γ_489 H locs hw_485 hP hI hc_488 hcg_490 hS => ?_)
    have hD : va_D A (va_pl L f_487) := tp_D hL hAL
    have hfr := tp_fr2 hfr hc_488 (by decide)
    have hgr : ∀ κ : tk_K, κ.1 ∉ ([39, 43, 44, 52, 45, 46, 53, 47, 54, 55, 56, 48, 49, 50, 51] : List Nat) → Γ_489 κ = Γ κ := tg_fr2 hgr hcg_490 (by decide)
    obtain ⟨hE_491, hw_485⟩ := hw_485
    have hE_491 : tl_E r_486 (tr_W τ T0 (Γ_489 (39, 0, 0) 1) 495672979045) 1 0 := hE_491
    have hw_485 : Γ_489 (39, 0, 0) 0 = Γ_19 (39, 0, 0) 0 ∧ Γ_489 (39, 0, 0) 3 = Γ_19 (39, 0, 0) 3 ∧ Γ_489 (39, 0, 0) 4 = Γ_19 (39, 0, 0) 4 ∧ Γ_489 (39, 0, 0) 5 = Γ_19 (39, 0, 0) 5 ∧ Γ_489 (39, 0, 0) 6 = Γ_19 (39, 0, 0) 6 ∧ Γ_489 (39, 0, 0) 7 = Γ_19 (39, 0, 0) 7 ∧ Γ_489 (39, 0, 0) 8 = Γ_19 (39, 0, 0) 8 ∧ Γ_19 (39, 0, 0) 1 ≤ Γ_489 (39, 0, 0) 1 ∧ Γ_489 (39, 0, 0) 1 ≤ T0 ∧ (¬ τ (Γ_19 (39, 0, 0) 1).toNat = 32 → Γ_489 (39, 0, 0) 1 = Γ_19 (39, 0, 0) 1) := hw_485
    have hgM : ∀ κ : tk_K, κ.1 ∉ ([39] : List Nat) → Γ_489 κ = Γ κ := tg_fr2 hgM hcg_490 (by decide)
    refine lv_if_ne (tgt := 63) hx hb dX12_clauseHere_30 (by decide) (fun c_492 => ?_) (fun c_492 => ?_)
    · have c_492 := hE_491.t c_492
      refine lv_iconst (v := 1) hx hb dX12_clauseHere_63 (by decide) ?_
      refine lv_goto (tgt := 131) hx hb dX12_clauseHere_64 (by decide) ?_
      refine lv_istore_n (lv' := [(3, .int 1), (2, .int r_401), (1, .int (v_23 1)), (0, .ref o)]) hx hb dX12_clauseHere_131 rfl hl (by decide) rfl (fun ls hl => ?_)
      exact hjn132 f_487 Γ_489 1 H locs ls (show Γ_489 (39, 0, 0) 0 = Γ (39, 0, 0) 0 from (by omega)) (show Γ_489 (39, 0, 0) 3 = Γ (39, 0, 0) 3 from (by omega)) (show Γ_489 (39, 0, 0) 4 = Γ (39, 0, 0) 4 from (by omega)) (show Γ_489 (39, 0, 0) 5 = Γ (39, 0, 0) 5 from (by omega)) (show Γ_489 (39, 0, 0) 6 = Γ (39, 0, 0) 6 from (by omega)) (show Γ_489 (39, 0, 0) 7 = Γ (39, 0, 0) 7 from (by omega)) (show Γ_489 (39, 0, 0) 8 = Γ (39, 0, 0) 8 from (by omega)) (show Γ (39, 0, 0) 1 ≤ Γ_489 (39, 0, 0) 1 ∧ Γ_489 (39, 0, 0) 1 ≤ T0 from (by omega)) (show ∀ κ : tk_K, κ.1 ∉ ([39] : List Nat) → Γ_489 κ = Γ κ from hgM) (show (1 : Int) = 0 ∨ (1 : Int) = 1 from (by decide)) (show (1 : Int) = 1 → tr_H τ T0 (Γ_489 (39, 0, 0) 1) t0 from (fun _ => by first | exact Or.inl ⟨by omega, by first | exact Or.inl (by assumption) | exact Or.inr (Or.inl (by assumption)) | exact Or.inr (Or.inr (Or.inl (by assumption))) | exact Or.inr (Or.inr (Or.inr (by assumption)))⟩ | exact Or.inr (Or.inl ⟨by omega, by first | exact Or.inl (by assumption) | exact Or.inr (Or.inl (by assumption)) | exact Or.inr (Or.inr (Or.inl (by assumption))) | exact Or.inr (Or.inr (Or.inr (by assumption)))⟩))) hP hI hfr hgr hS (lv_sub hl [0, 2, 3] rfl)
    · have c_492 := hE_491.f c_492
      refine lv_aload_n hx hb dX12_clauseHere_33 rfl (lv_at hl 2 rfl) ?_
      refine lv_ldc2 (v := 125797183548517) hx hb hown (hta _ wk_553) dX12_clauseHere_34 ?_
      obtain ⟨r_494, v_495, q_496, hf_493, hr_497, hv_498⟩ := (show tp_o_M L K 0 0 (Γ_489 (39, 0, 0)) (f_487 o) from hI.at ho)
      have hx_499 : (v_495 0).toInt = Γ_489 (39, 0, 0) 0 := hv_498 0 (by decide)
      have hx_500 : (v_495 1).toInt = Γ_489 (39, 0, 0) 1 := hv_498 1 (by decide)
      have hx_501 : (v_495 3).toInt = Γ_489 (39, 0, 0) 3 := hv_498 3 (by decide)
      have hx_502 : (v_495 4).toInt = Γ_489 (39, 0, 0) 4 := hv_498 4 (by decide)
      have hx_503 : (v_495 5).toInt = Γ_489 (39, 0, 0) 5 := hv_498 5 (by decide)
      have hx_504 : (v_495 6).toInt = Γ_489 (39, 0, 0) 6 := hv_498 6 (by decide)
      have hx_505 : (v_495 7).toInt = Γ_489 (39, 0, 0) 7 := hv_498 7 (by decide)
      have hx_506 : (v_495 8).toInt = Γ_489 (39, 0, 0) 8 := hv_498 8 (by decide)
      refine tq_ciR hS (hAf _ hS.1) (tq_rV (As := [.long 125797183548517]) (rest := []) ⟨hx, hb, hml, hown, hta⟩ (tp_P.pre hK hN hL hU hI hP) (tp_recv hK hP ho.1 hf_493 rfl) lk_X12_174 (r_X12_isWord l D cy H.size L K Γ_489 f_487 o 125797183548517 τ T0 ho ((hgr _ (by decide)).trans ht) (by first | omega | (simp only [Int32.toInt_toInt64]; omega) | decide | assumption) (by first | omega | (simp only [Int32.toInt_toInt64]; omega) | decide | assumption)) rfl rfl ⟨Nat.le_of_ble_eq_true rfl, Nat.le_of_ble_eq_true rfl⟩ rfl hl.1 rfl (Nat.le_of_ble_eq_true rfl) dX12_clauseHere_37 ⟨Nat.le_of_ble_eq_true rfl, Nat.le_of_ble_eq_true rfl⟩) (fun r_508 f_509 Γ_511 H locs hw_507 hP hI hc_510 hcg_512 hS => ?_)
      have hD : va_D A (va_pl L f_509) := tp_D hL hAL
      have hfr := tp_fr2 hfr hc_510 (by decide)
      have hgr : ∀ κ : tk_K, κ.1 ∉ ([39, 43, 44, 52, 45, 46, 53, 47, 54, 55, 56, 48, 49, 50, 51] : List Nat) → Γ_511 κ = Γ κ := tg_fr2 hgr hcg_512 (by decide)
      obtain ⟨hE_513, hw_507⟩ := hw_507
      have hE_513 : tl_E r_508 (tr_W τ T0 (Γ_511 (39, 0, 0) 1) 125797183548517) 1 0 := hE_513
      have hw_507 : Γ_511 (39, 0, 0) 0 = Γ_489 (39, 0, 0) 0 ∧ Γ_511 (39, 0, 0) 3 = Γ_489 (39, 0, 0) 3 ∧ Γ_511 (39, 0, 0) 4 = Γ_489 (39, 0, 0) 4 ∧ Γ_511 (39, 0, 0) 5 = Γ_489 (39, 0, 0) 5 ∧ Γ_511 (39, 0, 0) 6 = Γ_489 (39, 0, 0) 6 ∧ Γ_511 (39, 0, 0) 7 = Γ_489 (39, 0, 0) 7 ∧ Γ_511 (39, 0, 0) 8 = Γ_489 (39, 0, 0) 8 ∧ Γ_489 (39, 0, 0) 1 ≤ Γ_511 (39, 0, 0) 1 ∧ Γ_511 (39, 0, 0) 1 ≤ T0 ∧ (¬ τ (Γ_489 (39, 0, 0) 1).toNat = 32 → Γ_511 (39, 0, 0) 1 = Γ_489 (39, 0, 0) 1) := hw_507
      have hgM : ∀ κ : tk_K, κ.1 ∉ ([39] : List Nat) → Γ_511 κ = Γ κ := tg_fr2 hgM hcg_512 (by decide)
      refine lv_if_ne (tgt := 63) hx hb dX12_clauseHere_40 (by decide) (fun c_514 => ?_) (fun c_514 => ?_)
      · have c_514 := hE_513.t c_514
        refine lv_iconst (v := 1) hx hb dX12_clauseHere_63 (by decide) ?_
        refine lv_goto (tgt := 131) hx hb dX12_clauseHere_64 (by decide) ?_
        refine lv_istore_n (lv' := [(3, .int 1), (2, .int r_401), (1, .int (v_23 1)), (0, .ref o)]) hx hb dX12_clauseHere_131 rfl hl (by decide) rfl (fun ls hl => ?_)
        exact hjn132 f_509 Γ_511 1 H locs ls (show Γ_511 (39, 0, 0) 0 = Γ (39, 0, 0) 0 from (by omega)) (show Γ_511 (39, 0, 0) 3 = Γ (39, 0, 0) 3 from (by omega)) (show Γ_511 (39, 0, 0) 4 = Γ (39, 0, 0) 4 from (by omega)) (show Γ_511 (39, 0, 0) 5 = Γ (39, 0, 0) 5 from (by omega)) (show Γ_511 (39, 0, 0) 6 = Γ (39, 0, 0) 6 from (by omega)) (show Γ_511 (39, 0, 0) 7 = Γ (39, 0, 0) 7 from (by omega)) (show Γ_511 (39, 0, 0) 8 = Γ (39, 0, 0) 8 from (by omega)) (show Γ (39, 0, 0) 1 ≤ Γ_511 (39, 0, 0) 1 ∧ Γ_511 (39, 0, 0) 1 ≤ T0 from (by omega)) (show ∀ κ : tk_K, κ.1 ∉ ([39] : List Nat) → Γ_511 κ = Γ κ from hgM) (show (1 : Int) = 0 ∨ (1 : Int) = 1 from (by decide)) (show (1 : Int) = 1 → tr_H τ T0 (Γ_511 (39, 0, 0) 1) t0 from (fun _ => by first | exact Or.inl ⟨by omega, by first | exact Or.inl (by assumption) | exact Or.inr (Or.inl (by assumption)) | exact Or.inr (Or.inr (Or.inl (by assumption))) | exact Or.inr (Or.inr (Or.inr (by assumption)))⟩ | exact Or.inr (Or.inl ⟨by omega, by first | exact Or.inl (by assumption) | exact Or.inr (Or.inl (by assumption)) | exact Or.inr (Or.inr (Or.inl (by assumption))) | exact Or.inr (Or.inr (Or.inr (by assumption)))⟩))) hP hI hfr hgr hS (lv_sub hl [0, 2, 3] rfl)
      · have c_514 := hE_513.f c_514
        refine lv_aload_n hx hb dX12_clauseHere_43 rfl (lv_at hl 2 rfl) ?_
        refine lv_ldc2 (v := 474315584357) hx hb hown (hta _ wk_554) dX12_clauseHere_44 ?_
        obtain ⟨r_516, v_517, q_518, hf_515, hr_519, hv_520⟩ := (show tp_o_M L K 0 0 (Γ_511 (39, 0, 0)) (f_509 o) from hI.at ho)
        have hx_521 : (v_517 0).toInt = Γ_511 (39, 0, 0) 0 := hv_520 0 (by decide)
        have hx_522 : (v_517 1).toInt = Γ_511 (39, 0, 0) 1 := hv_520 1 (by decide)
        have hx_523 : (v_517 3).toInt = Γ_511 (39, 0, 0) 3 := hv_520 3 (by decide)
        have hx_524 : (v_517 4).toInt = Γ_511 (39, 0, 0) 4 := hv_520 4 (by decide)
        have hx_525 : (v_517 5).toInt = Γ_511 (39, 0, 0) 5 := hv_520 5 (by decide)
        have hx_526 : (v_517 6).toInt = Γ_511 (39, 0, 0) 6 := hv_520 6 (by decide)
        have hx_527 : (v_517 7).toInt = Γ_511 (39, 0, 0) 7 := hv_520 7 (by decide)
        have hx_528 : (v_517 8).toInt = Γ_511 (39, 0, 0) 8 := hv_520 8 (by decide)
        refine tq_ciR hS (hAf _ hS.1) (tq_rV (As := [.long 474315584357]) (rest := []) ⟨hx, hb, hml, hown, hta⟩ (tp_P.pre hK hN hL hU hI hP) (tp_recv hK hP ho.1 hf_515 rfl) lk_X12_174 (r_X12_isWord l D cy H.size L K Γ_511 f_509 o 474315584357 τ T0 ho ((hgr _ (by decide)).trans ht) (by first | omega | (simp only [Int32.toInt_toInt64]; omega) | decide | assumption) (by first | omega | (simp only [Int32.toInt_toInt64]; omega) | decide | assumption)) rfl rfl ⟨Nat.le_of_ble_eq_true rfl, Nat.le_of_ble_eq_true rfl⟩ rfl hl.1 rfl (Nat.le_of_ble_eq_true rfl) dX12_clauseHere_47 ⟨Nat.le_of_ble_eq_true rfl, Nat.le_of_ble_eq_true rfl⟩) (fun r_530 f_531 Γ_533 H locs hw_529 hP hI hc_532 hcg_534 hS => ?_)
        have hD : va_D A (va_pl L f_531) := tp_D hL hAL
        have hfr := tp_fr2 hfr hc_532 (by decide)
        have hgr : ∀ κ : tk_K, κ.1 ∉ ([39, 43, 44, 52, 45, 46, 53, 47, 54, 55, 56, 48, 49, 50, 51] : List Nat) → Γ_533 κ = Γ κ := tg_fr2 hgr hcg_534 (by decide)
        obtain ⟨hE_535, hw_529⟩ := hw_529
        have hE_535 : tl_E r_530 (tr_W τ T0 (Γ_533 (39, 0, 0) 1) 474315584357) 1 0 := hE_535
        have hw_529 : Γ_533 (39, 0, 0) 0 = Γ_511 (39, 0, 0) 0 ∧ Γ_533 (39, 0, 0) 3 = Γ_511 (39, 0, 0) 3 ∧ Γ_533 (39, 0, 0) 4 = Γ_511 (39, 0, 0) 4 ∧ Γ_533 (39, 0, 0) 5 = Γ_511 (39, 0, 0) 5 ∧ Γ_533 (39, 0, 0) 6 = Γ_511 (39, 0, 0) 6 ∧ Γ_533 (39, 0, 0) 7 = Γ_511 (39, 0, 0) 7 ∧ Γ_533 (39, 0, 0) 8 = Γ_511 (39, 0, 0) 8 ∧ Γ_511 (39, 0, 0) 1 ≤ Γ_533 (39, 0, 0) 1 ∧ Γ_533 (39, 0, 0) 1 ≤ T0 ∧ (¬ τ (Γ_511 (39, 0, 0) 1).toNat = 32 → Γ_533 (39, 0, 0) 1 = Γ_511 (39, 0, 0) 1) := hw_529
        have hgM : ∀ κ : tk_K, κ.1 ∉ ([39] : List Nat) → Γ_533 κ = Γ κ := tg_fr2 hgM hcg_534 (by decide)
        refine lv_if_ne (tgt := 63) hx hb dX12_clauseHere_50 (by decide) (fun c_536 => ?_) (fun c_536 => ?_)
        · have c_536 := hE_535.t c_536
          refine lv_iconst (v := 1) hx hb dX12_clauseHere_63 (by decide) ?_
          refine lv_goto (tgt := 131) hx hb dX12_clauseHere_64 (by decide) ?_
          refine lv_istore_n (lv' := [(3, .int 1), (2, .int r_401), (1, .int (v_23 1)), (0, .ref o)]) hx hb dX12_clauseHere_131 rfl hl (by decide) rfl (fun ls hl => ?_)
          exact hjn132 f_531 Γ_533 1 H locs ls (show Γ_533 (39, 0, 0) 0 = Γ (39, 0, 0) 0 from (by omega)) (show Γ_533 (39, 0, 0) 3 = Γ (39, 0, 0) 3 from (by omega)) (show Γ_533 (39, 0, 0) 4 = Γ (39, 0, 0) 4 from (by omega)) (show Γ_533 (39, 0, 0) 5 = Γ (39, 0, 0) 5 from (by omega)) (show Γ_533 (39, 0, 0) 6 = Γ (39, 0, 0) 6 from (by omega)) (show Γ_533 (39, 0, 0) 7 = Γ (39, 0, 0) 7 from (by omega)) (show Γ_533 (39, 0, 0) 8 = Γ (39, 0, 0) 8 from (by omega)) (show Γ (39, 0, 0) 1 ≤ Γ_533 (39, 0, 0) 1 ∧ Γ_533 (39, 0, 0) 1 ≤ T0 from (by omega)) (show ∀ κ : tk_K, κ.1 ∉ ([39] : List Nat) → Γ_533 κ = Γ κ from hgM) (show (1 : Int) = 0 ∨ (1 : Int) = 1 from (by decide)) (show (1 : Int) = 1 → tr_H τ T0 (Γ_533 (39, 0, 0) 1) t0 from (fun _ => by first | exact Or.inl ⟨by omega, by first | exact Or.inl (by assumption) | exact Or.inr (Or.inl (by assumption)) | exact Or.inr (Or.inr (Or.inl (by assumption))) | exact Or.inr (Or.inr (Or.inr (by assumption)))⟩ | exact Or.inr (Or.inl ⟨by omega, by first | exact Or.inl (by assumption) | exact Or.inr (Or.inl (by assumption)) | exact Or.inr (Or.inr (Or.inl (by assumption))) | exact Or.inr (Or.inr (Or.inr (by assumption)))⟩))) hP hI hfr hgr hS (lv_sub hl [0, 2, 3] rfl)
        · have c_536 := hE_535.f c_536
          refine lv_aload_n hx hb dX12_clauseHere_53 rfl (lv_at hl 2 rfl) ?_
          refine lv_ldc2 (v := 1700885619) hx hb hown (hta _ wk_555) dX12_clauseHere_54 ?_
          obtain ⟨r_538, v_539, q_540, hf_537, hr_541, hv_542⟩ := (show tp_o_M L K 0 0 (Γ_533 (39, 0, 0)) (f_531 o) from hI.at ho)
          have hx_543 : (v_539 0).toInt = Γ_533 (39, 0, 0) 0 := hv_542 0 (by decide)
          have hx_544 : (v_539 1).toInt = Γ_533 (39, 0, 0) 1 := hv_542 1 (by decide)
          have hx_545 : (v_539 3).toInt = Γ_533 (39, 0, 0) 3 := hv_542 3 (by decide)
          have hx_546 : (v_539 4).toInt = Γ_533 (39, 0, 0) 4 := hv_542 4 (by decide)
          have hx_547 : (v_539 5).toInt = Γ_533 (39, 0, 0) 5 := hv_542 5 (by decide)
          have hx_548 : (v_539 6).toInt = Γ_533 (39, 0, 0) 6 := hv_542 6 (by decide)
          have hx_549 : (v_539 7).toInt = Γ_533 (39, 0, 0) 7 := hv_542 7 (by decide)
          have hx_550 : (v_539 8).toInt = Γ_533 (39, 0, 0) 8 := hv_542 8 (by decide)
          refine tq_ciR hS (hAf _ hS.1) (tq_rV (As := [.long 1700885619]) (rest := []) ⟨hx, hb, hml, hown, hta⟩ (tp_P.pre hK hN hL hU hI hP) (tp_recv hK hP ho.1 hf_537 rfl) lk_X12_174 (r_X12_isWord l D cy H.size L K Γ_533 f_531 o 1700885619 τ T0 ho ((hgr _ (by decide)).trans ht) (by first | omega | (simp only [Int32.toInt_toInt64]; omega) | decide | assumption) (by first | omega | (simp only [Int32.toInt_toInt64]; omega) | decide | assumption)) rfl rfl ⟨Nat.le_of_ble_eq_true rfl, Nat.le_of_ble_eq_true rfl⟩ rfl hl.1 rfl (Nat.le_of_ble_eq_true rfl) dX12_clauseHere_57 ⟨Nat.le_of_ble_eq_true rfl, Nat.le_of_ble_eq_true rfl⟩) (fun r_552 f_553 Γ_555 H locs hw_551 hP hI hc_554 hcg_556 hS => ?_)
          have hD : va_D A (va_pl L f_553) := tp_D hL hAL
          have hfr := tp_fr2 hfr hc_554 (by decide)
          have hgr : ∀ κ : tk_K, κ.1 ∉ ([39, 43, 44, 52, 45, 46, 53, 47, 54, 55, 56, 48, 49, 50, 51] : List Nat) → Γ_555 κ = Γ κ := tg_fr2 hgr hcg_556 (by decide)
          obtain ⟨hE_557, hw_551⟩ := hw_551
          have hE_557 : tl_E r_552 (tr_W τ T0 (Γ_555 (39, 0, 0) 1) 1700885619) 1 0 := hE_557
          have hw_551 : Γ_555 (39, 0, 0) 0 = Γ_533 (39, 0, 0) 0 ∧ Γ_555 (39, 0, 0) 3 = Γ_533 (39, 0, 0) 3 ∧ Γ_555 (39, 0, 0) 4 = Γ_533 (39, 0, 0) 4 ∧ Γ_555 (39, 0, 0) 5 = Γ_533 (39, 0, 0) 5 ∧ Γ_555 (39, 0, 0) 6 = Γ_533 (39, 0, 0) 6 ∧ Γ_555 (39, 0, 0) 7 = Γ_533 (39, 0, 0) 7 ∧ Γ_555 (39, 0, 0) 8 = Γ_533 (39, 0, 0) 8 ∧ Γ_533 (39, 0, 0) 1 ≤ Γ_555 (39, 0, 0) 1 ∧ Γ_555 (39, 0, 0) 1 ≤ T0 ∧ (¬ τ (Γ_533 (39, 0, 0) 1).toNat = 32 → Γ_555 (39, 0, 0) 1 = Γ_533 (39, 0, 0) 1) := hw_551
          have hgM : ∀ κ : tk_K, κ.1 ∉ ([39] : List Nat) → Γ_555 κ = Γ κ := tg_fr2 hgM hcg_556 (by decide)
          refine lv_if_eq (tgt := 67) hx hb dX12_clauseHere_60 (by decide) (fun c_558 => ?_) (fun c_558 => ?_)
          · have c_558 := hE_557.f c_558
            refine lv_iconst (v := 0) hx hb dX12_clauseHere_67 (by decide) ?_
            refine lv_goto (tgt := 131) hx hb dX12_clauseHere_68 (by decide) ?_
            refine lv_istore_n (lv' := [(3, .int 0), (2, .int r_401), (1, .int (v_23 1)), (0, .ref o)]) hx hb dX12_clauseHere_131 rfl hl (by decide) rfl (fun ls hl => ?_)
            exact hjn132 f_553 Γ_555 0 H locs ls (show Γ_555 (39, 0, 0) 0 = Γ (39, 0, 0) 0 from (by omega)) (show Γ_555 (39, 0, 0) 3 = Γ (39, 0, 0) 3 from (by omega)) (show Γ_555 (39, 0, 0) 4 = Γ (39, 0, 0) 4 from (by omega)) (show Γ_555 (39, 0, 0) 5 = Γ (39, 0, 0) 5 from (by omega)) (show Γ_555 (39, 0, 0) 6 = Γ (39, 0, 0) 6 from (by omega)) (show Γ_555 (39, 0, 0) 7 = Γ (39, 0, 0) 7 from (by omega)) (show Γ_555 (39, 0, 0) 8 = Γ (39, 0, 0) 8 from (by omega)) (show Γ (39, 0, 0) 1 ≤ Γ_555 (39, 0, 0) 1 ∧ Γ_555 (39, 0, 0) 1 ≤ T0 from (by omega)) (show ∀ κ : tk_K, κ.1 ∉ ([39] : List Nat) → Γ_555 κ = Γ κ from hgM) (show (0 : Int) = 0 ∨ (0 : Int) = 1 from (by decide)) (show (0 : Int) = 1 → tr_H τ T0 (Γ_555 (39, 0, 0) 1) t0 from (fun q9 => absurd q9 (by decide))) hP hI hfr hgr hS (lv_sub hl [0, 2, 3] rfl)
          · have c_558 := hE_557.t c_558
            refine lv_iconst (v := 1) hx hb dX12_clauseHere_63 (by decide) ?_
            refine lv_goto (tgt := 131) hx hb dX12_clauseHere_64 (by decide) ?_
            refine lv_istore_n (lv' := [(3, .int 1), (2, .int r_401), (1, .int (v_23 1)), (0, .ref o)]) hx hb dX12_clauseHere_131 rfl hl (by decide) rfl (fun ls hl => ?_)
            exact hjn132 f_553 Γ_555 1 H locs ls (show Γ_555 (39, 0, 0) 0 = Γ (39, 0, 0) 0 from (by omega)) (show Γ_555 (39, 0, 0) 3 = Γ (39, 0, 0) 3 from (by omega)) (show Γ_555 (39, 0, 0) 4 = Γ (39, 0, 0) 4 from (by omega)) (show Γ_555 (39, 0, 0) 5 = Γ (39, 0, 0) 5 from (by omega)) (show Γ_555 (39, 0, 0) 6 = Γ (39, 0, 0) 6 from (by omega)) (show Γ_555 (39, 0, 0) 7 = Γ (39, 0, 0) 7 from (by omega)) (show Γ_555 (39, 0, 0) 8 = Γ (39, 0, 0) 8 from (by omega)) (show Γ (39, 0, 0) 1 ≤ Γ_555 (39, 0, 0) 1 ∧ Γ_555 (39, 0, 0) 1 ≤ T0 from (by omega)) (show ∀ κ : tk_K, κ.1 ∉ ([39] : List Nat) → Γ_555 κ = Γ κ from hgM) (show (1 : Int) = 0 ∨ (1 : Int) = 1 from (by decide)) (show (1 : Int) = 1 → tr_H τ T0 (Γ_555 (39, 0, 0) 1) t0 from (fun _ => by first | exact Or.inl ⟨by omega, by first | exact Or.inl (by assumption) | exact Or.inr (Or.inl (by assumption)) | exact Or.inr (Or.inr (Or.inl (by assumption))) | exact Or.inr (Or.inr (Or.inr (by assumption)))⟩ | exact Or.inr (Or.inl ⟨by omega, by first | exact Or.inl (by assumption) | exact Or.inr (Or.inl (by assumption)) | exact Or.inr (Or.inr (Or.inl (by assumption))) | exact Or.inr (Or.inr (Or.inr (by assumption)))⟩))) hP hI hfr hgr hS (lv_sub hl [0, 2, 3] rfl)
