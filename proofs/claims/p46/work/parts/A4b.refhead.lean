theorem dX12_clauseHere_0 : decode cX12_clauseHere 0 = .ok (.aload_n 0, 1) := by decide +kernel
theorem dX12_clauseHere_1 : decode cX12_clauseHere 1 = .ok (.invokevirtual 167, 3) := by decide +kernel
theorem dX12_clauseHere_4 : decode cX12_clauseHere 4 = .ok (.pop, 1) := by decide +kernel
theorem dX12_clauseHere_5 : decode cX12_clauseHere 5 = .ok (.aload_n 0, 1) := by decide +kernel
theorem dX12_clauseHere_6 : decode cX12_clauseHere 6 = .ok (.getfield 164, 3) := by decide +kernel
theorem dX12_clauseHere_9 : decode cX12_clauseHere 9 = .ok (.istore_n 1, 1) := by decide +kernel
theorem dX12_clauseHere_10 : decode cX12_clauseHere 10 = .ok (.aload_n 0, 1) := by decide +kernel
theorem dX12_clauseHere_11 : decode cX12_clauseHere 11 = .ok (.aload_n 0, 1) := by decide +kernel
theorem dX12_clauseHere_12 : decode cX12_clauseHere 12 = .ok (.getfield 191, 3) := by decide +kernel
theorem dX12_clauseHere_15 : decode cX12_clauseHere 15 = .ok (.invokevirtual 194, 3) := by decide +kernel
theorem dX12_clauseHere_18 : decode cX12_clauseHere 18 = .ok (.istore_n 2, 1) := by decide +kernel
theorem dX12_clauseHere_19 : decode cX12_clauseHere 19 = .ok (.iload_n 2, 1) := by decide +kernel
theorem dX12_clauseHere_20 : decode cX12_clauseHere 20 = .ok (.ifCond .ne 51, 3) := by decide +kernel
theorem dX12_clauseHere_23 : decode cX12_clauseHere 23 = .ok (.aload_n 0, 1) := by decide +kernel
theorem dX12_clauseHere_24 : decode cX12_clauseHere 24 = .ok (.ldc2_w 288, 3) := by decide +kernel
theorem dX12_clauseHere_27 : decode cX12_clauseHere 27 = .ok (.invokevirtual 174, 3) := by decide +kernel
theorem dX12_clauseHere_30 : decode cX12_clauseHere 30 = .ok (.ifCond .ne 33, 3) := by decide +kernel
theorem dX12_clauseHere_33 : decode cX12_clauseHere 33 = .ok (.aload_n 0, 1) := by decide +kernel
theorem dX12_clauseHere_34 : decode cX12_clauseHere 34 = .ok (.ldc2_w 290, 3) := by decide +kernel
theorem dX12_clauseHere_37 : decode cX12_clauseHere 37 = .ok (.invokevirtual 174, 3) := by decide +kernel
theorem dX12_clauseHere_40 : decode cX12_clauseHere 40 = .ok (.ifCond .ne 23, 3) := by decide +kernel
theorem dX12_clauseHere_43 : decode cX12_clauseHere 43 = .ok (.aload_n 0, 1) := by decide +kernel
theorem dX12_clauseHere_44 : decode cX12_clauseHere 44 = .ok (.ldc2_w 292, 3) := by decide +kernel
theorem dX12_clauseHere_47 : decode cX12_clauseHere 47 = .ok (.invokevirtual 174, 3) := by decide +kernel
theorem dX12_clauseHere_50 : decode cX12_clauseHere 50 = .ok (.ifCond .ne 13, 3) := by decide +kernel
theorem dX12_clauseHere_53 : decode cX12_clauseHere 53 = .ok (.aload_n 0, 1) := by decide +kernel
theorem dX12_clauseHere_54 : decode cX12_clauseHere 54 = .ok (.ldc2_w 294, 3) := by decide +kernel
theorem dX12_clauseHere_57 : decode cX12_clauseHere 57 = .ok (.invokevirtual 174, 3) := by decide +kernel
theorem dX12_clauseHere_60 : decode cX12_clauseHere 60 = .ok (.ifCond .eq 7, 3) := by decide +kernel
theorem dX12_clauseHere_63 : decode cX12_clauseHere 63 = .ok (.iconst 1, 1) := by decide +kernel
theorem dX12_clauseHere_64 : decode cX12_clauseHere 64 = .ok (.goto 67, 3) := by decide +kernel
theorem dX12_clauseHere_67 : decode cX12_clauseHere 67 = .ok (.iconst 0, 1) := by decide +kernel
theorem dX12_clauseHere_68 : decode cX12_clauseHere 68 = .ok (.goto 63, 3) := by decide +kernel
theorem dX12_clauseHere_71 : decode cX12_clauseHere 71 = .ok (.iload_n 2, 1) := by decide +kernel
theorem dX12_clauseHere_72 : decode cX12_clauseHere 72 = .ok (.iconst 1, 1) := by decide +kernel
theorem dX12_clauseHere_73 : decode cX12_clauseHere 73 = .ok (.if_icmp .ne 51, 3) := by decide +kernel
theorem dX12_clauseHere_76 : decode cX12_clauseHere 76 = .ok (.aload_n 0, 1) := by decide +kernel
theorem dX12_clauseHere_77 : decode cX12_clauseHere 77 = .ok (.ldc2_w 296, 3) := by decide +kernel
theorem dX12_clauseHere_80 : decode cX12_clauseHere 80 = .ok (.invokevirtual 174, 3) := by decide +kernel
theorem dX12_clauseHere_83 : decode cX12_clauseHere 83 = .ok (.ifCond .ne 33, 3) := by decide +kernel
theorem dX12_clauseHere_86 : decode cX12_clauseHere 86 = .ok (.aload_n 0, 1) := by decide +kernel
theorem dX12_clauseHere_87 : decode cX12_clauseHere 87 = .ok (.ldc2_w 298, 3) := by decide +kernel
theorem dX12_clauseHere_90 : decode cX12_clauseHere 90 = .ok (.invokevirtual 174, 3) := by decide +kernel
theorem dX12_clauseHere_93 : decode cX12_clauseHere 93 = .ok (.ifCond .ne 23, 3) := by decide +kernel
theorem dX12_clauseHere_96 : decode cX12_clauseHere 96 = .ok (.aload_n 0, 1) := by decide +kernel
theorem dX12_clauseHere_97 : decode cX12_clauseHere 97 = .ok (.ldc2_w 300, 3) := by decide +kernel
theorem dX12_clauseHere_100 : decode cX12_clauseHere 100 = .ok (.invokevirtual 174, 3) := by decide +kernel
theorem dX12_clauseHere_103 : decode cX12_clauseHere 103 = .ok (.ifCond .ne 13, 3) := by decide +kernel
theorem dX12_clauseHere_106 : decode cX12_clauseHere 106 = .ok (.aload_n 0, 1) := by decide +kernel
theorem dX12_clauseHere_107 : decode cX12_clauseHere 107 = .ok (.ldc2_w 302, 3) := by decide +kernel
theorem dX12_clauseHere_110 : decode cX12_clauseHere 110 = .ok (.invokevirtual 174, 3) := by decide +kernel
theorem dX12_clauseHere_113 : decode cX12_clauseHere 113 = .ok (.ifCond .eq 7, 3) := by decide +kernel
theorem dX12_clauseHere_116 : decode cX12_clauseHere 116 = .ok (.iconst 1, 1) := by decide +kernel
theorem dX12_clauseHere_117 : decode cX12_clauseHere 117 = .ok (.goto 14, 3) := by decide +kernel
theorem dX12_clauseHere_120 : decode cX12_clauseHere 120 = .ok (.iconst 0, 1) := by decide +kernel
theorem dX12_clauseHere_121 : decode cX12_clauseHere 121 = .ok (.goto 10, 3) := by decide +kernel
theorem dX12_clauseHere_124 : decode cX12_clauseHere 124 = .ok (.aload_n 0, 1) := by decide +kernel
theorem dX12_clauseHere_125 : decode cX12_clauseHere 125 = .ok (.ldc2_w 304, 3) := by decide +kernel
theorem dX12_clauseHere_128 : decode cX12_clauseHere 128 = .ok (.invokevirtual 174, 3) := by decide +kernel
theorem dX12_clauseHere_131 : decode cX12_clauseHere 131 = .ok (.istore_n 3, 1) := by decide +kernel
theorem dX12_clauseHere_132 : decode cX12_clauseHere 132 = .ok (.iload_n 3, 1) := by decide +kernel
theorem dX12_clauseHere_133 : decode cX12_clauseHere 133 = .ok (.ifCond .ne 10, 3) := by decide +kernel
theorem dX12_clauseHere_136 : decode cX12_clauseHere 136 = .ok (.aload_n 0, 1) := by decide +kernel
theorem dX12_clauseHere_137 : decode cX12_clauseHere 137 = .ok (.iconst 0, 1) := by decide +kernel
theorem dX12_clauseHere_138 : decode cX12_clauseHere 138 = .ok (.iload_n 1, 1) := by decide +kernel
theorem dX12_clauseHere_139 : decode cX12_clauseHere 139 = .ok (.invokevirtual 184, 3) := by decide +kernel
theorem dX12_clauseHere_142 : decode cX12_clauseHere 142 = .ok (.ireturn, 1) := by decide +kernel
theorem dX12_clauseHere_143 : decode cX12_clauseHere 143 = .ok (.aload_n 0, 1) := by decide +kernel
theorem dX12_clauseHere_144 : decode cX12_clauseHere 144 = .ok (.getfield 306, 3) := by decide +kernel
theorem dX12_clauseHere_147 : decode cX12_clauseHere 147 = .ok (.bipush 12, 2) := by decide +kernel
theorem dX12_clauseHere_149 : decode cX12_clauseHere 149 = .ok (.if_icmp .ne 10, 3) := by decide +kernel
theorem dX12_clauseHere_152 : decode cX12_clauseHere 152 = .ok (.aload_n 0, 1) := by decide +kernel
theorem dX12_clauseHere_153 : decode cX12_clauseHere 153 = .ok (.iconst 4, 1) := by decide +kernel
theorem dX12_clauseHere_154 : decode cX12_clauseHere 154 = .ok (.iload_n 1, 1) := by decide +kernel
theorem dX12_clauseHere_155 : decode cX12_clauseHere 155 = .ok (.invokevirtual 184, 3) := by decide +kernel
theorem dX12_clauseHere_158 : decode cX12_clauseHere 158 = .ok (.ireturn, 1) := by decide +kernel
theorem dX12_clauseHere_159 : decode cX12_clauseHere 159 = .ok (.aload_n 0, 1) := by decide +kernel
theorem dX12_clauseHere_160 : decode cX12_clauseHere 160 = .ok (.dup, 1) := by decide +kernel
theorem dX12_clauseHere_161 : decode cX12_clauseHere 161 = .ok (.getfield 306, 3) := by decide +kernel
theorem dX12_clauseHere_164 : decode cX12_clauseHere 164 = .ok (.iconst 1, 1) := by decide +kernel
theorem dX12_clauseHere_165 : decode cX12_clauseHere 165 = .ok (.iadd, 1) := by decide +kernel
theorem dX12_clauseHere_166 : decode cX12_clauseHere 166 = .ok (.putfield 306, 3) := by decide +kernel
theorem dX12_clauseHere_169 : decode cX12_clauseHere 169 = .ok (.aload_n 0, 1) := by decide +kernel
theorem dX12_clauseHere_170 : decode cX12_clauseHere 170 = .ok (.ldc2_w 290, 3) := by decide +kernel
theorem dX12_clauseHere_173 : decode cX12_clauseHere 173 = .ok (.invokevirtual 174, 3) := by decide +kernel
theorem dX12_clauseHere_176 : decode cX12_clauseHere 176 = .ok (.ifCond .eq 9, 3) := by decide +kernel
theorem dX12_clauseHere_179 : decode cX12_clauseHere 179 = .ok (.aload_n 0, 1) := by decide +kernel
theorem dX12_clauseHere_180 : decode cX12_clauseHere 180 = .ok (.iload_n 1, 1) := by decide +kernel
theorem dX12_clauseHere_181 : decode cX12_clauseHere 181 = .ok (.invokevirtual 309, 3) := by decide +kernel
theorem dX12_clauseHere_184 : decode cX12_clauseHere 184 = .ok (.ireturn, 1) := by decide +kernel
theorem dX12_clauseHere_185 : decode cX12_clauseHere 185 = .ok (.aload_n 0, 1) := by decide +kernel
theorem dX12_clauseHere_186 : decode cX12_clauseHere 186 = .ok (.ldc2_w 292, 3) := by decide +kernel
theorem dX12_clauseHere_189 : decode cX12_clauseHere 189 = .ok (.invokevirtual 174, 3) := by decide +kernel
theorem dX12_clauseHere_192 : decode cX12_clauseHere 192 = .ok (.ifCond .eq 17, 3) := by decide +kernel
theorem dX12_clauseHere_195 : decode cX12_clauseHere 195 = .ok (.aload_n 0, 1) := by decide +kernel
theorem dX12_clauseHere_196 : decode cX12_clauseHere 196 = .ok (.aload_n 0, 1) := by decide +kernel
theorem dX12_clauseHere_197 : decode cX12_clauseHere 197 = .ok (.getfield 44, 3) := by decide +kernel
theorem dX12_clauseHere_200 : decode cX12_clauseHere 200 = .ok (.iconst 0, 1) := by decide +kernel
theorem dX12_clauseHere_201 : decode cX12_clauseHere 201 = .ok (.sipush 9999, 3) := by decide +kernel
theorem dX12_clauseHere_204 : decode cX12_clauseHere 204 = .ok (.iload_n 1, 1) := by decide +kernel
theorem dX12_clauseHere_205 : decode cX12_clauseHere 205 = .ok (.invokevirtual 284, 3) := by decide +kernel
theorem dX12_clauseHere_208 : decode cX12_clauseHere 208 = .ok (.ireturn, 1) := by decide +kernel
theorem dX12_clauseHere_209 : decode cX12_clauseHere 209 = .ok (.aload_n 0, 1) := by decide +kernel
theorem dX12_clauseHere_210 : decode cX12_clauseHere 210 = .ok (.ldc2_w 294, 3) := by decide +kernel
theorem dX12_clauseHere_213 : decode cX12_clauseHere 213 = .ok (.invokevirtual 174, 3) := by decide +kernel
theorem dX12_clauseHere_216 : decode cX12_clauseHere 216 = .ok (.ifCond .eq 8, 3) := by decide +kernel
theorem dX12_clauseHere_219 : decode cX12_clauseHere 219 = .ok (.aload_n 0, 1) := by decide +kernel
theorem dX12_clauseHere_220 : decode cX12_clauseHere 220 = .ok (.invokevirtual 312, 3) := by decide +kernel
theorem dX12_clauseHere_223 : decode cX12_clauseHere 223 = .ok (.ireturn, 1) := by decide +kernel
theorem dX12_clauseHere_224 : decode cX12_clauseHere 224 = .ok (.aload_n 0, 1) := by decide +kernel
theorem dX12_clauseHere_225 : decode cX12_clauseHere 225 = .ok (.ldc2_w 296, 3) := by decide +kernel
theorem dX12_clauseHere_228 : decode cX12_clauseHere 228 = .ok (.invokevirtual 174, 3) := by decide +kernel
theorem dX12_clauseHere_231 : decode cX12_clauseHere 231 = .ok (.ifCond .eq 16, 3) := by decide +kernel
theorem dX12_clauseHere_234 : decode cX12_clauseHere 234 = .ok (.aload_n 0, 1) := by decide +kernel
theorem dX12_clauseHere_235 : decode cX12_clauseHere 235 = .ok (.aload_n 0, 1) := by decide +kernel
theorem dX12_clauseHere_236 : decode cX12_clauseHere 236 = .ok (.getfield 47, 3) := by decide +kernel
theorem dX12_clauseHere_239 : decode cX12_clauseHere 239 = .ok (.iconst 0, 1) := by decide +kernel
theorem dX12_clauseHere_240 : decode cX12_clauseHere 240 = .ok (.bipush 40, 2) := by decide +kernel
theorem dX12_clauseHere_242 : decode cX12_clauseHere 242 = .ok (.iload_n 1, 1) := by decide +kernel
theorem dX12_clauseHere_243 : decode cX12_clauseHere 243 = .ok (.invokevirtual 284, 3) := by decide +kernel
theorem dX12_clauseHere_246 : decode cX12_clauseHere 246 = .ok (.ireturn, 1) := by decide +kernel
theorem dX12_clauseHere_247 : decode cX12_clauseHere 247 = .ok (.aload_n 0, 1) := by decide +kernel
theorem dX12_clauseHere_248 : decode cX12_clauseHere 248 = .ok (.ldc2_w 298, 3) := by decide +kernel
theorem dX12_clauseHere_251 : decode cX12_clauseHere 251 = .ok (.invokevirtual 174, 3) := by decide +kernel
theorem dX12_clauseHere_254 : decode cX12_clauseHere 254 = .ok (.ifCond .eq 9, 3) := by decide +kernel
theorem dX12_clauseHere_257 : decode cX12_clauseHere 257 = .ok (.aload_n 0, 1) := by decide +kernel
theorem dX12_clauseHere_258 : decode cX12_clauseHere 258 = .ok (.iload_n 1, 1) := by decide +kernel
theorem dX12_clauseHere_259 : decode cX12_clauseHere 259 = .ok (.invokevirtual 315, 3) := by decide +kernel
theorem dX12_clauseHere_262 : decode cX12_clauseHere 262 = .ok (.ireturn, 1) := by decide +kernel
theorem dX12_clauseHere_263 : decode cX12_clauseHere 263 = .ok (.aload_n 0, 1) := by decide +kernel
theorem dX12_clauseHere_264 : decode cX12_clauseHere 264 = .ok (.ldc2_w 300, 3) := by decide +kernel
theorem dX12_clauseHere_267 : decode cX12_clauseHere 267 = .ok (.invokevirtual 174, 3) := by decide +kernel
theorem dX12_clauseHere_270 : decode cX12_clauseHere 270 = .ok (.ifCond .eq 18, 3) := by decide +kernel
theorem dX12_clauseHere_273 : decode cX12_clauseHere 273 = .ok (.aload_n 0, 1) := by decide +kernel
theorem dX12_clauseHere_274 : decode cX12_clauseHere 274 = .ok (.aload_n 0, 1) := by decide +kernel
theorem dX12_clauseHere_275 : decode cX12_clauseHere 275 = .ok (.getfield 56, 3) := by decide +kernel
theorem dX12_clauseHere_278 : decode cX12_clauseHere 278 = .ok (.iconst 0, 1) := by decide +kernel
theorem dX12_clauseHere_279 : decode cX12_clauseHere 279 = .ok (.bipush 50, 2) := by decide +kernel
theorem dX12_clauseHere_281 : decode cX12_clauseHere 281 = .ok (.iload_n 1, 1) := by decide +kernel
theorem dX12_clauseHere_282 : decode cX12_clauseHere 282 = .ok (.invokevirtual 284, 3) := by decide +kernel
theorem dX12_clauseHere_285 : decode cX12_clauseHere 285 = .ok (.goto 22, 3) := by decide +kernel
theorem dX12_clauseHere_288 : decode cX12_clauseHere 288 = .ok (.aload_n 0, 1) := by decide +kernel
theorem dX12_clauseHere_289 : decode cX12_clauseHere 289 = .ok (.aload_n 0, 1) := by decide +kernel
theorem dX12_clauseHere_290 : decode cX12_clauseHere 290 = .ok (.ldc2_w 302, 3) := by decide +kernel
theorem dX12_clauseHere_293 : decode cX12_clauseHere 293 = .ok (.invokevirtual 174, 3) := by decide +kernel
theorem dX12_clauseHere_296 : decode cX12_clauseHere 296 = .ok (.ifCond .ne 7, 3) := by decide +kernel
theorem dX12_clauseHere_299 : decode cX12_clauseHere 299 = .ok (.iconst 1, 1) := by decide +kernel
theorem dX12_clauseHere_300 : decode cX12_clauseHere 300 = .ok (.goto 4, 3) := by decide +kernel
theorem dX12_clauseHere_303 : decode cX12_clauseHere 303 = .ok (.iconst 0, 1) := by decide +kernel
theorem dX12_clauseHere_304 : decode cX12_clauseHere 304 = .ok (.invokevirtual 318, 3) := by decide +kernel
theorem dX12_clauseHere_307 : decode cX12_clauseHere 307 = .ok (.ireturn, 1) := by decide +kernel
theorem wk_538 : Cond.fieldLink RX12 306 "ThinLineModel" "lines" "I" ∈ tl_L := List.mem_filter.mpr ⟨lw_m6 (i := 88) rfl, rfl⟩
theorem wk_552 : Cond.constantLong RX12 288 (495672979045) ∈ tl_L := List.mem_filter.mpr ⟨lw_m7 (i := 72) rfl, rfl⟩
theorem wk_553 : Cond.constantLong RX12 290 (125797183548517) ∈ tl_L := List.mem_filter.mpr ⟨lw_m7 (i := 81) rfl, rfl⟩
theorem wk_554 : Cond.constantLong RX12 292 (474315584357) ∈ tl_L := List.mem_filter.mpr ⟨lw_m7 (i := 82) rfl, rfl⟩
theorem wk_555 : Cond.constantLong RX12 294 (1700885619) ∈ tl_L := List.mem_filter.mpr ⟨lw_m7 (i := 83) rfl, rfl⟩
theorem wk_556 : Cond.constantLong RX12 296 (422608528499) ∈ tl_L := List.mem_filter.mpr ⟨lw_m7 (i := 84) rfl, rfl⟩
theorem wk_557 : Cond.constantLong RX12 298 (6775152) ∈ tl_L := List.mem_filter.mpr ⟨lw_m7 (i := 85) rfl, rfl⟩
theorem wk_558 : Cond.constantLong RX12 300 (2003395685) ∈ tl_L := List.mem_filter.mpr ⟨lw_m7 (i := 86) rfl, rfl⟩
theorem wk_559 : Cond.constantLong RX12 302 (1936419184) ∈ tl_L := List.mem_filter.mpr ⟨lw_m7 (i := 87) rfl, rfl⟩
theorem wk_560 : Cond.constantLong RX12 304 (444150998387) ∈ tl_L := List.mem_filter.mpr ⟨lw_m7 (i := 88) rfl, rfl⟩
theorem wk_581 : Cond.methodLink RX12 309 yX12_rippled ∈ tl_L := List.mem_filter.mpr ⟨lw_m7 (i := 93) rfl, rfl⟩
theorem wk_582 : Cond.instanceMethod yX12_rippled ∈ tl_L := List.mem_filter.mpr ⟨lw_m7 (i := 95) rfl, rfl⟩
theorem wk_583 : Cond.selects RX12 yX12_rippled yX12_rippled ∈ tl_L := List.mem_filter.mpr ⟨lw_s8 (i := 4) (q := (yX12_rippled, 49)) rfl, rfl⟩
theorem wk_584 : Cond.code yX12_rippled cX12_rippled 2 (some .boolean) ∈ tl_L := List.mem_filter.mpr ⟨lw_m7 (i := 96) rfl, rfl⟩
theorem wk_602 : Cond.methodLink RX12 312 yX12_eaten ∈ tl_L := List.mem_filter.mpr ⟨lw_m7 (i := 113) rfl, rfl⟩
theorem wk_603 : Cond.instanceMethod yX12_eaten ∈ tl_L := List.mem_filter.mpr ⟨lw_m7 (i := 115) rfl, rfl⟩
theorem wk_604 : Cond.selects RX12 yX12_eaten yX12_eaten ∈ tl_L := List.mem_filter.mpr ⟨lw_s8 (i := 9) (q := (yX12_eaten, 49)) rfl, rfl⟩
theorem wk_605 : Cond.code yX12_eaten cX12_eaten 2 (some .boolean) ∈ tl_L := List.mem_filter.mpr ⟨lw_m7 (i := 116) rfl, rfl⟩
theorem wk_606 : Cond.methodLink RX12 315 yX12_gapped ∈ tl_L := List.mem_filter.mpr ⟨lw_m7 (i := 117) rfl, rfl⟩
theorem wk_607 : Cond.instanceMethod yX12_gapped ∈ tl_L := List.mem_filter.mpr ⟨lw_m7 (i := 119) rfl, rfl⟩
theorem wk_608 : Cond.selects RX12 yX12_gapped yX12_gapped ∈ tl_L := List.mem_filter.mpr ⟨lw_s8 (i := 10) (q := (yX12_gapped, 49)) rfl, rfl⟩
theorem wk_609 : Cond.code yX12_gapped cX12_gapped 2 (some .boolean) ∈ tl_L := List.mem_filter.mpr ⟨lw_m7 (i := 120) rfl, rfl⟩
theorem wk_610 : Cond.methodLink RX12 318 yX12_clauseOf ∈ tl_L := List.mem_filter.mpr ⟨lw_m7 (i := 121) rfl, rfl⟩
theorem wk_611 : Cond.instanceMethod yX12_clauseOf ∈ tl_L := List.mem_filter.mpr ⟨lw_m7 (i := 123) rfl, rfl⟩
theorem wk_612 : Cond.selects RX12 yX12_clauseOf yX12_clauseOf ∈ tl_L := List.mem_filter.mpr ⟨lw_s8 (i := 11) (q := (yX12_clauseOf, 49)) rfl, rfl⟩
theorem wk_613 : Cond.code yX12_clauseOf cX12_clauseOf 3 (some .boolean) ∈ tl_L := List.mem_filter.mpr ⟨lw_m7 (i := 124) rfl, rfl⟩
theorem lk_X12_309 : tl_kV RX12 309 RX12 yX12_rippled cX12_rippled 2 (some .boolean) 1 := ⟨wk_584, wk_581, wk_582, wk_583, wk_5, ⟨by decide +kernel, by decide +kernel, by decide +kernel⟩⟩
theorem lk_X12_312 : tl_kV RX12 312 RX12 yX12_eaten cX12_eaten 2 (some .boolean) 0 := ⟨wk_605, wk_602, wk_603, wk_604, wk_5, ⟨by decide +kernel, by decide +kernel, by decide +kernel⟩⟩
theorem lk_X12_315 : tl_kV RX12 315 RX12 yX12_gapped cX12_gapped 2 (some .boolean) 1 := ⟨wk_609, wk_606, wk_607, wk_608, wk_5, ⟨by decide +kernel, by decide +kernel, by decide +kernel⟩⟩
theorem lk_X12_318 : tl_kV RX12 318 RX12 yX12_clauseOf cX12_clauseOf 3 (some .boolean) 1 := ⟨wk_613, wk_610, wk_611, wk_612, wk_5, ⟨by decide +kernel, by decide +kernel, by decide +kernel⟩⟩
set_option maxHeartbeats 4000000 in
set_option maxRecDepth 100000 in
theorem r_X12_clauseHere (l : Launch) (D : va_G) (cy : Nat → ClassId) (sz : Nat) (L : List Nat) (K : Nat → tk_K) (Γ : tk_G) (f : Nat → va_E) (o : Nat) (τ : Nat → Int) (T0 : Int) (t0 : Int) (ho : tp_r L K 39 (0) 0 o) (ht : Γ (41, 400, 0) = τ) (hT : Γ (39, 0, 0) 0 = T0) (hb0 : 0 ≤ Γ (39, 0, 0) 1 ∧ Γ (39, 0, 0) 1 ≤ T0 ∧ T0 ≤ 400) (h4 : Γ (39, 0, 0) 4 = t0 ∧ 0 ≤ t0 ∧ t0 ≤ 21) (hrb : rb Γ t0) (hrq : rq Γ t0) : Met l yX12_clauseHere (tl_w yX12_clauseHere cX12_clauseHere 4 (some .boolean)) ({ frames := 10, cells := 0, slots := 0, locals := 220 }) (va_Pc [.ref o] (tp_P D cy L K Γ f sz)) (va_Qi (fun (r : Int32) (u : (Nat → va_E) × tk_G) => tl_J r (rq u.2 t0) ∧ u.2 (39, 0, 0) 0 = Γ (39, 0, 0) 0 ∧ u.2 (39, 0, 0) 4 = Γ (39, 0, 0) 4 ∧ Γ (39, 0, 0) 1 ≤ u.2 (39, 0, 0) 1 ∧ u.2 (39, 0, 0) 1 ≤ T0 ∧ rg Γ u.2 t0 ∧ rb u.2 t0) (tp_BG D cy L K Γ f [39, 43, 44, 52, 45, 46, 53, 47, 54, 55, 56, 48, 49, 50, 51]) (tp_A L sz)) 0 0 (tp_A L sz) := by
  refine Met.ofW (cc := cX12_clauseHere) (maxL := 4) (ret := (some .boolean)) (by decide) rfl ?_
  intro p e s m args below meth c s₁ B hml hv
  obtain ⟨rfl, hsz, hP, hK, hL, hI, hN, hU⟩ := hv
  have hx := B.exec
  have hb := B.bytes
  have hr := B.returns
  have hta := tl_hta (atoms_spec (ws := tl_w yX12_clauseHere cX12_clauseHere 4 (some .boolean)) B.pre)
  have hown : s.vm.findClass RX12 = some m.cls := findClass_of_methodNamed B.named
  have hlocks := B.notSynchronized
  subst hsz
  have hI0 := hI
  generalize hAe : tp_A L s.heap.size = A
  have hA : ∀ q : Nat, s.heap.size ≤ q → A q := fun q h => by rw [← hAe]; exact Or.inr h
  have hAL : ∀ q ∈ L, A q := fun q h => by rw [← hAe]; exact Or.inl h
  have hAf : ∀ (H : Heap), s.heap.size ≤ H.size → ∀ q, tp_A L H.size q → A q := fun H h q hq => hq.elim (hAL q) (fun h2 => hA q (Nat.le_trans h h2))
  have hS : va_S A s.heap s.heap [] := va_S.rf
  have hD : va_D A (va_pl L f) := tp_D hL hAL
  have hfr : ∀ b, (K b).1 ∉ ([39, 43, 44, 52, 45, 46, 53, 47, 54, 55, 56, 48, 49, 50, 51] : List Nat) → f b = f b := fun _ _ => rfl
  have hgr : ∀ κ : tk_K, κ.1 ∉ ([39, 43, 44, 52, 45, 46, 53, 47, 54, 55, 56, 48, 49, 50, 51] : List Nat) → Γ κ = Γ κ := fun _ _ => rfl
  have hl := lv_entry ([.ref o]) (n := 4) (Nat.le_of_ble_eq_true rfl)
  rw [lg_entry_eq]
  generalize (lg_sl ([.ref o]) ++ List.replicate (4 - (lg_sl ([.ref o])).length) Slot.unset).toArray = ls at hl ⊢
  have hl : lv_has ls 4 [(0, .ref o)] := hl
  have q0 : Γ (39, 0, 0) 0 = Γ (39, 0, 0) 0 := rfl
  have q3 : Γ (39, 0, 0) 3 = Γ (39, 0, 0) 3 := rfl
  have q4 : Γ (39, 0, 0) 4 = Γ (39, 0, 0) 4 := rfl
  have q5 : Γ (39, 0, 0) 5 = Γ (39, 0, 0) 5 := rfl
  have q6 : Γ (39, 0, 0) 6 = Γ (39, 0, 0) 6 := rfl
  have q7 : Γ (39, 0, 0) 7 = Γ (39, 0, 0) 7 := rfl
  have q8 : Γ (39, 0, 0) 8 = Γ (39, 0, 0) 8 := rfl
  have hx9 : Γ (39, 0, 0) 1 ≤ Γ (39, 0, 0) 1 ∧ Γ (39, 0, 0) 1 ≤ T0 := ⟨Int.le_refl _, hb0.2.1⟩
  have hgM : ∀ κ : tk_K, κ.1 ∉ ([39] : List Nat) → Γ κ = Γ κ := fun _ _ => rfl
  obtain ⟨r1, r2, r3, r4, -, -⟩ := id hrq
  obtain ⟨b1, -, -, b4, b5, b6, b7⟩ := id hrb
  refine lv_aload_n hx hb dX12_clauseHere_0 rfl (lv_at hl 0 rfl) ?_
  obtain ⟨r_2, v_3, q_4, hf_1, hr_5, hv_6⟩ := (show tp_o_M L K 0 0 (Γ (39, 0, 0)) (f o) from hI.at ho)
  refine tq_ciR hS (hAf _ hS.1) (tq_rV (As := []) (rest := []) ⟨hx, hb, hml, hown, hta⟩ (tp_P.pre hK hN hL hU hI hP) (tp_recv hK hP ho.1 hf_1 rfl) lk_X12_167 (r_X12_see l D cy s.heap.size L K Γ f o τ T0 ho ht (by first | omega | (simp only [Int32.toInt_toInt64]; omega) | decide | assumption) (by first | omega | (simp only [Int32.toInt_toInt64]; omega) | decide | assumption)) rfl rfl ⟨Nat.le_of_ble_eq_true rfl, Nat.le_of_ble_eq_true rfl⟩ rfl hl.1 rfl (Nat.le_of_ble_eq_true rfl) dX12_clauseHere_1 ⟨Nat.le_of_ble_eq_true rfl, Nat.le_of_ble_eq_true rfl⟩) (fun r_11 f_12 Γ_14 H locs hw_10 hP hI hc_13 hcg_15 hS => ?_)
  have hD : va_D A (va_pl L f_12) := tp_D hL hAL
  have hfr := tp_fr2 hfr hc_13 (by decide)
  have hgr : ∀ κ : tk_K, κ.1 ∉ ([39, 43, 44, 52, 45, 46, 53, 47, 54, 55, 56, 48, 49, 50, 51] : List Nat) → Γ_14 κ = Γ κ := tg_fr2 hgr hcg_15 (by decide)
  have hw_10 : Γ_14 (39, 0, 0) 0 = Γ (39, 0, 0) 0 ∧ Γ_14 (39, 0, 0) 3 = Γ (39, 0, 0) 3 ∧ Γ_14 (39, 0, 0) 4 = Γ (39, 0, 0) 4 ∧ Γ_14 (39, 0, 0) 5 = Γ (39, 0, 0) 5 ∧ Γ_14 (39, 0, 0) 6 = Γ (39, 0, 0) 6 ∧ Γ_14 (39, 0, 0) 7 = Γ (39, 0, 0) 7 ∧ Γ_14 (39, 0, 0) 8 = Γ (39, 0, 0) 8 ∧ Γ (39, 0, 0) 1 ≤ Γ_14 (39, 0, 0) 1 ∧ Γ_14 (39, 0, 0) 1 ≤ T0 ∧ (¬ τ (Γ (39, 0, 0) 1).toNat = 32 → Γ_14 (39, 0, 0) 1 = Γ (39, 0, 0) 1) ∧ ((r_11.toInt = -1 ∧ Γ_14 (39, 0, 0) 1 = T0) ∨ (0 ≤ r_11.toInt ∧ r_11.toInt ≤ 255 ∧ Γ_14 (39, 0, 0) 1 < T0 ∧ ¬ τ (Γ_14 (39, 0, 0) 1).toNat = 32)) := hw_10
  obtain ⟨s0, s1, s2, s3, s4, s5, s6, s7, s8, -, -⟩ := hw_10
  replace q0 : Γ_14 (39, 0, 0) 0 = Γ (39, 0, 0) 0 := s0.trans q0
  replace q3 : Γ_14 (39, 0, 0) 3 = Γ (39, 0, 0) 3 := s1.trans q3
  replace q4 : Γ_14 (39, 0, 0) 4 = Γ (39, 0, 0) 4 := s2.trans q4
  replace q5 : Γ_14 (39, 0, 0) 5 = Γ (39, 0, 0) 5 := s3.trans q5
  replace q6 : Γ_14 (39, 0, 0) 6 = Γ (39, 0, 0) 6 := s4.trans q6
  replace q7 : Γ_14 (39, 0, 0) 7 = Γ (39, 0, 0) 7 := s5.trans q7
  replace q8 : Γ_14 (39, 0, 0) 8 = Γ (39, 0, 0) 8 := s6.trans q8
  replace hx9 : Γ (39, 0, 0) 1 ≤ Γ_14 (39, 0, 0) 1 ∧ Γ_14 (39, 0, 0) 1 ≤ T0 := ⟨Int.le_trans hx9.1 s7, s8⟩
  clear s0 s1 s2 s3 s4 s5 s6 s7 s8
  have hgM : ∀ κ : tk_K, κ.1 ∉ ([39] : List Nat) → Γ_14 κ = Γ κ := tg_fr2 hgM hcg_15 (by decide)
  refine lv_pop hx hb dX12_clauseHere_4 rfl ?_
  refine lv_aload_n hx hb dX12_clauseHere_5 rfl (lv_at hl 0 rfl) ?_
  obtain ⟨r_17, v_18, q_19, hf_16, hr_20, hv_21⟩ := (show tp_o_M L K 0 0 (Γ_14 (39, 0, 0)) (f_12 o) from hI.at ho)
  have hx_22 : (v_18 1).toInt = Γ_14 (39, 0, 0) 1 := hv_21 1 (by decide)
  have hx_23 : (v_18 4).toInt = Γ_14 (39, 0, 0) 4 := hv_21 4 (by decide)
  refine tp_get (cy := cy) (ci := 12) (v := .int (v_18 1)) (C := RX12) (T := TX12) (N := 49) hx hb hta inlX12 hown hK hP ho.1 hf_16 rfl 17 (by decide) (hta _ wk_539) (fun _ h9 => h9) rfl dX12_clauseHere_6 ?_
  refine lv_istore_n (lv' := [(1, .int (v_18 1)), (0, .ref o)]) hx hb dX12_clauseHere_9 rfl hl (by decide) rfl (fun ls hl => ?_)
  have hjn132 : ∀ (f_25 : Nat → va_E) (Γ_26 : tk_G) (u3 : Int32) (H : Heap) (locs : List Loc) (ls : Array Slot), (Γ_26 (39, 0, 0) 0 = Γ (39, 0, 0) 0) → (Γ_26 (39, 0, 0) 3 = Γ (39, 0, 0) 3) → (Γ_26 (39, 0, 0) 4 = Γ (39, 0, 0) 4) → (Γ_26 (39, 0, 0) 5 = Γ (39, 0, 0) 5) → (Γ_26 (39, 0, 0) 6 = Γ (39, 0, 0) 6) → (Γ_26 (39, 0, 0) 7 = Γ (39, 0, 0) 7) → (Γ_26 (39, 0, 0) 8 = Γ (39, 0, 0) 8) → (Γ (39, 0, 0) 1 ≤ Γ_26 (39, 0, 0) 1 ∧ Γ_26 (39, 0, 0) 1 ≤ T0) → (∀ κ : tk_K, κ.1 ∉ ([39] : List Nat) → Γ_26 κ = Γ κ) → (u3.toInt = 0 ∨ u3.toInt = 1) → (u3.toInt = 1 → tr_H τ T0 (Γ_26 (39, 0, 0) 1) t0) → va_P D vwCl (va_pl L f_25) H → tp_I cy L K Γ_26 f_25 → (∀ b, (K b).1 ∉ ([39, 43, 44, 52, 45, 46, 53, 47, 54, 55, 56, 48, 49, 50, 51] : List Nat) → f_25 b = f b) → (∀ κ : tk_K, κ.1 ∉ ([39, 43, 44, 52, 45, 46, 53, 47, 54, 55, 56, 48, 49, 50, 51] : List Nat) → Γ_26 κ = Γ κ) → va_S A s.heap H locs → lv_has ls 4 [(3, .int u3), (1, .int (v_18 1)), (0, .ref o)] → W p l e ((headSpec (tl_w yX12_clauseHere cX12_clauseHere 4 (some .boolean)) ({ frames := 10, cells := 0, slots := 0, locals := 220 })).room) s m #[.ref o] below meth c H locs 0 0 (MQ below (va_Qi (fun (r : Int32) (u : (Nat → va_E) × tk_G) => tl_J r (rq u.2 t0) ∧ u.2 (39, 0, 0) 0 = Γ (39, 0, 0) 0 ∧ u.2 (39, 0, 0) 4 = Γ (39, 0, 0) 4 ∧ Γ (39, 0, 0) 1 ≤ u.2 (39, 0, 0) 1 ∧ u.2 (39, 0, 0) 1 ≤ T0 ∧ rg Γ u.2 t0 ∧ rb u.2 t0) (tp_BG D cy L K Γ f [39, 43, 44, 52, 45, 46, 53, 47, 54, 55, 56, 48, 49, 50, 51]) A) #[.ref o] s 0 0 A) (F0 m 132 ls []) := by
    intro f_25 Γ_26 u3 H locs ls q0 q3 q4 q5 q6 q7 q8 hx9 hgM hu3 hH hP hI hfr hgr hS hl
    have hD : va_D A (va_pl L f_25) := tp_D hL hAL
    refine lv_iload_n hx hb dX12_clauseHere_132 rfl (lv_at hl 0 rfl) ?_
    refine lv_if_ne (tgt := 143) hx hb dX12_clauseHere_133 (by decide) (fun c_27 => ?_) (fun c_27 => ?_)
    · have c_27 : ¬ u3.toInt = (0 : Int) := tl_neq c_27
      replace hH := hH (by omega)
      refine lv_aload_n hx hb dX12_clauseHere_143 rfl (lv_at hl 2 rfl) ?_
      obtain ⟨r_29, v_30, q_31, hf_28, hr_32, hv_33⟩ := (show tp_o_M L K 0 0 (Γ_26 (39, 0, 0)) (f_25 o) from hI.at ho)
      have hx_34 : (v_30 1).toInt = Γ_26 (39, 0, 0) 1 := hv_33 1 (by decide)
      have hx_35 : (v_30 4).toInt = Γ_26 (39, 0, 0) 4 := hv_33 4 (by decide)
      have hx_36 : (v_30 7).toInt = Γ_26 (39, 0, 0) 7 := hv_33 7 (by decide)
      refine tp_get (cy := cy) (ci := 12) (v := .int (v_30 7)) (C := RX12) (T := TX12) (N := 49) hx hb hta inlX12 hown hK hP ho.1 hf_28 rfl 23 (by decide) (hta _ wk_538) (fun _ h9 => h9) rfl dX12_clauseHere_144 ?_
      refine lv_bipush (v := 12) hx hb dX12_clauseHere_147 (by decide) ?_
      refine lv_icmp_ne (tgt := 159) hx hb dX12_clauseHere_149 (by decide) (fun c_37 => ?_) (fun c_37 => ?_)
      · have c_37 : ¬ (v_30 7).toInt = (12 : Int) := tl_neq c_37
        have hm7 : Γ (39, 0, 0) 7 ≤ 11 := by omega
        refine lv_aload_n hx hb dX12_clauseHere_159 rfl (lv_at hl 2 rfl) ?_
        refine lv_dup hx hb dX12_clauseHere_160 rfl ?_
        refine tp_get (cy := cy) (ci := 12) (v := .int (v_30 7)) (C := RX12) (T := TX12) (N := 49) hx hb hta inlX12 hown hK hP ho.1 hf_28 rfl 23 (by decide) (hta _ wk_538) (fun _ h9 => h9) rfl dX12_clauseHere_161 ?_
        refine lv_iconst (v := 1) hx hb dX12_clauseHere_164 (by decide) ?_
        refine lv_iadd hx hb dX12_clauseHere_165 ?_
        refine lv_topi (fun z_38 ez_38 => ?_)
        try have iz_38 : z_38.toInt = (v_30 7).toInt + (1 : Int) := by rw [ez_38]; exact tl_addN (v_30 7) 1 rfl rfl (by omega) (by omega)
        obtain ⟨Γ_39, eΓ_39⟩ : ∃ y : tk_G, y = tg Γ_26 (39, 0, 0) 7 z_38.toInt := ⟨_, rfl⟩
        have hv_40 : ∀ i : Nat, i < 16 → ((upd v_30 7 z_38) i).toInt = Γ_39 (39, 0, 0) i := by rw [eΓ_39, tg_f]; exact tp_gi_upd hv_33
        have hI9 : tp_I cy L K Γ_39 (va_up f_25 o (.inr (12, [.ref (r_29 0), .ref (r_29 1), .int (v_30 0), .ref (r_29 2), .ref (r_29 3), .ref (r_29 4), .ref (r_29 5), .ref (r_29 6), .ref (r_29 7), .ref (r_29 8), .ref (r_29 9), .ref (r_29 10), .ref (r_29 11), .ref (r_29 12), .ref (r_29 13), .ref (r_29 14), .ref (r_29 15), .int (v_30 1), .int (v_30 2), .int (v_30 3), .int (v_30 4), .int (v_30 5), .int (v_30 6), .int z_38, .ref (r_29 16), .int (v_30 8), .ref (r_29 17), .int (v_30 9), .ref (r_29 18), .long q_31, .ref (r_29 19), .ref (r_29 20), .int (v_30 10), .int (v_30 11), .int (v_30 12), .ref (r_29 21), .ref (r_29 22), .int (v_30 13), .ref (r_29 23), .int (v_30 14), .int (v_30 15), .ref (r_29 24), .ref (r_29 25), .ref (r_29 26), .ref (r_29 27), .ref (r_29 28), .ref (r_29 29), .ref (r_29 30), .ref (r_29 31)]))) := by have q9 := hv_40; rw [eΓ_39, tg_f] at q9; rw [eΓ_39]; exact hI.setg hU rfl ho (show tp_o_M L K 0 0 (tgu (Γ_26 (39, 0, 0)) 7 z_38.toInt) _ from ⟨r_29, (upd v_30 7 z_38), q_31, rfl, hr_32, q9⟩)
        have hfr9 : ∀ b, (K b).1 ∉ ([39, 43, 44, 52, 45, 46, 53, 47, 54, 55, 56, 48, 49, 50, 51] : List Nat) → va_up f_25 o (.inr (12, [.ref (r_29 0), .ref (r_29 1), .int (v_30 0), .ref (r_29 2), .ref (r_29 3), .ref (r_29 4), .ref (r_29 5), .ref (r_29 6), .ref (r_29 7), .ref (r_29 8), .ref (r_29 9), .ref (r_29 10), .ref (r_29 11), .ref (r_29 12), .ref (r_29 13), .ref (r_29 14), .ref (r_29 15), .int (v_30 1), .int (v_30 2), .int (v_30 3), .int (v_30 4), .int (v_30 5), .int (v_30 6), .int z_38, .ref (r_29 16), .int (v_30 8), .ref (r_29 17), .int (v_30 9), .ref (r_29 18), .long q_31, .ref (r_29 19), .ref (r_29 20), .int (v_30 10), .int (v_30 11), .int (v_30 12), .ref (r_29 21), .ref (r_29 22), .int (v_30 13), .ref (r_29 23), .int (v_30 14), .int (v_30 15), .ref (r_29 24), .ref (r_29 25), .ref (r_29 26), .ref (r_29 27), .ref (r_29 28), .ref (r_29 29), .ref (r_29 30), .ref (r_29 31)])) b = f b := tp_fr hfr ho (by decide)
        refine tp_put (cy := cy) (ci := 12) (v := .int z_38) (ty := tyX12 23) (C := RX12) (T := TX12) (N := 49) hx hb hta inlX12 tyX12 tyX12_ok nmX12 hown hK hP hD hS ho.1 hf_28 rfl 23 (by decide) (hta _ wk_538) (fun _ h9 => h9) rfl (tyX12_ok 23 (by decide)) rfl rfl (Nat.le_of_ble_eq_true rfl) dX12_clauseHere_166 (fun H locs hP hD hS => ?_)
        have hP : va_P D vwCl (va_pl L (va_up f_25 o (.inr (12, [.ref (r_29 0), .ref (r_29 1), .int (v_30 0), .ref (r_29 2), .ref (r_29 3), .ref (r_29 4), .ref (r_29 5), .ref (r_29 6), .ref (r_29 7), .ref (r_29 8), .ref (r_29 9), .ref (r_29 10), .ref (r_29 11), .ref (r_29 12), .ref (r_29 13), .ref (r_29 14), .ref (r_29 15), .int (v_30 1), .int (v_30 2), .int (v_30 3), .int (v_30 4), .int (v_30 5), .int (v_30 6), .int z_38, .ref (r_29 16), .int (v_30 8), .ref (r_29 17), .int (v_30 9), .ref (r_29 18), .long q_31, .ref (r_29 19), .ref (r_29 20), .int (v_30 10), .int (v_30 11), .int (v_30 12), .ref (r_29 21), .ref (r_29 22), .int (v_30 13), .ref (r_29 23), .int (v_30 14), .int (v_30 15), .ref (r_29 24), .ref (r_29 25), .ref (r_29 26), .ref (r_29 27), .ref (r_29 28), .ref (r_29 29), .ref (r_29 30), .ref (r_29 31)])))) H := hP
        generalize hfe : va_up f_25 o (.inr (12, [.ref (r_29 0), .ref (r_29 1), .int (v_30 0), .ref (r_29 2), .ref (r_29 3), .ref (r_29 4), .ref (r_29 5), .ref (r_29 6), .ref (r_29 7), .ref (r_29 8), .ref (r_29 9), .ref (r_29 10), .ref (r_29 11), .ref (r_29 12), .ref (r_29 13), .ref (r_29 14), .ref (r_29 15), .int (v_30 1), .int (v_30 2), .int (v_30 3), .int (v_30 4), .int (v_30 5), .int (v_30 6), .int z_38, .ref (r_29 16), .int (v_30 8), .ref (r_29 17), .int (v_30 9), .ref (r_29 18), .long q_31, .ref (r_29 19), .ref (r_29 20), .int (v_30 10), .int (v_30 11), .int (v_30 12), .ref (r_29 21), .ref (r_29 22), .int (v_30 13), .ref (r_29 23), .int (v_30 14), .int (v_30 15), .ref (r_29 24), .ref (r_29 25), .ref (r_29 26), .ref (r_29 27), .ref (r_29 28), .ref (r_29 29), .ref (r_29 30), .ref (r_29 31)])) = f_41 at hP hI9 hfr9
        have hD : va_D A (va_pl L f_41) := tp_D hL hAL
        have hf_42 : f_41 o = .inr (12, [.ref (r_29 0), .ref (r_29 1), .int (v_30 0), .ref (r_29 2), .ref (r_29 3), .ref (r_29 4), .ref (r_29 5), .ref (r_29 6), .ref (r_29 7), .ref (r_29 8), .ref (r_29 9), .ref (r_29 10), .ref (r_29 11), .ref (r_29 12), .ref (r_29 13), .ref (r_29 14), .ref (r_29 15), .int (v_30 1), .int (v_30 2), .int (v_30 3), .int (v_30 4), .int (v_30 5), .int (v_30 6), .int z_38, .ref (r_29 16), .int (v_30 8), .ref (r_29 17), .int (v_30 9), .ref (r_29 18), .long q_31, .ref (r_29 19), .ref (r_29 20), .int (v_30 10), .int (v_30 11), .int (v_30 12), .ref (r_29 21), .ref (r_29 22), .int (v_30 13), .ref (r_29 23), .int (v_30 14), .int (v_30 15), .ref (r_29 24), .ref (r_29 25), .ref (r_29 26), .ref (r_29 27), .ref (r_29 28), .ref (r_29 29), .ref (r_29 30), .ref (r_29 31)]) := by rw [← hfe]; exact va_up_self _ _ _
        clear hfe
        have hI := hI9
        have hfr := hfr9
        clear hI9 hfr9
        have hgr : ∀ κ : tk_K, κ.1 ∉ ([39, 43, 44, 52, 45, 46, 53, 47, 54, 55, 56, 48, 49, 50, 51] : List Nat) → Γ_39 κ = Γ κ := tg_fr hgr eΓ_39 (by decide)
        have hx_43 : (v_30 1).toInt = Γ_39 (39, 0, 0) 1 := hv_40 1 (by decide)
        have hx_44 : (v_30 4).toInt = Γ_39 (39, 0, 0) 4 := hv_40 4 (by decide)
        have hx_45 : z_38.toInt = Γ_39 (39, 0, 0) 7 := hv_40 7 (by decide)
        have hgM : ∀ κ : tk_K, κ.1 ∉ ([39] : List Nat) → Γ_39 κ = Γ κ := tg_fr hgM eΓ_39 (by decide)
        replace q0 : Γ_39 (39, 0, 0) 0 = Γ (39, 0, 0) 0 := (show Γ_39 (39, 0, 0) 0 = _ from by rw [eΓ_39, tg_i (by decide)]).trans q0
        replace q3 : Γ_39 (39, 0, 0) 3 = Γ (39, 0, 0) 3 := (show Γ_39 (39, 0, 0) 3 = _ from by rw [eΓ_39, tg_i (by decide)]).trans q3
        replace q4 : Γ_39 (39, 0, 0) 4 = Γ (39, 0, 0) 4 := (show Γ_39 (39, 0, 0) 4 = _ from by rw [eΓ_39, tg_i (by decide)]).trans q4
        replace q5 : Γ_39 (39, 0, 0) 5 = Γ (39, 0, 0) 5 := (show Γ_39 (39, 0, 0) 5 = _ from by rw [eΓ_39, tg_i (by decide)]).trans q5
        replace q6 : Γ_39 (39, 0, 0) 6 = Γ (39, 0, 0) 6 := (show Γ_39 (39, 0, 0) 6 = _ from by rw [eΓ_39, tg_i (by decide)]).trans q6
        replace q8 : Γ_39 (39, 0, 0) 8 = Γ (39, 0, 0) 8 := (show Γ_39 (39, 0, 0) 8 = _ from by rw [eΓ_39, tg_i (by decide)]).trans q8
        replace hx9 : Γ (39, 0, 0) 1 ≤ Γ_39 (39, 0, 0) 1 ∧ Γ_39 (39, 0, 0) 1 ≤ T0 := by rw [eΓ_39, tg_i (by decide)]; exact hx9
        replace hH : tr_H τ T0 (Γ_39 (39, 0, 0) 1) t0 := by rw [eΓ_39, tg_i (by decide)]; exact hH
        replace q7 : Γ_39 (39, 0, 0) 7 = Γ (39, 0, 0) 7 + 1 := by rw [eΓ_39, tg_s]; omega
        refine lv_aload_n hx hb dX12_clauseHere_169 rfl (lv_at hl 2 rfl) ?_
        refine lv_ldc2 (v := 125797183548517) hx hb hown (hta _ wk_553) dX12_clauseHere_170 ?_
        refine tq_ciR hS (hAf _ hS.1) (tq_rV (As := [.long 125797183548517]) (rest := []) ⟨hx, hb, hml, hown, hta⟩ (tp_P.pre hK hN hL hU hI hP) (tp_recv hK hP ho.1 hf_42 rfl) lk_X12_174 (r_X12_isWord l D cy H.size L K Γ_39 f_41 o 125797183548517 τ T0 ho ((hgr _ (by decide)).trans ht) (by first | omega | (simp only [Int32.toInt_toInt64]; omega) | decide | assumption) (by first | omega | (simp only [Int32.toInt_toInt64]; omega) | decide | assumption)) rfl rfl ⟨Nat.le_of_ble_eq_true rfl, Nat.le_of_ble_eq_true rfl⟩ rfl hl.1 rfl (Nat.le_of_ble_eq_true rfl) dX12_clauseHere_173 ⟨Nat.le_of_ble_eq_true rfl, Nat.le_of_ble_eq_true rfl⟩) (fun r_47 f_48 Γ_50 H locs hw_46 hP hI hc_49 hcg_51 hS => ?_)
        have hD : va_D A (va_pl L f_48) := tp_D hL hAL
        have hfr := tp_fr2 hfr hc_49 (by decide)
        have hgr : ∀ κ : tk_K, κ.1 ∉ ([39, 43, 44, 52, 45, 46, 53, 47, 54, 55, 56, 48, 49, 50, 51] : List Nat) → Γ_50 κ = Γ κ := tg_fr2 hgr hcg_51 (by decide)
        obtain ⟨hE_52, hw_46⟩ := hw_46
        have hE_52 : tl_E r_47 (tr_W τ T0 (Γ_50 (39, 0, 0) 1) 125797183548517) 1 0 := hE_52
        have hw_46 : Γ_50 (39, 0, 0) 0 = Γ_39 (39, 0, 0) 0 ∧ Γ_50 (39, 0, 0) 3 = Γ_39 (39, 0, 0) 3 ∧ Γ_50 (39, 0, 0) 4 = Γ_39 (39, 0, 0) 4 ∧ Γ_50 (39, 0, 0) 5 = Γ_39 (39, 0, 0) 5 ∧ Γ_50 (39, 0, 0) 6 = Γ_39 (39, 0, 0) 6 ∧ Γ_50 (39, 0, 0) 7 = Γ_39 (39, 0, 0) 7 ∧ Γ_50 (39, 0, 0) 8 = Γ_39 (39, 0, 0) 8 ∧ Γ_39 (39, 0, 0) 1 ≤ Γ_50 (39, 0, 0) 1 ∧ Γ_50 (39, 0, 0) 1 ≤ T0 ∧ (¬ τ (Γ_39 (39, 0, 0) 1).toNat = 32 → Γ_50 (39, 0, 0) 1 = Γ_39 (39, 0, 0) 1) := hw_46
        have hgM : ∀ κ : tk_K, κ.1 ∉ ([39] : List Nat) → Γ_50 κ = Γ κ := tg_fr2 hgM hcg_51 (by decide)
        obtain ⟨w0_hw_46, w1_hw_46, w2_hw_46, w3_hw_46, w4_hw_46, w5_hw_46, w6_hw_46, w7_hw_46, w8_hw_46, hni⟩ := hw_46
        have hnx : Γ_50 (39, 0, 0) 1 = Γ_39 (39, 0, 0) 1 := hni (by have q9 := hH.L.2; omega)
        clear hni
        replace hH : tr_H τ T0 (Γ_50 (39, 0, 0) 1) t0 := by rw [hnx]; exact hH
        clear hnx
        replace q0 : Γ_50 (39, 0, 0) 0 = Γ (39, 0, 0) 0 := w0_hw_46.trans q0
        replace q3 : Γ_50 (39, 0, 0) 3 = Γ (39, 0, 0) 3 := w1_hw_46.trans q3
        replace q4 : Γ_50 (39, 0, 0) 4 = Γ (39, 0, 0) 4 := w2_hw_46.trans q4
        replace q5 : Γ_50 (39, 0, 0) 5 = Γ (39, 0, 0) 5 := w3_hw_46.trans q5
        replace q6 : Γ_50 (39, 0, 0) 6 = Γ (39, 0, 0) 6 := w4_hw_46.trans q6
        replace q7 : Γ_50 (39, 0, 0) 7 = Γ (39, 0, 0) 7 + 1 := w5_hw_46.trans q7
        replace q8 : Γ_50 (39, 0, 0) 8 = Γ (39, 0, 0) 8 := w6_hw_46.trans q8
        replace hx9 : Γ (39, 0, 0) 1 ≤ Γ_50 (39, 0, 0) 1 ∧ Γ_50 (39, 0, 0) 1 ≤ T0 := ⟨Int.le_trans hx9.1 w7_hw_46, w8_hw_46⟩
        clear w0_hw_46 w1_hw_46 w2_hw_46 w3_hw_46 w4_hw_46 w5_hw_46 w6_hw_46 w7_hw_46 w8_hw_46
        refine lv_if_eq (tgt := 185) hx hb dX12_clauseHere_176 (by decide) (fun c_53 => ?_) (fun c_53 => ?_)
        · have c_53 := hE_52.f c_53
          refine lv_aload_n hx hb dX12_clauseHere_185 rfl (lv_at hl 2 rfl) ?_
          refine lv_ldc2 (v := 474315584357) hx hb hown (hta _ wk_554) dX12_clauseHere_186 ?_
          obtain ⟨r_55, v_56, q_57, hf_54, hr_58, hv_59⟩ := (show tp_o_M L K 0 0 (Γ_50 (39, 0, 0)) (f_48 o) from hI.at ho)
          refine tq_ciR hS (hAf _ hS.1) (tq_rV (As := [.long 474315584357]) (rest := []) ⟨hx, hb, hml, hown, hta⟩ (tp_P.pre hK hN hL hU hI hP) (tp_recv hK hP ho.1 hf_54 rfl) lk_X12_174 (r_X12_isWord l D cy H.size L K Γ_50 f_48 o 474315584357 τ T0 ho ((hgr _ (by decide)).trans ht) (by first | omega | (simp only [Int32.toInt_toInt64]; omega) | decide | assumption) (by first | omega | (simp only [Int32.toInt_toInt64]; omega) | decide | assumption)) rfl rfl ⟨Nat.le_of_ble_eq_true rfl, Nat.le_of_ble_eq_true rfl⟩ rfl hl.1 rfl (Nat.le_of_ble_eq_true rfl) dX12_clauseHere_189 ⟨Nat.le_of_ble_eq_true rfl, Nat.le_of_ble_eq_true rfl⟩) (fun r_64 f_65 Γ_67 H locs hw_63 hP hI hc_66 hcg_68 hS => ?_)
          have hD : va_D A (va_pl L f_65) := tp_D hL hAL
          have hfr := tp_fr2 hfr hc_66 (by decide)
          have hgr : ∀ κ : tk_K, κ.1 ∉ ([39, 43, 44, 52, 45, 46, 53, 47, 54, 55, 56, 48, 49, 50, 51] : List Nat) → Γ_67 κ = Γ κ := tg_fr2 hgr hcg_68 (by decide)
          obtain ⟨hE_69, hw_63⟩ := hw_63
          have hE_69 : tl_E r_64 (tr_W τ T0 (Γ_67 (39, 0, 0) 1) 474315584357) 1 0 := hE_69
          have hw_63 : Γ_67 (39, 0, 0) 0 = Γ_50 (39, 0, 0) 0 ∧ Γ_67 (39, 0, 0) 3 = Γ_50 (39, 0, 0) 3 ∧ Γ_67 (39, 0, 0) 4 = Γ_50 (39, 0, 0) 4 ∧ Γ_67 (39, 0, 0) 5 = Γ_50 (39, 0, 0) 5 ∧ Γ_67 (39, 0, 0) 6 = Γ_50 (39, 0, 0) 6 ∧ Γ_67 (39, 0, 0) 7 = Γ_50 (39, 0, 0) 7 ∧ Γ_67 (39, 0, 0) 8 = Γ_50 (39, 0, 0) 8 ∧ Γ_50 (39, 0, 0) 1 ≤ Γ_67 (39, 0, 0) 1 ∧ Γ_67 (39, 0, 0) 1 ≤ T0 ∧ (¬ τ (Γ_50 (39, 0, 0) 1).toNat = 32 → Γ_67 (39, 0, 0) 1 = Γ_50 (39, 0, 0) 1) := hw_63
          have hgM : ∀ κ : tk_K, κ.1 ∉ ([39] : List Nat) → Γ_67 κ = Γ κ := tg_fr2 hgM hcg_68 (by decide)
          obtain ⟨w0_hw_63, w1_hw_63, w2_hw_63, w3_hw_63, w4_hw_63, w5_hw_63, w6_hw_63, w7_hw_63, w8_hw_63, hni⟩ := hw_63
          have hnx : Γ_67 (39, 0, 0) 1 = Γ_50 (39, 0, 0) 1 := hni (by have q9 := hH.L.2; omega)
          clear hni
          replace hH : tr_H τ T0 (Γ_67 (39, 0, 0) 1) t0 := by rw [hnx]; exact hH
          clear hnx
          replace q0 : Γ_67 (39, 0, 0) 0 = Γ (39, 0, 0) 0 := w0_hw_63.trans q0
          replace q3 : Γ_67 (39, 0, 0) 3 = Γ (39, 0, 0) 3 := w1_hw_63.trans q3
          replace q4 : Γ_67 (39, 0, 0) 4 = Γ (39, 0, 0) 4 := w2_hw_63.trans q4
          replace q5 : Γ_67 (39, 0, 0) 5 = Γ (39, 0, 0) 5 := w3_hw_63.trans q5
          replace q6 : Γ_67 (39, 0, 0) 6 = Γ (39, 0, 0) 6 := w4_hw_63.trans q6
          replace q7 : Γ_67 (39, 0, 0) 7 = Γ (39, 0, 0) 7 + 1 := w5_hw_63.trans q7
          replace q8 : Γ_67 (39, 0, 0) 8 = Γ (39, 0, 0) 8 := w6_hw_63.trans q8
          replace hx9 : Γ (39, 0, 0) 1 ≤ Γ_67 (39, 0, 0) 1 ∧ Γ_67 (39, 0, 0) 1 ≤ T0 := ⟨Int.le_trans hx9.1 w7_hw_63, w8_hw_63⟩
          clear w0_hw_63 w1_hw_63 w2_hw_63 w3_hw_63 w4_hw_63 w5_hw_63 w6_hw_63 w7_hw_63 w8_hw_63
          refine lv_if_eq (tgt := 209) hx hb dX12_clauseHere_192 (by decide) (fun c_70 => ?_) (fun c_70 => ?_)
          · have c_70 := hE_69.f c_70
            refine lv_aload_n hx hb dX12_clauseHere_209 rfl (lv_at hl 2 rfl) ?_
            refine lv_ldc2 (v := 1700885619) hx hb hown (hta _ wk_555) dX12_clauseHere_210 ?_
            obtain ⟨r_72, v_73, q_74, hf_71, hr_75, hv_76⟩ := (show tp_o_M L K 0 0 (Γ_67 (39, 0, 0)) (f_65 o) from hI.at ho)
            refine tq_ciR hS (hAf _ hS.1) (tq_rV (As := [.long 1700885619]) (rest := []) ⟨hx, hb, hml, hown, hta⟩ (tp_P.pre hK hN hL hU hI hP) (tp_recv hK hP ho.1 hf_71 rfl) lk_X12_174 (r_X12_isWord l D cy H.size L K Γ_67 f_65 o 1700885619 τ T0 ho ((hgr _ (by decide)).trans ht) (by first | omega | (simp only [Int32.toInt_toInt64]; omega) | decide | assumption) (by first | omega | (simp only [Int32.toInt_toInt64]; omega) | decide | assumption)) rfl rfl ⟨Nat.le_of_ble_eq_true rfl, Nat.le_of_ble_eq_true rfl⟩ rfl hl.1 rfl (Nat.le_of_ble_eq_true rfl) dX12_clauseHere_213 ⟨Nat.le_of_ble_eq_true rfl, Nat.le_of_ble_eq_true rfl⟩) (fun r_81 f_82 Γ_84 H locs hw_80 hP hI hc_83 hcg_85 hS => ?_)
            have hD : va_D A (va_pl L f_82) := tp_D hL hAL
            have hfr := tp_fr2 hfr hc_83 (by decide)
            have hgr : ∀ κ : tk_K, κ.1 ∉ ([39, 43, 44, 52, 45, 46, 53, 47, 54, 55, 56, 48, 49, 50, 51] : List Nat) → Γ_84 κ = Γ κ := tg_fr2 hgr hcg_85 (by decide)
            obtain ⟨hE_86, hw_80⟩ := hw_80
            have hE_86 : tl_E r_81 (tr_W τ T0 (Γ_84 (39, 0, 0) 1) 1700885619) 1 0 := hE_86
            have hw_80 : Γ_84 (39, 0, 0) 0 = Γ_67 (39, 0, 0) 0 ∧ Γ_84 (39, 0, 0) 3 = Γ_67 (39, 0, 0) 3 ∧ Γ_84 (39, 0, 0) 4 = Γ_67 (39, 0, 0) 4 ∧ Γ_84 (39, 0, 0) 5 = Γ_67 (39, 0, 0) 5 ∧ Γ_84 (39, 0, 0) 6 = Γ_67 (39, 0, 0) 6 ∧ Γ_84 (39, 0, 0) 7 = Γ_67 (39, 0, 0) 7 ∧ Γ_84 (39, 0, 0) 8 = Γ_67 (39, 0, 0) 8 ∧ Γ_67 (39, 0, 0) 1 ≤ Γ_84 (39, 0, 0) 1 ∧ Γ_84 (39, 0, 0) 1 ≤ T0 ∧ (¬ τ (Γ_67 (39, 0, 0) 1).toNat = 32 → Γ_84 (39, 0, 0) 1 = Γ_67 (39, 0, 0) 1) := hw_80
            have hgM : ∀ κ : tk_K, κ.1 ∉ ([39] : List Nat) → Γ_84 κ = Γ κ := tg_fr2 hgM hcg_85 (by decide)
            obtain ⟨w0_hw_80, w1_hw_80, w2_hw_80, w3_hw_80, w4_hw_80, w5_hw_80, w6_hw_80, w7_hw_80, w8_hw_80, hni⟩ := hw_80
            have hnx : Γ_84 (39, 0, 0) 1 = Γ_67 (39, 0, 0) 1 := hni (by have q9 := hH.L.2; omega)
            clear hni
            replace hH : tr_H τ T0 (Γ_84 (39, 0, 0) 1) t0 := by rw [hnx]; exact hH
            clear hnx
            replace q0 : Γ_84 (39, 0, 0) 0 = Γ (39, 0, 0) 0 := w0_hw_80.trans q0
            replace q3 : Γ_84 (39, 0, 0) 3 = Γ (39, 0, 0) 3 := w1_hw_80.trans q3
            replace q4 : Γ_84 (39, 0, 0) 4 = Γ (39, 0, 0) 4 := w2_hw_80.trans q4
            replace q5 : Γ_84 (39, 0, 0) 5 = Γ (39, 0, 0) 5 := w3_hw_80.trans q5
            replace q6 : Γ_84 (39, 0, 0) 6 = Γ (39, 0, 0) 6 := w4_hw_80.trans q6
            replace q7 : Γ_84 (39, 0, 0) 7 = Γ (39, 0, 0) 7 + 1 := w5_hw_80.trans q7
            replace q8 : Γ_84 (39, 0, 0) 8 = Γ (39, 0, 0) 8 := w6_hw_80.trans q8
            replace hx9 : Γ (39, 0, 0) 1 ≤ Γ_84 (39, 0, 0) 1 ∧ Γ_84 (39, 0, 0) 1 ≤ T0 := ⟨Int.le_trans hx9.1 w7_hw_80, w8_hw_80⟩
            clear w0_hw_80 w1_hw_80 w2_hw_80 w3_hw_80 w4_hw_80 w5_hw_80 w6_hw_80 w7_hw_80 w8_hw_80
            refine lv_if_eq (tgt := 224) hx hb dX12_clauseHere_216 (by decide) (fun c_87 => ?_) (fun c_87 => ?_)
            · have c_87 := hE_86.f c_87
              refine lv_aload_n hx hb dX12_clauseHere_224 rfl (lv_at hl 2 rfl) ?_
              refine lv_ldc2 (v := 422608528499) hx hb hown (hta _ wk_556) dX12_clauseHere_225 ?_
              obtain ⟨r_89, v_90, q_91, hf_88, hr_92, hv_93⟩ := (show tp_o_M L K 0 0 (Γ_84 (39, 0, 0)) (f_82 o) from hI.at ho)
              refine tq_ciR hS (hAf _ hS.1) (tq_rV (As := [.long 422608528499]) (rest := []) ⟨hx, hb, hml, hown, hta⟩ (tp_P.pre hK hN hL hU hI hP) (tp_recv hK hP ho.1 hf_88 rfl) lk_X12_174 (r_X12_isWord l D cy H.size L K Γ_84 f_82 o 422608528499 τ T0 ho ((hgr _ (by decide)).trans ht) (by first | omega | (simp only [Int32.toInt_toInt64]; omega) | decide | assumption) (by first | omega | (simp only [Int32.toInt_toInt64]; omega) | decide | assumption)) rfl rfl ⟨Nat.le_of_ble_eq_true rfl, Nat.le_of_ble_eq_true rfl⟩ rfl hl.1 rfl (Nat.le_of_ble_eq_true rfl) dX12_clauseHere_228 ⟨Nat.le_of_ble_eq_true rfl, Nat.le_of_ble_eq_true rfl⟩) (fun r_98 f_99 Γ_101 H locs hw_97 hP hI hc_100 hcg_102 hS => ?_)
              have hD : va_D A (va_pl L f_99) := tp_D hL hAL
              have hfr := tp_fr2 hfr hc_100 (by decide)
              have hgr : ∀ κ : tk_K, κ.1 ∉ ([39, 43, 44, 52, 45, 46, 53, 47, 54, 55, 56, 48, 49, 50, 51] : List Nat) → Γ_101 κ = Γ κ := tg_fr2 hgr hcg_102 (by decide)
              obtain ⟨hE_103, hw_97⟩ := hw_97
              have hE_103 : tl_E r_98 (tr_W τ T0 (Γ_101 (39, 0, 0) 1) 422608528499) 1 0 := hE_103
              have hw_97 : Γ_101 (39, 0, 0) 0 = Γ_84 (39, 0, 0) 0 ∧ Γ_101 (39, 0, 0) 3 = Γ_84 (39, 0, 0) 3 ∧ Γ_101 (39, 0, 0) 4 = Γ_84 (39, 0, 0) 4 ∧ Γ_101 (39, 0, 0) 5 = Γ_84 (39, 0, 0) 5 ∧ Γ_101 (39, 0, 0) 6 = Γ_84 (39, 0, 0) 6 ∧ Γ_101 (39, 0, 0) 7 = Γ_84 (39, 0, 0) 7 ∧ Γ_101 (39, 0, 0) 8 = Γ_84 (39, 0, 0) 8 ∧ Γ_84 (39, 0, 0) 1 ≤ Γ_101 (39, 0, 0) 1 ∧ Γ_101 (39, 0, 0) 1 ≤ T0 ∧ (¬ τ (Γ_84 (39, 0, 0) 1).toNat = 32 → Γ_101 (39, 0, 0) 1 = Γ_84 (39, 0, 0) 1) := hw_97
              have hgM : ∀ κ : tk_K, κ.1 ∉ ([39] : List Nat) → Γ_101 κ = Γ κ := tg_fr2 hgM hcg_102 (by decide)
              obtain ⟨w0_hw_97, w1_hw_97, w2_hw_97, w3_hw_97, w4_hw_97, w5_hw_97, w6_hw_97, w7_hw_97, w8_hw_97, hni⟩ := hw_97
              have hnx : Γ_101 (39, 0, 0) 1 = Γ_84 (39, 0, 0) 1 := hni (by have q9 := hH.L.2; omega)
              clear hni
              replace hH : tr_H τ T0 (Γ_101 (39, 0, 0) 1) t0 := by rw [hnx]; exact hH
              clear hnx
              replace q0 : Γ_101 (39, 0, 0) 0 = Γ (39, 0, 0) 0 := w0_hw_97.trans q0
              replace q3 : Γ_101 (39, 0, 0) 3 = Γ (39, 0, 0) 3 := w1_hw_97.trans q3
              replace q4 : Γ_101 (39, 0, 0) 4 = Γ (39, 0, 0) 4 := w2_hw_97.trans q4
              replace q5 : Γ_101 (39, 0, 0) 5 = Γ (39, 0, 0) 5 := w3_hw_97.trans q5
              replace q6 : Γ_101 (39, 0, 0) 6 = Γ (39, 0, 0) 6 := w4_hw_97.trans q6
              replace q7 : Γ_101 (39, 0, 0) 7 = Γ (39, 0, 0) 7 + 1 := w5_hw_97.trans q7
              replace q8 : Γ_101 (39, 0, 0) 8 = Γ (39, 0, 0) 8 := w6_hw_97.trans q8
              replace hx9 : Γ (39, 0, 0) 1 ≤ Γ_101 (39, 0, 0) 1 ∧ Γ_101 (39, 0, 0) 1 ≤ T0 := ⟨Int.le_trans hx9.1 w7_hw_97, w8_hw_97⟩
              clear w0_hw_97 w1_hw_97 w2_hw_97 w3_hw_97 w4_hw_97 w5_hw_97 w6_hw_97 w7_hw_97 w8_hw_97
              refine lv_if_eq (tgt := 247) hx hb dX12_clauseHere_231 (by decide) (fun c_104 => ?_) (fun c_104 => ?_)
              · have c_104 := hE_103.f c_104
                refine lv_aload_n hx hb dX12_clauseHere_247 rfl (lv_at hl 2 rfl) ?_
                refine lv_ldc2 (v := 6775152) hx hb hown (hta _ wk_557) dX12_clauseHere_248 ?_
                obtain ⟨r_106, v_107, q_108, hf_105, hr_109, hv_110⟩ := (show tp_o_M L K 0 0 (Γ_101 (39, 0, 0)) (f_99 o) from hI.at ho)
                refine tq_ciR hS (hAf _ hS.1) (tq_rV (As := [.long 6775152]) (rest := []) ⟨hx, hb, hml, hown, hta⟩ (tp_P.pre hK hN hL hU hI hP) (tp_recv hK hP ho.1 hf_105 rfl) lk_X12_174 (r_X12_isWord l D cy H.size L K Γ_101 f_99 o 6775152 τ T0 ho ((hgr _ (by decide)).trans ht) (by first | omega | (simp only [Int32.toInt_toInt64]; omega) | decide | assumption) (by first | omega | (simp only [Int32.toInt_toInt64]; omega) | decide | assumption)) rfl rfl ⟨Nat.le_of_ble_eq_true rfl, Nat.le_of_ble_eq_true rfl⟩ rfl hl.1 rfl (Nat.le_of_ble_eq_true rfl) dX12_clauseHere_251 ⟨Nat.le_of_ble_eq_true rfl, Nat.le_of_ble_eq_true rfl⟩) (fun r_115 f_116 Γ_118 H locs hw_114 hP hI hc_117 hcg_119 hS => ?_)
                have hD : va_D A (va_pl L f_116) := tp_D hL hAL
                have hfr := tp_fr2 hfr hc_117 (by decide)
                have hgr : ∀ κ : tk_K, κ.1 ∉ ([39, 43, 44, 52, 45, 46, 53, 47, 54, 55, 56, 48, 49, 50, 51] : List Nat) → Γ_118 κ = Γ κ := tg_fr2 hgr hcg_119 (by decide)
                obtain ⟨hE_120, hw_114⟩ := hw_114
                have hE_120 : tl_E r_115 (tr_W τ T0 (Γ_118 (39, 0, 0) 1) 6775152) 1 0 := hE_120
                have hw_114 : Γ_118 (39, 0, 0) 0 = Γ_101 (39, 0, 0) 0 ∧ Γ_118 (39, 0, 0) 3 = Γ_101 (39, 0, 0) 3 ∧ Γ_118 (39, 0, 0) 4 = Γ_101 (39, 0, 0) 4 ∧ Γ_118 (39, 0, 0) 5 = Γ_101 (39, 0, 0) 5 ∧ Γ_118 (39, 0, 0) 6 = Γ_101 (39, 0, 0) 6 ∧ Γ_118 (39, 0, 0) 7 = Γ_101 (39, 0, 0) 7 ∧ Γ_118 (39, 0, 0) 8 = Γ_101 (39, 0, 0) 8 ∧ Γ_101 (39, 0, 0) 1 ≤ Γ_118 (39, 0, 0) 1 ∧ Γ_118 (39, 0, 0) 1 ≤ T0 ∧ (¬ τ (Γ_101 (39, 0, 0) 1).toNat = 32 → Γ_118 (39, 0, 0) 1 = Γ_101 (39, 0, 0) 1) := hw_114
                have hgM : ∀ κ : tk_K, κ.1 ∉ ([39] : List Nat) → Γ_118 κ = Γ κ := tg_fr2 hgM hcg_119 (by decide)
                obtain ⟨w0_hw_114, w1_hw_114, w2_hw_114, w3_hw_114, w4_hw_114, w5_hw_114, w6_hw_114, w7_hw_114, w8_hw_114, hni⟩ := hw_114
                have hnx : Γ_118 (39, 0, 0) 1 = Γ_101 (39, 0, 0) 1 := hni (by have q9 := hH.L.2; omega)
                clear hni
                replace hH : tr_H τ T0 (Γ_118 (39, 0, 0) 1) t0 := by rw [hnx]; exact hH
                clear hnx
                replace q0 : Γ_118 (39, 0, 0) 0 = Γ (39, 0, 0) 0 := w0_hw_114.trans q0
                replace q3 : Γ_118 (39, 0, 0) 3 = Γ (39, 0, 0) 3 := w1_hw_114.trans q3
                replace q4 : Γ_118 (39, 0, 0) 4 = Γ (39, 0, 0) 4 := w2_hw_114.trans q4
                replace q5 : Γ_118 (39, 0, 0) 5 = Γ (39, 0, 0) 5 := w3_hw_114.trans q5
                replace q6 : Γ_118 (39, 0, 0) 6 = Γ (39, 0, 0) 6 := w4_hw_114.trans q6
                replace q7 : Γ_118 (39, 0, 0) 7 = Γ (39, 0, 0) 7 + 1 := w5_hw_114.trans q7
                replace q8 : Γ_118 (39, 0, 0) 8 = Γ (39, 0, 0) 8 := w6_hw_114.trans q8
                replace hx9 : Γ (39, 0, 0) 1 ≤ Γ_118 (39, 0, 0) 1 ∧ Γ_118 (39, 0, 0) 1 ≤ T0 := ⟨Int.le_trans hx9.1 w7_hw_114, w8_hw_114⟩
                clear w0_hw_114 w1_hw_114 w2_hw_114 w3_hw_114 w4_hw_114 w5_hw_114 w6_hw_114 w7_hw_114 w8_hw_114
                refine lv_if_eq (tgt := 263) hx hb dX12_clauseHere_254 (by decide) (fun c_121 => ?_) (fun c_121 => ?_)
                · have c_121 := hE_120.f c_121
                  refine lv_aload_n hx hb dX12_clauseHere_263 rfl (lv_at hl 2 rfl) ?_
                  refine lv_ldc2 (v := 2003395685) hx hb hown (hta _ wk_558) dX12_clauseHere_264 ?_
                  obtain ⟨r_123, v_124, q_125, hf_122, hr_126, hv_127⟩ := (show tp_o_M L K 0 0 (Γ_118 (39, 0, 0)) (f_116 o) from hI.at ho)
                  refine tq_ciR hS (hAf _ hS.1) (tq_rV (As := [.long 2003395685]) (rest := []) ⟨hx, hb, hml, hown, hta⟩ (tp_P.pre hK hN hL hU hI hP) (tp_recv hK hP ho.1 hf_122 rfl) lk_X12_174 (r_X12_isWord l D cy H.size L K Γ_118 f_116 o 2003395685 τ T0 ho ((hgr _ (by decide)).trans ht) (by first | omega | (simp only [Int32.toInt_toInt64]; omega) | decide | assumption) (by first | omega | (simp only [Int32.toInt_toInt64]; omega) | decide | assumption)) rfl rfl ⟨Nat.le_of_ble_eq_true rfl, Nat.le_of_ble_eq_true rfl⟩ rfl hl.1 rfl (Nat.le_of_ble_eq_true rfl) dX12_clauseHere_267 ⟨Nat.le_of_ble_eq_true rfl, Nat.le_of_ble_eq_true rfl⟩) (fun r_132 f_133 Γ_135 H locs hw_131 hP hI hc_134 hcg_136 hS => ?_)
                  have hD : va_D A (va_pl L f_133) := tp_D hL hAL
                  have hfr := tp_fr2 hfr hc_134 (by decide)
                  have hgr : ∀ κ : tk_K, κ.1 ∉ ([39, 43, 44, 52, 45, 46, 53, 47, 54, 55, 56, 48, 49, 50, 51] : List Nat) → Γ_135 κ = Γ κ := tg_fr2 hgr hcg_136 (by decide)
                  obtain ⟨hE_137, hw_131⟩ := hw_131
                  have hE_137 : tl_E r_132 (tr_W τ T0 (Γ_135 (39, 0, 0) 1) 2003395685) 1 0 := hE_137
                  have hw_131 : Γ_135 (39, 0, 0) 0 = Γ_118 (39, 0, 0) 0 ∧ Γ_135 (39, 0, 0) 3 = Γ_118 (39, 0, 0) 3 ∧ Γ_135 (39, 0, 0) 4 = Γ_118 (39, 0, 0) 4 ∧ Γ_135 (39, 0, 0) 5 = Γ_118 (39, 0, 0) 5 ∧ Γ_135 (39, 0, 0) 6 = Γ_118 (39, 0, 0) 6 ∧ Γ_135 (39, 0, 0) 7 = Γ_118 (39, 0, 0) 7 ∧ Γ_135 (39, 0, 0) 8 = Γ_118 (39, 0, 0) 8 ∧ Γ_118 (39, 0, 0) 1 ≤ Γ_135 (39, 0, 0) 1 ∧ Γ_135 (39, 0, 0) 1 ≤ T0 ∧ (¬ τ (Γ_118 (39, 0, 0) 1).toNat = 32 → Γ_135 (39, 0, 0) 1 = Γ_118 (39, 0, 0) 1) := hw_131
                  have hgM : ∀ κ : tk_K, κ.1 ∉ ([39] : List Nat) → Γ_135 κ = Γ κ := tg_fr2 hgM hcg_136 (by decide)
                  obtain ⟨w0_hw_131, w1_hw_131, w2_hw_131, w3_hw_131, w4_hw_131, w5_hw_131, w6_hw_131, w7_hw_131, w8_hw_131, hni⟩ := hw_131
                  have hnx : Γ_135 (39, 0, 0) 1 = Γ_118 (39, 0, 0) 1 := hni (by have q9 := hH.L.2; omega)
                  clear hni
                  replace hH : tr_H τ T0 (Γ_135 (39, 0, 0) 1) t0 := by rw [hnx]; exact hH
                  clear hnx
                  replace q0 : Γ_135 (39, 0, 0) 0 = Γ (39, 0, 0) 0 := w0_hw_131.trans q0
                  replace q3 : Γ_135 (39, 0, 0) 3 = Γ (39, 0, 0) 3 := w1_hw_131.trans q3
                  replace q4 : Γ_135 (39, 0, 0) 4 = Γ (39, 0, 0) 4 := w2_hw_131.trans q4
                  replace q5 : Γ_135 (39, 0, 0) 5 = Γ (39, 0, 0) 5 := w3_hw_131.trans q5
                  replace q6 : Γ_135 (39, 0, 0) 6 = Γ (39, 0, 0) 6 := w4_hw_131.trans q6
                  replace q7 : Γ_135 (39, 0, 0) 7 = Γ (39, 0, 0) 7 + 1 := w5_hw_131.trans q7
                  replace q8 : Γ_135 (39, 0, 0) 8 = Γ (39, 0, 0) 8 := w6_hw_131.trans q8
                  replace hx9 : Γ (39, 0, 0) 1 ≤ Γ_135 (39, 0, 0) 1 ∧ Γ_135 (39, 0, 0) 1 ≤ T0 := ⟨Int.le_trans hx9.1 w7_hw_131, w8_hw_131⟩
                  clear w0_hw_131 w1_hw_131 w2_hw_131 w3_hw_131 w4_hw_131 w5_hw_131 w6_hw_131 w7_hw_131 w8_hw_131
                  refine lv_if_eq (tgt := 288) hx hb dX12_clauseHere_270 (by decide) (fun c_138 => ?_) (fun c_138 => ?_)
                  · have c_138 := hE_137.f c_138
                    refine lv_aload_n hx hb dX12_clauseHere_288 rfl (lv_at hl 2 rfl) ?_
                    refine lv_aload_n hx hb dX12_clauseHere_289 rfl (lv_at hl 2 rfl) ?_
                    refine lv_ldc2 (v := 1936419184) hx hb hown (hta _ wk_559) dX12_clauseHere_290 ?_
                    obtain ⟨r_140, v_141, q_142, hf_139, hr_143, hv_144⟩ := (show tp_o_M L K 0 0 (Γ_135 (39, 0, 0)) (f_133 o) from hI.at ho)
                    refine tq_ciR hS (hAf _ hS.1) (tq_rV (As := [.long 1936419184]) (rest := [.ref o]) ⟨hx, hb, hml, hown, hta⟩ (tp_P.pre hK hN hL hU hI hP) (tp_recv hK hP ho.1 hf_139 rfl) lk_X12_174 (r_X12_isWord l D cy H.size L K Γ_135 f_133 o 1936419184 τ T0 ho ((hgr _ (by decide)).trans ht) (by first | omega | (simp only [Int32.toInt_toInt64]; omega) | decide | assumption) (by first | omega | (simp only [Int32.toInt_toInt64]; omega) | decide | assumption)) rfl rfl ⟨Nat.le_of_ble_eq_true rfl, Nat.le_of_ble_eq_true rfl⟩ rfl hl.1 rfl (Nat.le_of_ble_eq_true rfl) dX12_clauseHere_293 ⟨Nat.le_of_ble_eq_true rfl, Nat.le_of_ble_eq_true rfl⟩) (fun r_149 f_150 Γ_152 H locs hw_148 hP hI hc_151 hcg_153 hS => ?_)
                    have hD : va_D A (va_pl L f_150) := tp_D hL hAL
                    have hfr := tp_fr2 hfr hc_151 (by decide)
                    have hgr : ∀ κ : tk_K, κ.1 ∉ ([39, 43, 44, 52, 45, 46, 53, 47, 54, 55, 56, 48, 49, 50, 51] : List Nat) → Γ_152 κ = Γ κ := tg_fr2 hgr hcg_153 (by decide)
                    obtain ⟨hE_154, hw_148⟩ := hw_148
                    have hE_154 : tl_E r_149 (tr_W τ T0 (Γ_152 (39, 0, 0) 1) 1936419184) 1 0 := hE_154
                    have hw_148 : Γ_152 (39, 0, 0) 0 = Γ_135 (39, 0, 0) 0 ∧ Γ_152 (39, 0, 0) 3 = Γ_135 (39, 0, 0) 3 ∧ Γ_152 (39, 0, 0) 4 = Γ_135 (39, 0, 0) 4 ∧ Γ_152 (39, 0, 0) 5 = Γ_135 (39, 0, 0) 5 ∧ Γ_152 (39, 0, 0) 6 = Γ_135 (39, 0, 0) 6 ∧ Γ_152 (39, 0, 0) 7 = Γ_135 (39, 0, 0) 7 ∧ Γ_152 (39, 0, 0) 8 = Γ_135 (39, 0, 0) 8 ∧ Γ_135 (39, 0, 0) 1 ≤ Γ_152 (39, 0, 0) 1 ∧ Γ_152 (39, 0, 0) 1 ≤ T0 ∧ (¬ τ (Γ_135 (39, 0, 0) 1).toNat = 32 → Γ_152 (39, 0, 0) 1 = Γ_135 (39, 0, 0) 1) := hw_148
                    have hgM : ∀ κ : tk_K, κ.1 ∉ ([39] : List Nat) → Γ_152 κ = Γ κ := tg_fr2 hgM hcg_153 (by decide)
                    obtain ⟨w0_hw_148, w1_hw_148, w2_hw_148, w3_hw_148, w4_hw_148, w5_hw_148, w6_hw_148, w7_hw_148, w8_hw_148, hni⟩ := hw_148
                    have hnx : Γ_152 (39, 0, 0) 1 = Γ_135 (39, 0, 0) 1 := hni (by have q9 := hH.L.2; omega)
                    clear hni
                    replace hH : tr_H τ T0 (Γ_152 (39, 0, 0) 1) t0 := by rw [hnx]; exact hH
                    clear hnx
                    replace q0 : Γ_152 (39, 0, 0) 0 = Γ (39, 0, 0) 0 := w0_hw_148.trans q0
                    replace q3 : Γ_152 (39, 0, 0) 3 = Γ (39, 0, 0) 3 := w1_hw_148.trans q3
                    replace q4 : Γ_152 (39, 0, 0) 4 = Γ (39, 0, 0) 4 := w2_hw_148.trans q4
                    replace q5 : Γ_152 (39, 0, 0) 5 = Γ (39, 0, 0) 5 := w3_hw_148.trans q5
                    replace q6 : Γ_152 (39, 0, 0) 6 = Γ (39, 0, 0) 6 := w4_hw_148.trans q6
                    replace q7 : Γ_152 (39, 0, 0) 7 = Γ (39, 0, 0) 7 + 1 := w5_hw_148.trans q7
                    replace q8 : Γ_152 (39, 0, 0) 8 = Γ (39, 0, 0) 8 := w6_hw_148.trans q8
                    replace hx9 : Γ (39, 0, 0) 1 ≤ Γ_152 (39, 0, 0) 1 ∧ Γ_152 (39, 0, 0) 1 ≤ T0 := ⟨Int.le_trans hx9.1 w7_hw_148, w8_hw_148⟩
                    clear w0_hw_148 w1_hw_148 w2_hw_148 w3_hw_148 w4_hw_148 w5_hw_148 w6_hw_148 w7_hw_148 w8_hw_148
                    refine lv_if_ne (tgt := 303) hx hb dX12_clauseHere_296 (by decide) (fun c_155 => ?_) (fun c_155 => ?_)
                    · have c_155 := hE_154.t c_155
                      refine lv_iconst (v := 0) hx hb dX12_clauseHere_303 (by decide) ?_
                      have f_SG : Γ_152 (43, 8800, 0) t0.toNat = Γ (43, 8800, 0) t0.toNat := congrFun (hgM (43, 8800, 0) (by decide)) _
                      have f_ML : Γ_152 (44, 22, 0) t0.toNat = Γ (44, 22, 0) t0.toNat := congrFun (hgM (44, 22, 0) (by decide)) _
                      have f_MC : Γ_152 (45, 1056, 0) t0.toNat = Γ (45, 1056, 0) t0.toNat := congrFun (hgM (45, 1056, 0) (by decide)) _
                      have f_MS : Γ_152 (46, 22, 0) t0.toNat = Γ (46, 22, 0) t0.toNat := congrFun (hgM (46, 22, 0) (by decide)) _
                      have f_ER : Γ_152 (47, 6, 0) t0.toNat = Γ (47, 6, 0) t0.toNat := congrFun (hgM (47, 6, 0) (by decide)) _
                      have f_BE : Γ_152 (48, 22, 0) t0.toNat = Γ (48, 22, 0) t0.toNat := congrFun (hgM (48, 22, 0) (by decide)) _
                      have f_GF : Γ_152 (49, 22, 0) t0.toNat = Γ (49, 22, 0) t0.toNat := congrFun (hgM (49, 22, 0) (by decide)) _
                      have f_GT : Γ_152 (50, 22, 0) t0.toNat = Γ (50, 22, 0) t0.toNat := congrFun (hgM (50, 22, 0) (by decide)) _
                      have f_WI : Γ_152 (51, 22, 0) t0.toNat = Γ (51, 22, 0) t0.toNat := congrFun (hgM (51, 22, 0) (by decide)) _
                      obtain ⟨r_157, v_158, q_159, hf_156, hr_160, hv_161⟩ := (show tp_o_M L K 0 0 (Γ_152 (39, 0, 0)) (f_150 o) from hI.at ho)
                      refine tq_ciR hS (hAf _ hS.1) (tq_rV (As := [.int 0]) (rest := []) ⟨hx, hb, hml, hown, hta⟩ (tp_P.pre hK hN hL hU hI hP) (tp_recv hK hP ho.1 hf_156 rfl) lk_X12_318 (r_clauseOf_0 l D cy H.size L K Γ_152 f_150 o τ T0 t0 ho ((hgr _ (by decide)).trans ht) (by first | omega | (simp only [Int32.toInt_toInt64]; omega) | decide | assumption) (by first | omega | (simp only [Int32.toInt_toInt64]; omega) | decide | assumption) (by first | omega | (simp only [Int32.toInt_toInt64]; omega) | decide | assumption) (by first | omega | (simp only [Int32.toInt_toInt64]; omega) | decide | assumption) (by first | omega | (simp only [Int32.toInt_toInt64]; omega) | decide | assumption) (by first | omega | (simp only [Int32.toInt_toInt64]; omega) | decide | assumption) (by rw [hgM (43, 8800, 0) (by decide), hgM (45, 1056, 0) (by decide), hgM (46, 22, 0) (by decide), hgM (44, 22, 0) (by decide)]; exact hrq.2.2.2.2.2) (hH.skip (by assumption))) rfl rfl ⟨Nat.le_of_ble_eq_true rfl, Nat.le_of_ble_eq_true rfl⟩ rfl hl.1 rfl (Nat.le_of_ble_eq_true rfl) dX12_clauseHere_304 ⟨Nat.le_of_ble_eq_true rfl, Nat.le_of_ble_eq_true rfl⟩) (fun r_166 f_167 Γ_169 H locs hw_165 hP hI hc_168 hcg_170 hS => ?_)
                      have hD : va_D A (va_pl L f_167) := tp_D hL hAL
                      have hfr := tp_fr2 hfr hc_168 (by decide)
                      have hgr : ∀ κ : tk_K, κ.1 ∉ ([39, 43, 44, 52, 45, 46, 53, 47, 54, 55, 56, 48, 49, 50, 51] : List Nat) → Γ_169 κ = Γ κ := tg_fr2 hgr hcg_170 (by decide)
                      obtain ⟨hE_171, hw_165⟩ := hw_165
                      have hE_171 : tl_J r_166 (Γ_169 (46, 22, 0) = tgu (Γ_152 (46, 22, 0)) t0.toNat (Γ_152 (46, 22, 0) t0.toNat + 1) ∧ Γ_169 (44, 22, 0) t0.toNat ≤ Γ_169 (39, 0, 0) 1 ∧ (0 ≤ Γ_169 (39, 0, 0) 5 ∧ Γ_169 (39, 0, 0) 5 ≤ 60) ∧ tc (Γ_169 (43, 8800, 0)) (Γ_169 (45, 1056, 0)) (Γ_169 (46, 22, 0)) t0 (Γ_169 (44, 22, 0) t0.toNat)) := hE_171
                      have hw_165 : Γ_169 (39, 0, 0) 0 = Γ_152 (39, 0, 0) 0 ∧ Γ_169 (39, 0, 0) 4 = Γ_152 (39, 0, 0) 4 ∧ Γ_169 (39, 0, 0) 7 = Γ_152 (39, 0, 0) 7 ∧ Γ_152 (39, 0, 0) 1 ≤ Γ_169 (39, 0, 0) 1 ∧ Γ_169 (39, 0, 0) 1 ≤ T0 ∧ fw (Γ_152 (43, 8800, 0)) (Γ_169 (43, 8800, 0)) (Γ_152 (44, 22, 0)) (Γ_169 (44, 22, 0)) t0 ∧ (∀ i : Nat, (i : Int) < 48 * t0 ∨ 48 * t0 + 48 ≤ i → Γ_169 (45, 1056, 0) i = Γ_152 (45, 1056, 0) i) ∧ (∀ j : Nat, ¬ j = t0.toNat → Γ_169 (46, 22, 0) j = Γ_152 (46, 22, 0) j) ∧ tc (Γ_169 (43, 8800, 0)) (Γ_169 (45, 1056, 0)) (Γ_169 (46, 22, 0)) t0 (400) ∧ (Γ_152 (46, 22, 0) t0.toNat ≤ Γ_169 (46, 22, 0) t0.toNat ∧ Γ_169 (46, 22, 0) t0.toNat ≤ Γ_152 (46, 22, 0) t0.toNat + 1) := hw_165
                      have e8_SG : Γ_152 (43, 8800, 0) = Γ (43, 8800, 0) := hgM (43, 8800, 0) (by decide)
                      have e8_ML : Γ_152 (44, 22, 0) = Γ (44, 22, 0) := hgM (44, 22, 0) (by decide)
                      have e8_MC : Γ_152 (45, 1056, 0) = Γ (45, 1056, 0) := hgM (45, 1056, 0) (by decide)
                      have e8_MS : Γ_152 (46, 22, 0) = Γ (46, 22, 0) := hgM (46, 22, 0) (by decide)
                      have e9_ER : Γ_169 (47, 6, 0) = Γ (47, 6, 0) := (hcg_170 (47, 6, 0) (by decide)).trans (hgM (47, 6, 0) (by decide))
                      have f9_ER : Γ_169 (47, 6, 0) t0.toNat = Γ (47, 6, 0) t0.toNat := congrFun e9_ER _
                      have e9_BE : Γ_169 (48, 22, 0) = Γ (48, 22, 0) := (hcg_170 (48, 22, 0) (by decide)).trans (hgM (48, 22, 0) (by decide))
                      have f9_BE : Γ_169 (48, 22, 0) t0.toNat = Γ (48, 22, 0) t0.toNat := congrFun e9_BE _
                      have e9_GF : Γ_169 (49, 22, 0) = Γ (49, 22, 0) := (hcg_170 (49, 22, 0) (by decide)).trans (hgM (49, 22, 0) (by decide))
                      have f9_GF : Γ_169 (49, 22, 0) t0.toNat = Γ (49, 22, 0) t0.toNat := congrFun e9_GF _
                      have e9_GT : Γ_169 (50, 22, 0) = Γ (50, 22, 0) := (hcg_170 (50, 22, 0) (by decide)).trans (hgM (50, 22, 0) (by decide))
                      have f9_GT : Γ_169 (50, 22, 0) t0.toNat = Γ (50, 22, 0) t0.toNat := congrFun e9_GT _
                      have e9_WI : Γ_169 (51, 22, 0) = Γ (51, 22, 0) := (hcg_170 (51, 22, 0) (by decide)).trans (hgM (51, 22, 0) (by decide))
                      have f9_WI : Γ_169 (51, 22, 0) t0.toNat = Γ (51, 22, 0) t0.toNat := congrFun e9_WI _
                      have hrg9 : rg Γ Γ_169 t0 := ⟨(fun i9 q9 => (hw_165.2.2.2.2.2.1.2.2 i9 (by omega)).trans (congrFun e8_SG i9)), (fun i9 q9 => (hw_165.2.2.2.2.2.2.1 i9 q9).trans (congrFun e8_MC i9)), fun j9 q9 => ⟨(hw_165.2.2.2.2.2.2.2.1 j9 (by omega)).trans (congrFun e8_MS j9), by rw [e9_ER], by rw [e9_BE], by rw [e9_GF], by rw [e9_GT], by rw [e9_WI]⟩⟩
                      have f8_SG : Γ_152 (43, 8800, 0) t0.toNat = Γ (43, 8800, 0) t0.toNat := congrFun e8_SG _
                      have f8_ML : Γ_152 (44, 22, 0) t0.toNat = Γ (44, 22, 0) t0.toNat := congrFun e8_ML _
                      have f8_MC : Γ_152 (45, 1056, 0) t0.toNat = Γ (45, 1056, 0) t0.toNat := congrFun e8_MC _
                      have f8_MS : Γ_152 (46, 22, 0) t0.toNat = Γ (46, 22, 0) t0.toNat := congrFun e8_MS _
                      have hms9 := hw_165.2.2.2.2.2.2.2.2.2
                      have hrb9 : rb Γ_169 t0 := ⟨by omega, hw_165.2.2.2.2.2.2.2.2.1, fun q9 => (by have q8 := hrb.2.2.1 q9; have q7 := hrq.2.2.2.2.1 q9; omega), by omega, by omega, by omega, by omega⟩
                      have hrq9 : tl_J r_166 (rq Γ_169 t0) := hE_171.imp (fun ⟨q1, q2, q3, q4⟩ => ⟨⟨by have q9 := hw_165.2.2.2.2.2.1.2.1; omega, q2⟩, q3, by omega, by rw [q1, tgu_s]; omega, fun q9 => (by have q8 := hrq.2.2.2.2.1 q9; omega), q4⟩)
                      have hpo9 : tl_J (r_166 : Int32) (rq Γ_169 t0) ∧ Γ_169 (39, 0, 0) 0 = Γ (39, 0, 0) 0 ∧ Γ_169 (39, 0, 0) 4 = Γ (39, 0, 0) 4 ∧ Γ (39, 0, 0) 1 ≤ Γ_169 (39, 0, 0) 1 ∧ Γ_169 (39, 0, 0) 1 ≤ T0 ∧ rg Γ Γ_169 t0 ∧ rb Γ_169 t0 := ⟨hrq9, ⟨(by omega), (by omega), (by omega), (by omega), hrg9, hrb9⟩⟩
                      exact W.zret (ty := .boolean) (v := r_166) hx hb hr hE_171.nar (fun t ht hW => ⟨⟨_, (f_167, Γ_169), rfl, hpo9, by rw [ht]; exact hP, hI, hfr, hgr⟩, hS.F ht⟩) hS.2.2 dX12_clauseHere_307
                    · have c_155 := hE_154.f c_155
                      refine lv_iconst (v := 1) hx hb dX12_clauseHere_299 (by decide) ?_
                      refine lv_goto (tgt := 304) hx hb dX12_clauseHere_300 (by decide) ?_
                      have f_SG : Γ_152 (43, 8800, 0) t0.toNat = Γ (43, 8800, 0) t0.toNat := congrFun (hgM (43, 8800, 0) (by decide)) _
                      have f_ML : Γ_152 (44, 22, 0) t0.toNat = Γ (44, 22, 0) t0.toNat := congrFun (hgM (44, 22, 0) (by decide)) _
                      have f_MC : Γ_152 (45, 1056, 0) t0.toNat = Γ (45, 1056, 0) t0.toNat := congrFun (hgM (45, 1056, 0) (by decide)) _
                      have f_MS : Γ_152 (46, 22, 0) t0.toNat = Γ (46, 22, 0) t0.toNat := congrFun (hgM (46, 22, 0) (by decide)) _
                      have f_ER : Γ_152 (47, 6, 0) t0.toNat = Γ (47, 6, 0) t0.toNat := congrFun (hgM (47, 6, 0) (by decide)) _
                      have f_BE : Γ_152 (48, 22, 0) t0.toNat = Γ (48, 22, 0) t0.toNat := congrFun (hgM (48, 22, 0) (by decide)) _
                      have f_GF : Γ_152 (49, 22, 0) t0.toNat = Γ (49, 22, 0) t0.toNat := congrFun (hgM (49, 22, 0) (by decide)) _
                      have f_GT : Γ_152 (50, 22, 0) t0.toNat = Γ (50, 22, 0) t0.toNat := congrFun (hgM (50, 22, 0) (by decide)) _
                      have f_WI : Γ_152 (51, 22, 0) t0.toNat = Γ (51, 22, 0) t0.toNat := congrFun (hgM (51, 22, 0) (by decide)) _
                      obtain ⟨r_173, v_174, q_175, hf_172, hr_176, hv_177⟩ := (show tp_o_M L K 0 0 (Γ_152 (39, 0, 0)) (f_150 o) from hI.at ho)
                      refine tq_ciR hS (hAf _ hS.1) (tq_rV (As := [.int 1]) (rest := []) ⟨hx, hb, hml, hown, hta⟩ (tp_P.pre hK hN hL hU hI hP) (tp_recv hK hP ho.1 hf_172 rfl) lk_X12_318 (r_clauseOf_1 l D cy H.size L K Γ_152 f_150 o τ T0 t0 ho ((hgr _ (by decide)).trans ht) (by first | omega | (simp only [Int32.toInt_toInt64]; omega) | decide | assumption) (by first | omega | (simp only [Int32.toInt_toInt64]; omega) | decide | assumption) (by first | omega | (simp only [Int32.toInt_toInt64]; omega) | decide | assumption) (by first | omega | (simp only [Int32.toInt_toInt64]; omega) | decide | assumption) (by first | omega | (simp only [Int32.toInt_toInt64]; omega) | decide | assumption) (by first | omega | (simp only [Int32.toInt_toInt64]; omega) | decide | assumption) (by rw [hgM (43, 8800, 0) (by decide), hgM (45, 1056, 0) (by decide), hgM (46, 22, 0) (by decide), hgM (44, 22, 0) (by decide)]; exact hrq.2.2.2.2.2)) rfl rfl ⟨Nat.le_of_ble_eq_true rfl, Nat.le_of_ble_eq_true rfl⟩ rfl hl.1 rfl (Nat.le_of_ble_eq_true rfl) dX12_clauseHere_304 ⟨Nat.le_of_ble_eq_true rfl, Nat.le_of_ble_eq_true rfl⟩) (fun r_182 f_183 Γ_185 H locs hw_181 hP hI hc_184 hcg_186 hS => ?_)
                      have hD : va_D A (va_pl L f_183) := tp_D hL hAL
                      have hfr := tp_fr2 hfr hc_184 (by decide)
                      have hgr : ∀ κ : tk_K, κ.1 ∉ ([39, 43, 44, 52, 45, 46, 53, 47, 54, 55, 56, 48, 49, 50, 51] : List Nat) → Γ_185 κ = Γ κ := tg_fr2 hgr hcg_186 (by decide)
                      obtain ⟨hE_187, hw_181⟩ := hw_181
                      have hE_187 : tl_J r_182 (Γ_185 (46, 22, 0) = tgu (Γ_152 (46, 22, 0)) t0.toNat (Γ_152 (46, 22, 0) t0.toNat + 1) ∧ Γ_185 (44, 22, 0) t0.toNat ≤ Γ_185 (39, 0, 0) 1 ∧ (0 ≤ Γ_185 (39, 0, 0) 5 ∧ Γ_185 (39, 0, 0) 5 ≤ 60) ∧ tc (Γ_185 (43, 8800, 0)) (Γ_185 (45, 1056, 0)) (Γ_185 (46, 22, 0)) t0 (Γ_185 (44, 22, 0) t0.toNat)) := hE_187
                      have hw_181 : Γ_185 (39, 0, 0) 0 = Γ_152 (39, 0, 0) 0 ∧ Γ_185 (39, 0, 0) 4 = Γ_152 (39, 0, 0) 4 ∧ Γ_185 (39, 0, 0) 7 = Γ_152 (39, 0, 0) 7 ∧ Γ_152 (39, 0, 0) 1 ≤ Γ_185 (39, 0, 0) 1 ∧ Γ_185 (39, 0, 0) 1 ≤ T0 ∧ fw (Γ_152 (43, 8800, 0)) (Γ_185 (43, 8800, 0)) (Γ_152 (44, 22, 0)) (Γ_185 (44, 22, 0)) t0 ∧ (∀ i : Nat, (i : Int) < 48 * t0 ∨ 48 * t0 + 48 ≤ i → Γ_185 (45, 1056, 0) i = Γ_152 (45, 1056, 0) i) ∧ (∀ j : Nat, ¬ j = t0.toNat → Γ_185 (46, 22, 0) j = Γ_152 (46, 22, 0) j) ∧ tc (Γ_185 (43, 8800, 0)) (Γ_185 (45, 1056, 0)) (Γ_185 (46, 22, 0)) t0 (400) ∧ (Γ_152 (46, 22, 0) t0.toNat ≤ Γ_185 (46, 22, 0) t0.toNat ∧ Γ_185 (46, 22, 0) t0.toNat ≤ Γ_152 (46, 22, 0) t0.toNat + 1) := hw_181
                      have e8_SG : Γ_152 (43, 8800, 0) = Γ (43, 8800, 0) := hgM (43, 8800, 0) (by decide)
                      have e8_ML : Γ_152 (44, 22, 0) = Γ (44, 22, 0) := hgM (44, 22, 0) (by decide)
                      have e8_MC : Γ_152 (45, 1056, 0) = Γ (45, 1056, 0) := hgM (45, 1056, 0) (by decide)
                      have e8_MS : Γ_152 (46, 22, 0) = Γ (46, 22, 0) := hgM (46, 22, 0) (by decide)
                      have e9_ER : Γ_185 (47, 6, 0) = Γ (47, 6, 0) := (hcg_186 (47, 6, 0) (by decide)).trans (hgM (47, 6, 0) (by decide))
                      have f9_ER : Γ_185 (47, 6, 0) t0.toNat = Γ (47, 6, 0) t0.toNat := congrFun e9_ER _
                      have e9_BE : Γ_185 (48, 22, 0) = Γ (48, 22, 0) := (hcg_186 (48, 22, 0) (by decide)).trans (hgM (48, 22, 0) (by decide))
                      have f9_BE : Γ_185 (48, 22, 0) t0.toNat = Γ (48, 22, 0) t0.toNat := congrFun e9_BE _
                      have e9_GF : Γ_185 (49, 22, 0) = Γ (49, 22, 0) := (hcg_186 (49, 22, 0) (by decide)).trans (hgM (49, 22, 0) (by decide))
                      have f9_GF : Γ_185 (49, 22, 0) t0.toNat = Γ (49, 22, 0) t0.toNat := congrFun e9_GF _
                      have e9_GT : Γ_185 (50, 22, 0) = Γ (50, 22, 0) := (hcg_186 (50, 22, 0) (by decide)).trans (hgM (50, 22, 0) (by decide))
                      have f9_GT : Γ_185 (50, 22, 0) t0.toNat = Γ (50, 22, 0) t0.toNat := congrFun e9_GT _
                      have e9_WI : Γ_185 (51, 22, 0) = Γ (51, 22, 0) := (hcg_186 (51, 22, 0) (by decide)).trans (hgM (51, 22, 0) (by decide))
                      have f9_WI : Γ_185 (51, 22, 0) t0.toNat = Γ (51, 22, 0) t0.toNat := congrFun e9_WI _
                      have hrg9 : rg Γ Γ_185 t0 := ⟨(fun i9 q9 => (hw_181.2.2.2.2.2.1.2.2 i9 (by omega)).trans (congrFun e8_SG i9)), (fun i9 q9 => (hw_181.2.2.2.2.2.2.1 i9 q9).trans (congrFun e8_MC i9)), fun j9 q9 => ⟨(hw_181.2.2.2.2.2.2.2.1 j9 (by omega)).trans (congrFun e8_MS j9), by rw [e9_ER], by rw [e9_BE], by rw [e9_GF], by rw [e9_GT], by rw [e9_WI]⟩⟩
                      have f8_SG : Γ_152 (43, 8800, 0) t0.toNat = Γ (43, 8800, 0) t0.toNat := congrFun e8_SG _
                      have f8_ML : Γ_152 (44, 22, 0) t0.toNat = Γ (44, 22, 0) t0.toNat := congrFun e8_ML _
                      have f8_MC : Γ_152 (45, 1056, 0) t0.toNat = Γ (45, 1056, 0) t0.toNat := congrFun e8_MC _
                      have f8_MS : Γ_152 (46, 22, 0) t0.toNat = Γ (46, 22, 0) t0.toNat := congrFun e8_MS _
                      have hms9 := hw_181.2.2.2.2.2.2.2.2.2
                      have hrb9 : rb Γ_185 t0 := ⟨by omega, hw_181.2.2.2.2.2.2.2.2.1, fun q9 => (by have q8 := hrb.2.2.1 q9; have q7 := hrq.2.2.2.2.1 q9; omega), by omega, by omega, by omega, by omega⟩
                      have hrq9 : tl_J r_182 (rq Γ_185 t0) := hE_187.imp (fun ⟨q1, q2, q3, q4⟩ => ⟨⟨by have q9 := hw_181.2.2.2.2.2.1.2.1; omega, q2⟩, q3, by omega, by rw [q1, tgu_s]; omega, fun q9 => (by have q8 := hrq.2.2.2.2.1 q9; omega), q4⟩)
                      have hpo9 : tl_J (r_182 : Int32) (rq Γ_185 t0) ∧ Γ_185 (39, 0, 0) 0 = Γ (39, 0, 0) 0 ∧ Γ_185 (39, 0, 0) 4 = Γ (39, 0, 0) 4 ∧ Γ (39, 0, 0) 1 ≤ Γ_185 (39, 0, 0) 1 ∧ Γ_185 (39, 0, 0) 1 ≤ T0 ∧ rg Γ Γ_185 t0 ∧ rb Γ_185 t0 := ⟨hrq9, ⟨(by omega), (by omega), (by omega), (by omega), hrg9, hrb9⟩⟩
                      exact W.zret (ty := .boolean) (v := r_182) hx hb hr hE_187.nar (fun t ht hW => ⟨⟨_, (f_183, Γ_185), rfl, hpo9, by rw [ht]; exact hP, hI, hfr, hgr⟩, hS.F ht⟩) hS.2.2 dX12_clauseHere_307
                  · have c_138 := hE_137.t c_138
                    refine lv_aload_n hx hb dX12_clauseHere_273 rfl (lv_at hl 2 rfl) ?_
                    refine lv_aload_n hx hb dX12_clauseHere_274 rfl (lv_at hl 2 rfl) ?_
                    obtain ⟨r_189, v_190, q_191, hf_188, hr_192, hv_193⟩ := (show tp_o_M L K 0 0 (Γ_135 (39, 0, 0)) (f_133 o) from hI.at ho)
                    refine tp_get (cy := cy) (ci := 12) (v := .ref (r_189 15)) (C := RX12) (T := TX12) (N := 49) hx hb hta inlX12 hown hK hP ho.1 hf_188 rfl 16 (by decide) (hta _ wk_165) (fun _ h9 => h9) rfl dX12_clauseHere_275 ?_
                    refine lv_iconst (v := 0) hx hb dX12_clauseHere_278 (by decide) ?_
                    refine lv_bipush (v := 50) hx hb dX12_clauseHere_279 (by decide) ?_
                    refine lv_iload_n hx hb dX12_clauseHere_281 rfl (lv_at hl 1 rfl) ?_
                    have f_SG : Γ_135 (43, 8800, 0) t0.toNat = Γ (43, 8800, 0) t0.toNat := congrFun (hgM (43, 8800, 0) (by decide)) _
                    have f_ML : Γ_135 (44, 22, 0) t0.toNat = Γ (44, 22, 0) t0.toNat := congrFun (hgM (44, 22, 0) (by decide)) _
                    have f_MC : Γ_135 (45, 1056, 0) t0.toNat = Γ (45, 1056, 0) t0.toNat := congrFun (hgM (45, 1056, 0) (by decide)) _
                    have f_MS : Γ_135 (46, 22, 0) t0.toNat = Γ (46, 22, 0) t0.toNat := congrFun (hgM (46, 22, 0) (by decide)) _
                    have f_ER : Γ_135 (47, 6, 0) t0.toNat = Γ (47, 6, 0) t0.toNat := congrFun (hgM (47, 6, 0) (by decide)) _
                    have f_BE : Γ_135 (48, 22, 0) t0.toNat = Γ (48, 22, 0) t0.toNat := congrFun (hgM (48, 22, 0) (by decide)) _
                    have f_GF : Γ_135 (49, 22, 0) t0.toNat = Γ (49, 22, 0) t0.toNat := congrFun (hgM (49, 22, 0) (by decide)) _
                    have f_GT : Γ_135 (50, 22, 0) t0.toNat = Γ (50, 22, 0) t0.toNat := congrFun (hgM (50, 22, 0) (by decide)) _
                    have f_WI : Γ_135 (51, 22, 0) t0.toNat = Γ (51, 22, 0) t0.toNat := congrFun (hgM (51, 22, 0) (by decide)) _
                    refine tq_ciR hS (hAf _ hS.1) (tq_rV (As := [.ref (r_189 15), .int 0, .int 50, .int (v_18 1)]) (rest := []) ⟨hx, hb, hml, hown, hta⟩ (tp_P.pre hK hN hL hU hI hP) (tp_recv hK hP ho.1 hf_188 rfl) lk_X12_284 (r_sets_MWIDE l D cy H.size L K Γ_135 f_133 o (r_189 15) 0 50 (v_18 1) τ T0 t0 ho (show tp_r L K 51 22 0 (r_189 15) from hr_192 15 (by decide)) ((hgr _ (by decide)).trans ht) (by first | omega | (simp only [Int32.toInt_toInt64]; omega) | decide | assumption) (by first | omega | (simp only [Int32.toInt_toInt64]; omega) | decide | assumption) (by first | omega | (simp only [Int32.toInt_toInt64]; omega) | decide | assumption)) rfl rfl ⟨Nat.le_of_ble_eq_true rfl, Nat.le_of_ble_eq_true rfl⟩ rfl hl.1 rfl (Nat.le_of_ble_eq_true rfl) dX12_clauseHere_282 ⟨Nat.le_of_ble_eq_true rfl, Nat.le_of_ble_eq_true rfl⟩) (fun r_198 f_199 Γ_201 H locs hw_197 hP hI hc_200 hcg_202 hS => ?_)
                    have hD : va_D A (va_pl L f_199) := tp_D hL hAL
                    have hfr := tp_fr2 hfr hc_200 (by decide)
                    have hgr : ∀ κ : tk_K, κ.1 ∉ ([39, 43, 44, 52, 45, 46, 53, 47, 54, 55, 56, 48, 49, 50, 51] : List Nat) → Γ_201 κ = Γ κ := tg_fr2 hgr hcg_202 (by decide)
                    obtain ⟨hE_203, hw_197⟩ := hw_197
                    have hE_203 : tl_J r_198 (((0 : Int) ≤ Γ_201 (39, 0, 0) 3 ∧ Γ_201 (39, 0, 0) 3 ≤ (50 : Int)) ∧ Γ_135 (39, 0, 0) 1 + 1 ≤ Γ_201 (39, 0, 0) 1 ∧ Γ_201 (51, 22, 0) = tgu (Γ_135 (51, 22, 0)) t0.toNat (Γ_201 (39, 0, 0) 3)) := hE_203
                    have hw_197 : Γ_201 (39, 0, 0) 0 = Γ_135 (39, 0, 0) 0 ∧ Γ_201 (39, 0, 0) 4 = Γ_135 (39, 0, 0) 4 ∧ Γ_201 (39, 0, 0) 5 = Γ_135 (39, 0, 0) 5 ∧ Γ_201 (39, 0, 0) 6 = Γ_135 (39, 0, 0) 6 ∧ Γ_201 (39, 0, 0) 7 = Γ_135 (39, 0, 0) 7 ∧ Γ_201 (39, 0, 0) 8 = Γ_135 (39, 0, 0) 8 ∧ Γ_135 (39, 0, 0) 1 ≤ Γ_201 (39, 0, 0) 1 ∧ Γ_201 (39, 0, 0) 1 ≤ T0 ∧ (∀ j : Nat, ¬ j = t0.toNat → Γ_201 (51, 22, 0) j = Γ_135 (51, 22, 0) j) ∧ (Γ_201 (51, 22, 0) t0.toNat = Γ_135 (51, 22, 0) t0.toNat ∨ ((0 : Int) ≤ Γ_201 (51, 22, 0) t0.toNat ∧ Γ_201 (51, 22, 0) t0.toNat ≤ (50 : Int))) := hw_197
                    have e9_SG : Γ_201 (43, 8800, 0) = Γ (43, 8800, 0) := (hcg_202 (43, 8800, 0) (by decide)).trans (hgM (43, 8800, 0) (by decide))
                    have f9_SG : Γ_201 (43, 8800, 0) t0.toNat = Γ (43, 8800, 0) t0.toNat := congrFun e9_SG _
                    have e9_ML : Γ_201 (44, 22, 0) = Γ (44, 22, 0) := (hcg_202 (44, 22, 0) (by decide)).trans (hgM (44, 22, 0) (by decide))
                    have f9_ML : Γ_201 (44, 22, 0) t0.toNat = Γ (44, 22, 0) t0.toNat := congrFun e9_ML _
                    have e9_MC : Γ_201 (45, 1056, 0) = Γ (45, 1056, 0) := (hcg_202 (45, 1056, 0) (by decide)).trans (hgM (45, 1056, 0) (by decide))
                    have f9_MC : Γ_201 (45, 1056, 0) t0.toNat = Γ (45, 1056, 0) t0.toNat := congrFun e9_MC _
                    have e9_MS : Γ_201 (46, 22, 0) = Γ (46, 22, 0) := (hcg_202 (46, 22, 0) (by decide)).trans (hgM (46, 22, 0) (by decide))
                    have f9_MS : Γ_201 (46, 22, 0) t0.toNat = Γ (46, 22, 0) t0.toNat := congrFun e9_MS _
                    have e9_ER : Γ_201 (47, 6, 0) = Γ (47, 6, 0) := (hcg_202 (47, 6, 0) (by decide)).trans (hgM (47, 6, 0) (by decide))
                    have f9_ER : Γ_201 (47, 6, 0) t0.toNat = Γ (47, 6, 0) t0.toNat := congrFun e9_ER _
                    have e9_BE : Γ_201 (48, 22, 0) = Γ (48, 22, 0) := (hcg_202 (48, 22, 0) (by decide)).trans (hgM (48, 22, 0) (by decide))
                    have f9_BE : Γ_201 (48, 22, 0) t0.toNat = Γ (48, 22, 0) t0.toNat := congrFun e9_BE _
                    have e9_GF : Γ_201 (49, 22, 0) = Γ (49, 22, 0) := (hcg_202 (49, 22, 0) (by decide)).trans (hgM (49, 22, 0) (by decide))
                    have f9_GF : Γ_201 (49, 22, 0) t0.toNat = Γ (49, 22, 0) t0.toNat := congrFun e9_GF _
                    have e9_GT : Γ_201 (50, 22, 0) = Γ (50, 22, 0) := (hcg_202 (50, 22, 0) (by decide)).trans (hgM (50, 22, 0) (by decide))
                    have f9_GT : Γ_201 (50, 22, 0) t0.toNat = Γ (50, 22, 0) t0.toNat := congrFun e9_GT _
                    have e8_WI : Γ_135 (51, 22, 0) = Γ (51, 22, 0) := hgM (51, 22, 0) (by decide)
                    have hrg9 : rg Γ Γ_201 t0 := ⟨(fun i9 _ => by rw [e9_SG]), (fun i9 _ => by rw [e9_MC]), fun j9 q9 => ⟨by rw [e9_MS], by rw [e9_ER], by rw [e9_BE], by rw [e9_GF], by rw [e9_GT], (hw_197.2.2.2.2.2.2.2.2.1 j9 (by omega)).trans (congrFun e8_WI j9)⟩⟩
                    have f8_WI : Γ_135 (51, 22, 0) t0.toNat = Γ (51, 22, 0) t0.toNat := congrFun e8_WI _
                    have hbb9 := hw_197.2.2.2.2.2.2.2.2.2
                    have hrb9 : rb Γ_201 t0 := ⟨by omega, (by rw [e9_SG, e9_MC, e9_MS]; exact hrb.2.1), fun q9 => (by have q8 := hrb.2.2.1 q9; have q7 := hrq.2.2.2.2.1 q9; omega), by omega, by omega, by omega, by omega⟩
                    have hrq9 : tl_J r_198 (rq Γ_201 t0) := hE_203.imp (fun _ => ⟨by omega, by omega, by omega, by omega, fun q9 => (by have q8 := hrq.2.2.2.2.1 q9; omega), by rw [e9_SG, e9_MC, e9_MS, e9_ML]; exact hrq.2.2.2.2.2⟩)
                    refine lv_goto (tgt := 307) hx hb dX12_clauseHere_285 (by decide) ?_
                    have hpo9 : tl_J (r_198 : Int32) (rq Γ_201 t0) ∧ Γ_201 (39, 0, 0) 0 = Γ (39, 0, 0) 0 ∧ Γ_201 (39, 0, 0) 4 = Γ (39, 0, 0) 4 ∧ Γ (39, 0, 0) 1 ≤ Γ_201 (39, 0, 0) 1 ∧ Γ_201 (39, 0, 0) 1 ≤ T0 ∧ rg Γ Γ_201 t0 ∧ rb Γ_201 t0 := ⟨hrq9, ⟨(by omega), (by omega), (by omega), (by omega), hrg9, hrb9⟩⟩
                    exact W.zret (ty := .boolean) (v := r_198) hx hb hr hE_203.nar (fun t ht hW => ⟨⟨_, (f_199, Γ_201), rfl, hpo9, by rw [ht]; exact hP, hI, hfr, hgr⟩, hS.F ht⟩) hS.2.2 dX12_clauseHere_307
                · have c_121 := hE_120.t c_121
                  refine lv_aload_n hx hb dX12_clauseHere_257 rfl (lv_at hl 2 rfl) ?_
                  refine lv_iload_n hx hb dX12_clauseHere_258 rfl (lv_at hl 1 rfl) ?_
                  have f_SG : Γ_118 (43, 8800, 0) t0.toNat = Γ (43, 8800, 0) t0.toNat := congrFun (hgM (43, 8800, 0) (by decide)) _
                  have f_ML : Γ_118 (44, 22, 0) t0.toNat = Γ (44, 22, 0) t0.toNat := congrFun (hgM (44, 22, 0) (by decide)) _
                  have f_MC : Γ_118 (45, 1056, 0) t0.toNat = Γ (45, 1056, 0) t0.toNat := congrFun (hgM (45, 1056, 0) (by decide)) _
                  have f_MS : Γ_118 (46, 22, 0) t0.toNat = Γ (46, 22, 0) t0.toNat := congrFun (hgM (46, 22, 0) (by decide)) _
                  have f_ER : Γ_118 (47, 6, 0) t0.toNat = Γ (47, 6, 0) t0.toNat := congrFun (hgM (47, 6, 0) (by decide)) _
                  have f_BE : Γ_118 (48, 22, 0) t0.toNat = Γ (48, 22, 0) t0.toNat := congrFun (hgM (48, 22, 0) (by decide)) _
                  have f_GF : Γ_118 (49, 22, 0) t0.toNat = Γ (49, 22, 0) t0.toNat := congrFun (hgM (49, 22, 0) (by decide)) _
                  have f_GT : Γ_118 (50, 22, 0) t0.toNat = Γ (50, 22, 0) t0.toNat := congrFun (hgM (50, 22, 0) (by decide)) _
                  have f_WI : Γ_118 (51, 22, 0) t0.toNat = Γ (51, 22, 0) t0.toNat := congrFun (hgM (51, 22, 0) (by decide)) _
                  obtain ⟨r_205, v_206, q_207, hf_204, hr_208, hv_209⟩ := (show tp_o_M L K 0 0 (Γ_118 (39, 0, 0)) (f_116 o) from hI.at ho)
                  refine tq_ciR hS (hAf _ hS.1) (tq_rV (As := [.int (v_18 1)]) (rest := []) ⟨hx, hb, hml, hown, hta⟩ (tp_P.pre hK hN hL hU hI hP) (tp_recv hK hP ho.1 hf_204 rfl) lk_X12_315 (r_X12_gapped l D cy H.size L K Γ_118 f_116 o (v_18 1) τ T0 t0 ho ((hgr _ (by decide)).trans ht) (by first | omega | (simp only [Int32.toInt_toInt64]; omega) | decide | assumption) (by first | omega | (simp only [Int32.toInt_toInt64]; omega) | decide | assumption) (by first | omega | (simp only [Int32.toInt_toInt64]; omega) | decide | assumption) (by first | omega | (simp only [Int32.toInt_toInt64]; omega) | decide | assumption) (by first | omega | (simp only [Int32.toInt_toInt64]; omega) | decide | assumption)) rfl rfl ⟨Nat.le_of_ble_eq_true rfl, Nat.le_of_ble_eq_true rfl⟩ rfl hl.1 rfl (Nat.le_of_ble_eq_true rfl) dX12_clauseHere_259 ⟨Nat.le_of_ble_eq_true rfl, Nat.le_of_ble_eq_true rfl⟩) (fun r_214 f_215 Γ_217 H locs hw_213 hP hI hc_216 hcg_218 hS => ?_)
                  have hD : va_D A (va_pl L f_215) := tp_D hL hAL
                  have hfr := tp_fr2 hfr hc_216 (by decide)
                  have hgr : ∀ κ : tk_K, κ.1 ∉ ([39, 43, 44, 52, 45, 46, 53, 47, 54, 55, 56, 48, 49, 50, 51] : List Nat) → Γ_217 κ = Γ κ := tg_fr2 hgr hcg_218 (by decide)
                  obtain ⟨hE_219, hw_213⟩ := hw_213
                  have hE_219 : tl_J r_214 (True) := hE_219
                  have hw_213 : Γ_217 (39, 0, 0) 0 = Γ_118 (39, 0, 0) 0 ∧ Γ_217 (39, 0, 0) 4 = Γ_118 (39, 0, 0) 4 ∧ Γ_217 (39, 0, 0) 5 = Γ_118 (39, 0, 0) 5 ∧ Γ_217 (39, 0, 0) 6 = Γ_118 (39, 0, 0) 6 ∧ Γ_217 (39, 0, 0) 7 = Γ_118 (39, 0, 0) 7 ∧ Γ_217 (39, 0, 0) 8 = Γ_118 (39, 0, 0) 8 ∧ Γ_118 (39, 0, 0) 1 ≤ Γ_217 (39, 0, 0) 1 ∧ Γ_217 (39, 0, 0) 1 ≤ T0 ∧ (∀ j : Nat, ¬ j = t0.toNat → Γ_217 (49, 22, 0) j = Γ_118 (49, 22, 0) j ∧ Γ_217 (50, 22, 0) j = Γ_118 (50, 22, 0) j) ∧ (-1 ≤ Γ_217 (49, 22, 0) t0.toNat ∧ Γ_217 (49, 22, 0) t0.toNat ≤ 299) ∧ (0 ≤ Γ_217 (50, 22, 0) t0.toNat ∧ Γ_217 (50, 22, 0) t0.toNat ≤ 299) := hw_213
                  have e9_SG : Γ_217 (43, 8800, 0) = Γ (43, 8800, 0) := (hcg_218 (43, 8800, 0) (by decide)).trans (hgM (43, 8800, 0) (by decide))
                  have f9_SG : Γ_217 (43, 8800, 0) t0.toNat = Γ (43, 8800, 0) t0.toNat := congrFun e9_SG _
                  have e9_ML : Γ_217 (44, 22, 0) = Γ (44, 22, 0) := (hcg_218 (44, 22, 0) (by decide)).trans (hgM (44, 22, 0) (by decide))
                  have f9_ML : Γ_217 (44, 22, 0) t0.toNat = Γ (44, 22, 0) t0.toNat := congrFun e9_ML _
                  have e9_MC : Γ_217 (45, 1056, 0) = Γ (45, 1056, 0) := (hcg_218 (45, 1056, 0) (by decide)).trans (hgM (45, 1056, 0) (by decide))
                  have f9_MC : Γ_217 (45, 1056, 0) t0.toNat = Γ (45, 1056, 0) t0.toNat := congrFun e9_MC _
                  have e9_MS : Γ_217 (46, 22, 0) = Γ (46, 22, 0) := (hcg_218 (46, 22, 0) (by decide)).trans (hgM (46, 22, 0) (by decide))
                  have f9_MS : Γ_217 (46, 22, 0) t0.toNat = Γ (46, 22, 0) t0.toNat := congrFun e9_MS _
                  have e9_ER : Γ_217 (47, 6, 0) = Γ (47, 6, 0) := (hcg_218 (47, 6, 0) (by decide)).trans (hgM (47, 6, 0) (by decide))
                  have f9_ER : Γ_217 (47, 6, 0) t0.toNat = Γ (47, 6, 0) t0.toNat := congrFun e9_ER _
                  have e9_BE : Γ_217 (48, 22, 0) = Γ (48, 22, 0) := (hcg_218 (48, 22, 0) (by decide)).trans (hgM (48, 22, 0) (by decide))
                  have f9_BE : Γ_217 (48, 22, 0) t0.toNat = Γ (48, 22, 0) t0.toNat := congrFun e9_BE _
                  have e8_GF : Γ_118 (49, 22, 0) = Γ (49, 22, 0) := hgM (49, 22, 0) (by decide)
                  have e8_GT : Γ_118 (50, 22, 0) = Γ (50, 22, 0) := hgM (50, 22, 0) (by decide)
                  have e9_WI : Γ_217 (51, 22, 0) = Γ (51, 22, 0) := (hcg_218 (51, 22, 0) (by decide)).trans (hgM (51, 22, 0) (by decide))
                  have f9_WI : Γ_217 (51, 22, 0) t0.toNat = Γ (51, 22, 0) t0.toNat := congrFun e9_WI _
                  have hrg9 : rg Γ Γ_217 t0 := ⟨(fun i9 _ => by rw [e9_SG]), (fun i9 _ => by rw [e9_MC]), fun j9 q9 => ⟨by rw [e9_MS], by rw [e9_ER], by rw [e9_BE], (hw_213.2.2.2.2.2.2.2.2.1 j9 (by omega)).1.trans (congrFun e8_GF j9), (hw_213.2.2.2.2.2.2.2.2.1 j9 (by omega)).2.trans (congrFun e8_GT j9), by rw [e9_WI]⟩⟩
                  have f8_GF : Γ_118 (49, 22, 0) t0.toNat = Γ (49, 22, 0) t0.toNat := congrFun e8_GF _
                  have f8_GT : Γ_118 (50, 22, 0) t0.toNat = Γ (50, 22, 0) t0.toNat := congrFun e8_GT _
                  have hgg9 := hw_213.2.2.2.2.2.2.2.2.2.1
                  have hgg8 := hw_213.2.2.2.2.2.2.2.2.2.2
                  have hrb9 : rb Γ_217 t0 := ⟨by omega, (by rw [e9_SG, e9_MC, e9_MS]; exact hrb.2.1), fun q9 => (by have q8 := hrb.2.2.1 q9; have q7 := hrq.2.2.2.2.1 q9; omega), by omega, by omega, by omega, by omega⟩
                  have hrq9 : tl_J r_214 (rq Γ_217 t0) := hE_219.imp (fun _ => ⟨by omega, by omega, by omega, by omega, fun q9 => (by have q8 := hrq.2.2.2.2.1 q9; omega), by rw [e9_SG, e9_MC, e9_MS, e9_ML]; exact hrq.2.2.2.2.2⟩)
                  have hpo9 : tl_J (r_214 : Int32) (rq Γ_217 t0) ∧ Γ_217 (39, 0, 0) 0 = Γ (39, 0, 0) 0 ∧ Γ_217 (39, 0, 0) 4 = Γ (39, 0, 0) 4 ∧ Γ (39, 0, 0) 1 ≤ Γ_217 (39, 0, 0) 1 ∧ Γ_217 (39, 0, 0) 1 ≤ T0 ∧ rg Γ Γ_217 t0 ∧ rb Γ_217 t0 := ⟨hrq9, ⟨(by omega), (by omega), (by omega), (by omega), hrg9, hrb9⟩⟩
                  exact W.zret (ty := .boolean) (v := r_214) hx hb hr hE_219.nar (fun t ht hW => ⟨⟨_, (f_215, Γ_217), rfl, hpo9, by rw [ht]; exact hP, hI, hfr, hgr⟩, hS.F ht⟩) hS.2.2 dX12_clauseHere_262
              · have c_104 := hE_103.t c_104
                refine lv_aload_n hx hb dX12_clauseHere_234 rfl (lv_at hl 2 rfl) ?_
                refine lv_aload_n hx hb dX12_clauseHere_235 rfl (lv_at hl 2 rfl) ?_
                obtain ⟨r_221, v_222, q_223, hf_220, hr_224, hv_225⟩ := (show tp_o_M L K 0 0 (Γ_101 (39, 0, 0)) (f_99 o) from hI.at ho)
                refine tp_get (cy := cy) (ci := 12) (v := .ref (r_221 12)) (C := RX12) (T := TX12) (N := 49) hx hb hta inlX12 hown hK hP ho.1 hf_220 rfl 13 (by decide) (hta _ wk_162) (fun _ h9 => h9) rfl dX12_clauseHere_236 ?_
                refine lv_iconst (v := 0) hx hb dX12_clauseHere_239 (by decide) ?_
                refine lv_bipush (v := 40) hx hb dX12_clauseHere_240 (by decide) ?_
                refine lv_iload_n hx hb dX12_clauseHere_242 rfl (lv_at hl 1 rfl) ?_
                have f_SG : Γ_101 (43, 8800, 0) t0.toNat = Γ (43, 8800, 0) t0.toNat := congrFun (hgM (43, 8800, 0) (by decide)) _
                have f_ML : Γ_101 (44, 22, 0) t0.toNat = Γ (44, 22, 0) t0.toNat := congrFun (hgM (44, 22, 0) (by decide)) _
                have f_MC : Γ_101 (45, 1056, 0) t0.toNat = Γ (45, 1056, 0) t0.toNat := congrFun (hgM (45, 1056, 0) (by decide)) _
                have f_MS : Γ_101 (46, 22, 0) t0.toNat = Γ (46, 22, 0) t0.toNat := congrFun (hgM (46, 22, 0) (by decide)) _
                have f_ER : Γ_101 (47, 6, 0) t0.toNat = Γ (47, 6, 0) t0.toNat := congrFun (hgM (47, 6, 0) (by decide)) _
                have f_BE : Γ_101 (48, 22, 0) t0.toNat = Γ (48, 22, 0) t0.toNat := congrFun (hgM (48, 22, 0) (by decide)) _
                have f_GF : Γ_101 (49, 22, 0) t0.toNat = Γ (49, 22, 0) t0.toNat := congrFun (hgM (49, 22, 0) (by decide)) _
                have f_GT : Γ_101 (50, 22, 0) t0.toNat = Γ (50, 22, 0) t0.toNat := congrFun (hgM (50, 22, 0) (by decide)) _
                have f_WI : Γ_101 (51, 22, 0) t0.toNat = Γ (51, 22, 0) t0.toNat := congrFun (hgM (51, 22, 0) (by decide)) _
                refine tq_ciR hS (hAf _ hS.1) (tq_rV (As := [.ref (r_221 12), .int 0, .int 40, .int (v_18 1)]) (rest := []) ⟨hx, hb, hml, hown, hta⟩ (tp_P.pre hK hN hL hU hI hP) (tp_recv hK hP ho.1 hf_220 rfl) lk_X12_284 (r_sets_MBENDS l D cy H.size L K Γ_101 f_99 o (r_221 12) 0 40 (v_18 1) τ T0 t0 ho (show tp_r L K 48 22 0 (r_221 12) from hr_224 12 (by decide)) ((hgr _ (by decide)).trans ht) (by first | omega | (simp only [Int32.toInt_toInt64]; omega) | decide | assumption) (by first | omega | (simp only [Int32.toInt_toInt64]; omega) | decide | assumption) (by first | omega | (simp only [Int32.toInt_toInt64]; omega) | decide | assumption)) rfl rfl ⟨Nat.le_of_ble_eq_true rfl, Nat.le_of_ble_eq_true rfl⟩ rfl hl.1 rfl (Nat.le_of_ble_eq_true rfl) dX12_clauseHere_243 ⟨Nat.le_of_ble_eq_true rfl, Nat.le_of_ble_eq_true rfl⟩) (fun r_230 f_231 Γ_233 H locs hw_229 hP hI hc_232 hcg_234 hS => ?_)
                have hD : va_D A (va_pl L f_231) := tp_D hL hAL
                have hfr := tp_fr2 hfr hc_232 (by decide)
                have hgr : ∀ κ : tk_K, κ.1 ∉ ([39, 43, 44, 52, 45, 46, 53, 47, 54, 55, 56, 48, 49, 50, 51] : List Nat) → Γ_233 κ = Γ κ := tg_fr2 hgr hcg_234 (by decide)
                obtain ⟨hE_235, hw_229⟩ := hw_229
                have hE_235 : tl_J r_230 (((0 : Int) ≤ Γ_233 (39, 0, 0) 3 ∧ Γ_233 (39, 0, 0) 3 ≤ (40 : Int)) ∧ Γ_101 (39, 0, 0) 1 + 1 ≤ Γ_233 (39, 0, 0) 1 ∧ Γ_233 (48, 22, 0) = tgu (Γ_101 (48, 22, 0)) t0.toNat (Γ_233 (39, 0, 0) 3)) := hE_235
                have hw_229 : Γ_233 (39, 0, 0) 0 = Γ_101 (39, 0, 0) 0 ∧ Γ_233 (39, 0, 0) 4 = Γ_101 (39, 0, 0) 4 ∧ Γ_233 (39, 0, 0) 5 = Γ_101 (39, 0, 0) 5 ∧ Γ_233 (39, 0, 0) 6 = Γ_101 (39, 0, 0) 6 ∧ Γ_233 (39, 0, 0) 7 = Γ_101 (39, 0, 0) 7 ∧ Γ_233 (39, 0, 0) 8 = Γ_101 (39, 0, 0) 8 ∧ Γ_101 (39, 0, 0) 1 ≤ Γ_233 (39, 0, 0) 1 ∧ Γ_233 (39, 0, 0) 1 ≤ T0 ∧ (∀ j : Nat, ¬ j = t0.toNat → Γ_233 (48, 22, 0) j = Γ_101 (48, 22, 0) j) ∧ (Γ_233 (48, 22, 0) t0.toNat = Γ_101 (48, 22, 0) t0.toNat ∨ ((0 : Int) ≤ Γ_233 (48, 22, 0) t0.toNat ∧ Γ_233 (48, 22, 0) t0.toNat ≤ (40 : Int))) := hw_229
                have e9_SG : Γ_233 (43, 8800, 0) = Γ (43, 8800, 0) := (hcg_234 (43, 8800, 0) (by decide)).trans (hgM (43, 8800, 0) (by decide))
                have f9_SG : Γ_233 (43, 8800, 0) t0.toNat = Γ (43, 8800, 0) t0.toNat := congrFun e9_SG _
                have e9_ML : Γ_233 (44, 22, 0) = Γ (44, 22, 0) := (hcg_234 (44, 22, 0) (by decide)).trans (hgM (44, 22, 0) (by decide))
                have f9_ML : Γ_233 (44, 22, 0) t0.toNat = Γ (44, 22, 0) t0.toNat := congrFun e9_ML _
                have e9_MC : Γ_233 (45, 1056, 0) = Γ (45, 1056, 0) := (hcg_234 (45, 1056, 0) (by decide)).trans (hgM (45, 1056, 0) (by decide))
                have f9_MC : Γ_233 (45, 1056, 0) t0.toNat = Γ (45, 1056, 0) t0.toNat := congrFun e9_MC _
                have e9_MS : Γ_233 (46, 22, 0) = Γ (46, 22, 0) := (hcg_234 (46, 22, 0) (by decide)).trans (hgM (46, 22, 0) (by decide))
                have f9_MS : Γ_233 (46, 22, 0) t0.toNat = Γ (46, 22, 0) t0.toNat := congrFun e9_MS _
                have e9_ER : Γ_233 (47, 6, 0) = Γ (47, 6, 0) := (hcg_234 (47, 6, 0) (by decide)).trans (hgM (47, 6, 0) (by decide))
                have f9_ER : Γ_233 (47, 6, 0) t0.toNat = Γ (47, 6, 0) t0.toNat := congrFun e9_ER _
                have e8_BE : Γ_101 (48, 22, 0) = Γ (48, 22, 0) := hgM (48, 22, 0) (by decide)
                have e9_GF : Γ_233 (49, 22, 0) = Γ (49, 22, 0) := (hcg_234 (49, 22, 0) (by decide)).trans (hgM (49, 22, 0) (by decide))
                have f9_GF : Γ_233 (49, 22, 0) t0.toNat = Γ (49, 22, 0) t0.toNat := congrFun e9_GF _
                have e9_GT : Γ_233 (50, 22, 0) = Γ (50, 22, 0) := (hcg_234 (50, 22, 0) (by decide)).trans (hgM (50, 22, 0) (by decide))
                have f9_GT : Γ_233 (50, 22, 0) t0.toNat = Γ (50, 22, 0) t0.toNat := congrFun e9_GT _
                have e9_WI : Γ_233 (51, 22, 0) = Γ (51, 22, 0) := (hcg_234 (51, 22, 0) (by decide)).trans (hgM (51, 22, 0) (by decide))
                have f9_WI : Γ_233 (51, 22, 0) t0.toNat = Γ (51, 22, 0) t0.toNat := congrFun e9_WI _
                have hrg9 : rg Γ Γ_233 t0 := ⟨(fun i9 _ => by rw [e9_SG]), (fun i9 _ => by rw [e9_MC]), fun j9 q9 => ⟨by rw [e9_MS], by rw [e9_ER], (hw_229.2.2.2.2.2.2.2.2.1 j9 (by omega)).trans (congrFun e8_BE j9), by rw [e9_GF], by rw [e9_GT], by rw [e9_WI]⟩⟩
                have f8_BE : Γ_101 (48, 22, 0) t0.toNat = Γ (48, 22, 0) t0.toNat := congrFun e8_BE _
                have hbb9 := hw_229.2.2.2.2.2.2.2.2.2
                have hrb9 : rb Γ_233 t0 := ⟨by omega, (by rw [e9_SG, e9_MC, e9_MS]; exact hrb.2.1), fun q9 => (by have q8 := hrb.2.2.1 q9; have q7 := hrq.2.2.2.2.1 q9; omega), by omega, by omega, by omega, by omega⟩
                have hrq9 : tl_J r_230 (rq Γ_233 t0) := hE_235.imp (fun _ => ⟨by omega, by omega, by omega, by omega, fun q9 => (by have q8 := hrq.2.2.2.2.1 q9; omega), by rw [e9_SG, e9_MC, e9_MS, e9_ML]; exact hrq.2.2.2.2.2⟩)
                have hpo9 : tl_J (r_230 : Int32) (rq Γ_233 t0) ∧ Γ_233 (39, 0, 0) 0 = Γ (39, 0, 0) 0 ∧ Γ_233 (39, 0, 0) 4 = Γ (39, 0, 0) 4 ∧ Γ (39, 0, 0) 1 ≤ Γ_233 (39, 0, 0) 1 ∧ Γ_233 (39, 0, 0) 1 ≤ T0 ∧ rg Γ Γ_233 t0 ∧ rb Γ_233 t0 := ⟨hrq9, ⟨(by omega), (by omega), (by omega), (by omega), hrg9, hrb9⟩⟩
                exact W.zret (ty := .boolean) (v := r_230) hx hb hr hE_235.nar (fun t ht hW => ⟨⟨_, (f_231, Γ_233), rfl, hpo9, by rw [ht]; exact hP, hI, hfr, hgr⟩, hS.F ht⟩) hS.2.2 dX12_clauseHere_246
            · have c_87 := hE_86.t c_87
              refine lv_aload_n hx hb dX12_clauseHere_219 rfl (lv_at hl 2 rfl) ?_
              have f_SG : Γ_84 (43, 8800, 0) t0.toNat = Γ (43, 8800, 0) t0.toNat := congrFun (hgM (43, 8800, 0) (by decide)) _
              have f_ML : Γ_84 (44, 22, 0) t0.toNat = Γ (44, 22, 0) t0.toNat := congrFun (hgM (44, 22, 0) (by decide)) _
              have f_MC : Γ_84 (45, 1056, 0) t0.toNat = Γ (45, 1056, 0) t0.toNat := congrFun (hgM (45, 1056, 0) (by decide)) _
              have f_MS : Γ_84 (46, 22, 0) t0.toNat = Γ (46, 22, 0) t0.toNat := congrFun (hgM (46, 22, 0) (by decide)) _
              have f_ER : Γ_84 (47, 6, 0) t0.toNat = Γ (47, 6, 0) t0.toNat := congrFun (hgM (47, 6, 0) (by decide)) _
              have f_BE : Γ_84 (48, 22, 0) t0.toNat = Γ (48, 22, 0) t0.toNat := congrFun (hgM (48, 22, 0) (by decide)) _
              have f_GF : Γ_84 (49, 22, 0) t0.toNat = Γ (49, 22, 0) t0.toNat := congrFun (hgM (49, 22, 0) (by decide)) _
              have f_GT : Γ_84 (50, 22, 0) t0.toNat = Γ (50, 22, 0) t0.toNat := congrFun (hgM (50, 22, 0) (by decide)) _
              have f_WI : Γ_84 (51, 22, 0) t0.toNat = Γ (51, 22, 0) t0.toNat := congrFun (hgM (51, 22, 0) (by decide)) _
              obtain ⟨r_237, v_238, q_239, hf_236, hr_240, hv_241⟩ := (show tp_o_M L K 0 0 (Γ_84 (39, 0, 0)) (f_82 o) from hI.at ho)
              refine tq_ciR hS (hAf _ hS.1) (tq_rV (As := []) (rest := []) ⟨hx, hb, hml, hown, hta⟩ (tp_P.pre hK hN hL hU hI hP) (tp_recv hK hP ho.1 hf_236 rfl) lk_X12_312 (r_X12_eaten l D cy H.size L K Γ_84 f_82 o τ T0 t0 ho ((hgr _ (by decide)).trans ht) (by first | omega | (simp only [Int32.toInt_toInt64]; omega) | decide | assumption) (by first | omega | (simp only [Int32.toInt_toInt64]; omega) | decide | assumption) (by first | omega | (simp only [Int32.toInt_toInt64]; omega) | decide | assumption) (hH.eats (by assumption)) (by have q8 := hrb.2.2.1 (hH.eats (by assumption)); have q7 := hrq.2.2.2.2.1 (hH.eats (by assumption)); omega)) rfl rfl ⟨Nat.le_of_ble_eq_true rfl, Nat.le_of_ble_eq_true rfl⟩ rfl hl.1 rfl (Nat.le_of_ble_eq_true rfl) dX12_clauseHere_220 ⟨Nat.le_of_ble_eq_true rfl, Nat.le_of_ble_eq_true rfl⟩) (fun r_246 f_247 Γ_249 H locs hw_245 hP hI hc_248 hcg_250 hS => ?_)
              have hD : va_D A (va_pl L f_247) := tp_D hL hAL
              have hfr := tp_fr2 hfr hc_248 (by decide)
              have hgr : ∀ κ : tk_K, κ.1 ∉ ([39, 43, 44, 52, 45, 46, 53, 47, 54, 55, 56, 48, 49, 50, 51] : List Nat) → Γ_249 κ = Γ κ := tg_fr2 hgr hcg_250 (by decide)
              obtain ⟨hE_251, hw_245⟩ := hw_245
              have hE_251 : tl_J r_246 (Γ_249 (47, 6, 0) = tgu (Γ_84 (47, 6, 0)) t0.toNat (Γ_84 (47, 6, 0) t0.toNat + 1)) := hE_251
              have hw_245 : Γ_249 (39, 0, 0) 0 = Γ_84 (39, 0, 0) 0 ∧ Γ_249 (39, 0, 0) 4 = Γ_84 (39, 0, 0) 4 ∧ Γ_249 (39, 0, 0) 5 = Γ_84 (39, 0, 0) 5 ∧ Γ_249 (39, 0, 0) 6 = Γ_84 (39, 0, 0) 6 ∧ Γ_249 (39, 0, 0) 7 = Γ_84 (39, 0, 0) 7 ∧ Γ_249 (39, 0, 0) 8 = Γ_84 (39, 0, 0) 8 ∧ Γ_84 (39, 0, 0) 1 ≤ Γ_249 (39, 0, 0) 1 ∧ Γ_249 (39, 0, 0) 1 ≤ T0 ∧ (∀ j : Nat, ¬ j = t0.toNat → Γ_249 (47, 6, 0) j = Γ_84 (47, 6, 0) j) ∧ (Γ_84 (47, 6, 0) t0.toNat ≤ Γ_249 (47, 6, 0) t0.toNat ∧ Γ_249 (47, 6, 0) t0.toNat ≤ Γ_84 (47, 6, 0) t0.toNat + 1) := hw_245
              have e9_SG : Γ_249 (43, 8800, 0) = Γ (43, 8800, 0) := (hcg_250 (43, 8800, 0) (by decide)).trans (hgM (43, 8800, 0) (by decide))
              have f9_SG : Γ_249 (43, 8800, 0) t0.toNat = Γ (43, 8800, 0) t0.toNat := congrFun e9_SG _
              have e9_ML : Γ_249 (44, 22, 0) = Γ (44, 22, 0) := (hcg_250 (44, 22, 0) (by decide)).trans (hgM (44, 22, 0) (by decide))
              have f9_ML : Γ_249 (44, 22, 0) t0.toNat = Γ (44, 22, 0) t0.toNat := congrFun e9_ML _
              have e9_MC : Γ_249 (45, 1056, 0) = Γ (45, 1056, 0) := (hcg_250 (45, 1056, 0) (by decide)).trans (hgM (45, 1056, 0) (by decide))
              have f9_MC : Γ_249 (45, 1056, 0) t0.toNat = Γ (45, 1056, 0) t0.toNat := congrFun e9_MC _
              have e9_MS : Γ_249 (46, 22, 0) = Γ (46, 22, 0) := (hcg_250 (46, 22, 0) (by decide)).trans (hgM (46, 22, 0) (by decide))
              have f9_MS : Γ_249 (46, 22, 0) t0.toNat = Γ (46, 22, 0) t0.toNat := congrFun e9_MS _
              have e8_ER : Γ_84 (47, 6, 0) = Γ (47, 6, 0) := hgM (47, 6, 0) (by decide)
              have e9_BE : Γ_249 (48, 22, 0) = Γ (48, 22, 0) := (hcg_250 (48, 22, 0) (by decide)).trans (hgM (48, 22, 0) (by decide))
              have f9_BE : Γ_249 (48, 22, 0) t0.toNat = Γ (48, 22, 0) t0.toNat := congrFun e9_BE _
              have e9_GF : Γ_249 (49, 22, 0) = Γ (49, 22, 0) := (hcg_250 (49, 22, 0) (by decide)).trans (hgM (49, 22, 0) (by decide))
              have f9_GF : Γ_249 (49, 22, 0) t0.toNat = Γ (49, 22, 0) t0.toNat := congrFun e9_GF _
              have e9_GT : Γ_249 (50, 22, 0) = Γ (50, 22, 0) := (hcg_250 (50, 22, 0) (by decide)).trans (hgM (50, 22, 0) (by decide))
              have f9_GT : Γ_249 (50, 22, 0) t0.toNat = Γ (50, 22, 0) t0.toNat := congrFun e9_GT _
              have e9_WI : Γ_249 (51, 22, 0) = Γ (51, 22, 0) := (hcg_250 (51, 22, 0) (by decide)).trans (hgM (51, 22, 0) (by decide))
              have f9_WI : Γ_249 (51, 22, 0) t0.toNat = Γ (51, 22, 0) t0.toNat := congrFun e9_WI _
              have hrg9 : rg Γ Γ_249 t0 := ⟨(fun i9 _ => by rw [e9_SG]), (fun i9 _ => by rw [e9_MC]), fun j9 q9 => ⟨by rw [e9_MS], (hw_245.2.2.2.2.2.2.2.2.1 j9 (by omega)).trans (congrFun e8_ER j9), by rw [e9_BE], by rw [e9_GF], by rw [e9_GT], by rw [e9_WI]⟩⟩
              have f8_ER : Γ_84 (47, 6, 0) t0.toNat = Γ (47, 6, 0) t0.toNat := congrFun e8_ER _
              have hbb9 := hw_245.2.2.2.2.2.2.2.2.2
              have hrb9 : rb Γ_249 t0 := ⟨by omega, (by rw [e9_SG, e9_MC, e9_MS]; exact hrb.2.1), fun q9 => (by have q8 := hrb.2.2.1 q9; have q7 := hrq.2.2.2.2.1 q9; omega), by omega, by omega, by omega, by omega⟩
              have hrq9 : tl_J r_246 (rq Γ_249 t0) := hE_251.imp (fun _ => ⟨by omega, by omega, by omega, by omega, fun q9 => (by have q8 := hrq.2.2.2.2.1 q9; omega), by rw [e9_SG, e9_MC, e9_MS, e9_ML]; exact hrq.2.2.2.2.2⟩)
              have hpo9 : tl_J (r_246 : Int32) (rq Γ_249 t0) ∧ Γ_249 (39, 0, 0) 0 = Γ (39, 0, 0) 0 ∧ Γ_249 (39, 0, 0) 4 = Γ (39, 0, 0) 4 ∧ Γ (39, 0, 0) 1 ≤ Γ_249 (39, 0, 0) 1 ∧ Γ_249 (39, 0, 0) 1 ≤ T0 ∧ rg Γ Γ_249 t0 ∧ rb Γ_249 t0 := ⟨hrq9, ⟨(by omega), (by omega), (by omega), (by omega), hrg9, hrb9⟩⟩
              exact W.zret (ty := .boolean) (v := r_246) hx hb hr hE_251.nar (fun t ht hW => ⟨⟨_, (f_247, Γ_249), rfl, hpo9, by rw [ht]; exact hP, hI, hfr, hgr⟩, hS.F ht⟩) hS.2.2 dX12_clauseHere_223
          · have c_70 := hE_69.t c_70
            refine lv_aload_n hx hb dX12_clauseHere_195 rfl (lv_at hl 2 rfl) ?_
            refine lv_aload_n hx hb dX12_clauseHere_196 rfl (lv_at hl 2 rfl) ?_
            obtain ⟨r_253, v_254, q_255, hf_252, hr_256, hv_257⟩ := (show tp_o_M L K 0 0 (Γ_67 (39, 0, 0)) (f_65 o) from hI.at ho)
            refine tp_get (cy := cy) (ci := 12) (v := .ref (r_253 11)) (C := RX12) (T := TX12) (N := 49) hx hb hta inlX12 hown hK hP ho.1 hf_252 rfl 12 (by decide) (hta _ wk_161) (fun _ h9 => h9) rfl dX12_clauseHere_197 ?_
            refine lv_iconst (v := 0) hx hb dX12_clauseHere_200 (by decide) ?_
            refine lv_sipush (v := 9999) hx hb dX12_clauseHere_201 (by decide) ?_
            refine lv_iload_n hx hb dX12_clauseHere_204 rfl (lv_at hl 1 rfl) ?_
            have f_SG : Γ_67 (43, 8800, 0) t0.toNat = Γ (43, 8800, 0) t0.toNat := congrFun (hgM (43, 8800, 0) (by decide)) _
            have f_ML : Γ_67 (44, 22, 0) t0.toNat = Γ (44, 22, 0) t0.toNat := congrFun (hgM (44, 22, 0) (by decide)) _
            have f_MC : Γ_67 (45, 1056, 0) t0.toNat = Γ (45, 1056, 0) t0.toNat := congrFun (hgM (45, 1056, 0) (by decide)) _
            have f_MS : Γ_67 (46, 22, 0) t0.toNat = Γ (46, 22, 0) t0.toNat := congrFun (hgM (46, 22, 0) (by decide)) _
            have f_ER : Γ_67 (47, 6, 0) t0.toNat = Γ (47, 6, 0) t0.toNat := congrFun (hgM (47, 6, 0) (by decide)) _
            have f_BE : Γ_67 (48, 22, 0) t0.toNat = Γ (48, 22, 0) t0.toNat := congrFun (hgM (48, 22, 0) (by decide)) _
            have f_GF : Γ_67 (49, 22, 0) t0.toNat = Γ (49, 22, 0) t0.toNat := congrFun (hgM (49, 22, 0) (by decide)) _
            have f_GT : Γ_67 (50, 22, 0) t0.toNat = Γ (50, 22, 0) t0.toNat := congrFun (hgM (50, 22, 0) (by decide)) _
            have f_WI : Γ_67 (51, 22, 0) t0.toNat = Γ (51, 22, 0) t0.toNat := congrFun (hgM (51, 22, 0) (by decide)) _
            refine tq_ciR hS (hAf _ hS.1) (tq_rV (As := [.ref (r_253 11), .int 0, .int 9999, .int (v_18 1)]) (rest := []) ⟨hx, hb, hml, hown, hta⟩ (tp_P.pre hK hN hL hU hI hP) (tp_recv hK hP ho.1 hf_252 rfl) lk_X12_284 (r_sets_MNOISE l D cy H.size L K Γ_67 f_65 o (r_253 11) 0 9999 (v_18 1) τ T0 t0 ho (show tp_r L K 56 22 0 (r_253 11) from hr_256 11 (by decide)) ((hgr _ (by decide)).trans ht) (by first | omega | (simp only [Int32.toInt_toInt64]; omega) | decide | assumption) (by first | omega | (simp only [Int32.toInt_toInt64]; omega) | decide | assumption) (by first | omega | (simp only [Int32.toInt_toInt64]; omega) | decide | assumption)) rfl rfl ⟨Nat.le_of_ble_eq_true rfl, Nat.le_of_ble_eq_true rfl⟩ rfl hl.1 rfl (Nat.le_of_ble_eq_true rfl) dX12_clauseHere_205 ⟨Nat.le_of_ble_eq_true rfl, Nat.le_of_ble_eq_true rfl⟩) (fun r_262 f_263 Γ_265 H locs hw_261 hP hI hc_264 hcg_266 hS => ?_)
            have hD : va_D A (va_pl L f_263) := tp_D hL hAL
            have hfr := tp_fr2 hfr hc_264 (by decide)
            have hgr : ∀ κ : tk_K, κ.1 ∉ ([39, 43, 44, 52, 45, 46, 53, 47, 54, 55, 56, 48, 49, 50, 51] : List Nat) → Γ_265 κ = Γ κ := tg_fr2 hgr hcg_266 (by decide)
            obtain ⟨hE_267, hw_261⟩ := hw_261
            have hE_267 : tl_J r_262 (((0 : Int) ≤ Γ_265 (39, 0, 0) 3 ∧ Γ_265 (39, 0, 0) 3 ≤ (9999 : Int)) ∧ Γ_67 (39, 0, 0) 1 + 1 ≤ Γ_265 (39, 0, 0) 1) := hE_267
            have hw_261 : Γ_265 (39, 0, 0) 0 = Γ_67 (39, 0, 0) 0 ∧ Γ_265 (39, 0, 0) 4 = Γ_67 (39, 0, 0) 4 ∧ Γ_265 (39, 0, 0) 5 = Γ_67 (39, 0, 0) 5 ∧ Γ_265 (39, 0, 0) 6 = Γ_67 (39, 0, 0) 6 ∧ Γ_265 (39, 0, 0) 7 = Γ_67 (39, 0, 0) 7 ∧ Γ_265 (39, 0, 0) 8 = Γ_67 (39, 0, 0) 8 ∧ Γ_67 (39, 0, 0) 1 ≤ Γ_265 (39, 0, 0) 1 ∧ Γ_265 (39, 0, 0) 1 ≤ T0 := hw_261
            have e9_SG : Γ_265 (43, 8800, 0) = Γ (43, 8800, 0) := (hcg_266 (43, 8800, 0) (by decide)).trans (hgM (43, 8800, 0) (by decide))
            have f9_SG : Γ_265 (43, 8800, 0) t0.toNat = Γ (43, 8800, 0) t0.toNat := congrFun e9_SG _
            have e9_ML : Γ_265 (44, 22, 0) = Γ (44, 22, 0) := (hcg_266 (44, 22, 0) (by decide)).trans (hgM (44, 22, 0) (by decide))
            have f9_ML : Γ_265 (44, 22, 0) t0.toNat = Γ (44, 22, 0) t0.toNat := congrFun e9_ML _
            have e9_MC : Γ_265 (45, 1056, 0) = Γ (45, 1056, 0) := (hcg_266 (45, 1056, 0) (by decide)).trans (hgM (45, 1056, 0) (by decide))
            have f9_MC : Γ_265 (45, 1056, 0) t0.toNat = Γ (45, 1056, 0) t0.toNat := congrFun e9_MC _
            have e9_MS : Γ_265 (46, 22, 0) = Γ (46, 22, 0) := (hcg_266 (46, 22, 0) (by decide)).trans (hgM (46, 22, 0) (by decide))
            have f9_MS : Γ_265 (46, 22, 0) t0.toNat = Γ (46, 22, 0) t0.toNat := congrFun e9_MS _
            have e9_ER : Γ_265 (47, 6, 0) = Γ (47, 6, 0) := (hcg_266 (47, 6, 0) (by decide)).trans (hgM (47, 6, 0) (by decide))
            have f9_ER : Γ_265 (47, 6, 0) t0.toNat = Γ (47, 6, 0) t0.toNat := congrFun e9_ER _
            have e9_BE : Γ_265 (48, 22, 0) = Γ (48, 22, 0) := (hcg_266 (48, 22, 0) (by decide)).trans (hgM (48, 22, 0) (by decide))
            have f9_BE : Γ_265 (48, 22, 0) t0.toNat = Γ (48, 22, 0) t0.toNat := congrFun e9_BE _
            have e9_GF : Γ_265 (49, 22, 0) = Γ (49, 22, 0) := (hcg_266 (49, 22, 0) (by decide)).trans (hgM (49, 22, 0) (by decide))
            have f9_GF : Γ_265 (49, 22, 0) t0.toNat = Γ (49, 22, 0) t0.toNat := congrFun e9_GF _
            have e9_GT : Γ_265 (50, 22, 0) = Γ (50, 22, 0) := (hcg_266 (50, 22, 0) (by decide)).trans (hgM (50, 22, 0) (by decide))
            have f9_GT : Γ_265 (50, 22, 0) t0.toNat = Γ (50, 22, 0) t0.toNat := congrFun e9_GT _
            have e9_WI : Γ_265 (51, 22, 0) = Γ (51, 22, 0) := (hcg_266 (51, 22, 0) (by decide)).trans (hgM (51, 22, 0) (by decide))
            have f9_WI : Γ_265 (51, 22, 0) t0.toNat = Γ (51, 22, 0) t0.toNat := congrFun e9_WI _
            have hrg9 : rg Γ Γ_265 t0 := ⟨(fun i9 _ => by rw [e9_SG]), (fun i9 _ => by rw [e9_MC]), fun j9 q9 => ⟨by rw [e9_MS], by rw [e9_ER], by rw [e9_BE], by rw [e9_GF], by rw [e9_GT], by rw [e9_WI]⟩⟩
            have hrb9 : rb Γ_265 t0 := ⟨by omega, (by rw [e9_SG, e9_MC, e9_MS]; exact hrb.2.1), fun q9 => (by have q8 := hrb.2.2.1 q9; have q7 := hrq.2.2.2.2.1 q9; omega), by omega, by omega, by omega, by omega⟩
            have hrq9 : tl_J r_262 (rq Γ_265 t0) := hE_267.imp (fun _ => ⟨by omega, by omega, by omega, by omega, fun q9 => (by have q8 := hrq.2.2.2.2.1 q9; omega), by rw [e9_SG, e9_MC, e9_MS, e9_ML]; exact hrq.2.2.2.2.2⟩)
            have hpo9 : tl_J (r_262 : Int32) (rq Γ_265 t0) ∧ Γ_265 (39, 0, 0) 0 = Γ (39, 0, 0) 0 ∧ Γ_265 (39, 0, 0) 4 = Γ (39, 0, 0) 4 ∧ Γ (39, 0, 0) 1 ≤ Γ_265 (39, 0, 0) 1 ∧ Γ_265 (39, 0, 0) 1 ≤ T0 ∧ rg Γ Γ_265 t0 ∧ rb Γ_265 t0 := ⟨hrq9, ⟨(by omega), (by omega), (by omega), (by omega), hrg9, hrb9⟩⟩
            exact W.zret (ty := .boolean) (v := r_262) hx hb hr hE_267.nar (fun t ht hW => ⟨⟨_, (f_263, Γ_265), rfl, hpo9, by rw [ht]; exact hP, hI, hfr, hgr⟩, hS.F ht⟩) hS.2.2 dX12_clauseHere_208
        · have c_53 := hE_52.t c_53
          refine lv_aload_n hx hb dX12_clauseHere_179 rfl (lv_at hl 2 rfl) ?_
          refine lv_iload_n hx hb dX12_clauseHere_180 rfl (lv_at hl 1 rfl) ?_
          have f_SG : Γ_50 (43, 8800, 0) t0.toNat = Γ (43, 8800, 0) t0.toNat := congrFun (hgM (43, 8800, 0) (by decide)) _
          have f_ML : Γ_50 (44, 22, 0) t0.toNat = Γ (44, 22, 0) t0.toNat := congrFun (hgM (44, 22, 0) (by decide)) _
          have f_MC : Γ_50 (45, 1056, 0) t0.toNat = Γ (45, 1056, 0) t0.toNat := congrFun (hgM (45, 1056, 0) (by decide)) _
          have f_MS : Γ_50 (46, 22, 0) t0.toNat = Γ (46, 22, 0) t0.toNat := congrFun (hgM (46, 22, 0) (by decide)) _
          have f_ER : Γ_50 (47, 6, 0) t0.toNat = Γ (47, 6, 0) t0.toNat := congrFun (hgM (47, 6, 0) (by decide)) _
          have f_BE : Γ_50 (48, 22, 0) t0.toNat = Γ (48, 22, 0) t0.toNat := congrFun (hgM (48, 22, 0) (by decide)) _
          have f_GF : Γ_50 (49, 22, 0) t0.toNat = Γ (49, 22, 0) t0.toNat := congrFun (hgM (49, 22, 0) (by decide)) _
          have f_GT : Γ_50 (50, 22, 0) t0.toNat = Γ (50, 22, 0) t0.toNat := congrFun (hgM (50, 22, 0) (by decide)) _
          have f_WI : Γ_50 (51, 22, 0) t0.toNat = Γ (51, 22, 0) t0.toNat := congrFun (hgM (51, 22, 0) (by decide)) _
          obtain ⟨r_269, v_270, q_271, hf_268, hr_272, hv_273⟩ := (show tp_o_M L K 0 0 (Γ_50 (39, 0, 0)) (f_48 o) from hI.at ho)
          refine tq_ciR hS (hAf _ hS.1) (tq_rV (As := [.int (v_18 1)]) (rest := []) ⟨hx, hb, hml, hown, hta⟩ (tp_P.pre hK hN hL hU hI hP) (tp_recv hK hP ho.1 hf_268 rfl) lk_X12_309 (r_X12_rippled l D cy H.size L K Γ_50 f_48 o (v_18 1) τ T0 t0 ho ((hgr _ (by decide)).trans ht) (by first | omega | (simp only [Int32.toInt_toInt64]; omega) | decide | assumption) (by first | omega | (simp only [Int32.toInt_toInt64]; omega) | decide | assumption) (by first | omega | (simp only [Int32.toInt_toInt64]; omega) | decide | assumption)) rfl rfl ⟨Nat.le_of_ble_eq_true rfl, Nat.le_of_ble_eq_true rfl⟩ rfl hl.1 rfl (Nat.le_of_ble_eq_true rfl) dX12_clauseHere_181 ⟨Nat.le_of_ble_eq_true rfl, Nat.le_of_ble_eq_true rfl⟩) (fun r_278 f_279 Γ_281 H locs hw_277 hP hI hc_280 hcg_282 hS => ?_)
          have hD : va_D A (va_pl L f_279) := tp_D hL hAL
          have hfr := tp_fr2 hfr hc_280 (by decide)
          have hgr : ∀ κ : tk_K, κ.1 ∉ ([39, 43, 44, 52, 45, 46, 53, 47, 54, 55, 56, 48, 49, 50, 51] : List Nat) → Γ_281 κ = Γ κ := tg_fr2 hgr hcg_282 (by decide)
          obtain ⟨hE_283, hw_277⟩ := hw_277
          have hE_283 : tl_J r_278 (Γ_50 (39, 0, 0) 1 ≤ Γ_281 (39, 0, 0) 1) := hE_283
          have hw_277 : Γ_281 (39, 0, 0) 0 = Γ_50 (39, 0, 0) 0 ∧ Γ_281 (39, 0, 0) 4 = Γ_50 (39, 0, 0) 4 ∧ Γ_281 (39, 0, 0) 5 = Γ_50 (39, 0, 0) 5 ∧ Γ_281 (39, 0, 0) 6 = Γ_50 (39, 0, 0) 6 ∧ Γ_281 (39, 0, 0) 7 = Γ_50 (39, 0, 0) 7 ∧ Γ_281 (39, 0, 0) 8 = Γ_50 (39, 0, 0) 8 ∧ Γ_50 (39, 0, 0) 1 ≤ Γ_281 (39, 0, 0) 1 ∧ Γ_281 (39, 0, 0) 1 ≤ T0 := hw_277
          have e9_SG : Γ_281 (43, 8800, 0) = Γ (43, 8800, 0) := (hcg_282 (43, 8800, 0) (by decide)).trans (hgM (43, 8800, 0) (by decide))
          have f9_SG : Γ_281 (43, 8800, 0) t0.toNat = Γ (43, 8800, 0) t0.toNat := congrFun e9_SG _
          have e9_ML : Γ_281 (44, 22, 0) = Γ (44, 22, 0) := (hcg_282 (44, 22, 0) (by decide)).trans (hgM (44, 22, 0) (by decide))
          have f9_ML : Γ_281 (44, 22, 0) t0.toNat = Γ (44, 22, 0) t0.toNat := congrFun e9_ML _
          have e9_MC : Γ_281 (45, 1056, 0) = Γ (45, 1056, 0) := (hcg_282 (45, 1056, 0) (by decide)).trans (hgM (45, 1056, 0) (by decide))
          have f9_MC : Γ_281 (45, 1056, 0) t0.toNat = Γ (45, 1056, 0) t0.toNat := congrFun e9_MC _
          have e9_MS : Γ_281 (46, 22, 0) = Γ (46, 22, 0) := (hcg_282 (46, 22, 0) (by decide)).trans (hgM (46, 22, 0) (by decide))
          have f9_MS : Γ_281 (46, 22, 0) t0.toNat = Γ (46, 22, 0) t0.toNat := congrFun e9_MS _
          have e9_ER : Γ_281 (47, 6, 0) = Γ (47, 6, 0) := (hcg_282 (47, 6, 0) (by decide)).trans (hgM (47, 6, 0) (by decide))
          have f9_ER : Γ_281 (47, 6, 0) t0.toNat = Γ (47, 6, 0) t0.toNat := congrFun e9_ER _
          have e9_BE : Γ_281 (48, 22, 0) = Γ (48, 22, 0) := (hcg_282 (48, 22, 0) (by decide)).trans (hgM (48, 22, 0) (by decide))
          have f9_BE : Γ_281 (48, 22, 0) t0.toNat = Γ (48, 22, 0) t0.toNat := congrFun e9_BE _
          have e9_GF : Γ_281 (49, 22, 0) = Γ (49, 22, 0) := (hcg_282 (49, 22, 0) (by decide)).trans (hgM (49, 22, 0) (by decide))
          have f9_GF : Γ_281 (49, 22, 0) t0.toNat = Γ (49, 22, 0) t0.toNat := congrFun e9_GF _
          have e9_GT : Γ_281 (50, 22, 0) = Γ (50, 22, 0) := (hcg_282 (50, 22, 0) (by decide)).trans (hgM (50, 22, 0) (by decide))
          have f9_GT : Γ_281 (50, 22, 0) t0.toNat = Γ (50, 22, 0) t0.toNat := congrFun e9_GT _
          have e9_WI : Γ_281 (51, 22, 0) = Γ (51, 22, 0) := (hcg_282 (51, 22, 0) (by decide)).trans (hgM (51, 22, 0) (by decide))
          have f9_WI : Γ_281 (51, 22, 0) t0.toNat = Γ (51, 22, 0) t0.toNat := congrFun e9_WI _
          have hrg9 : rg Γ Γ_281 t0 := ⟨(fun i9 _ => by rw [e9_SG]), (fun i9 _ => by rw [e9_MC]), fun j9 q9 => ⟨by rw [e9_MS], by rw [e9_ER], by rw [e9_BE], by rw [e9_GF], by rw [e9_GT], by rw [e9_WI]⟩⟩
          have hrb9 : rb Γ_281 t0 := ⟨by omega, (by rw [e9_SG, e9_MC, e9_MS]; exact hrb.2.1), fun q9 => (by have q8 := hrb.2.2.1 q9; have q7 := hrq.2.2.2.2.1 q9; omega), by omega, by omega, by omega, by omega⟩
          have hrq9 : tl_J r_278 (rq Γ_281 t0) := hE_283.imp (fun _ => ⟨by omega, by omega, by omega, by omega, fun q9 => (by have q8 := hrq.2.2.2.2.1 q9; omega), by rw [e9_SG, e9_MC, e9_MS, e9_ML]; exact hrq.2.2.2.2.2⟩)
          have hpo9 : tl_J (r_278 : Int32) (rq Γ_281 t0) ∧ Γ_281 (39, 0, 0) 0 = Γ (39, 0, 0) 0 ∧ Γ_281 (39, 0, 0) 4 = Γ (39, 0, 0) 4 ∧ Γ (39, 0, 0) 1 ≤ Γ_281 (39, 0, 0) 1 ∧ Γ_281 (39, 0, 0) 1 ≤ T0 ∧ rg Γ Γ_281 t0 ∧ rb Γ_281 t0 := ⟨hrq9, ⟨(by omega), (by omega), (by omega), (by omega), hrg9, hrb9⟩⟩
          exact W.zret (ty := .boolean) (v := r_278) hx hb hr hE_283.nar (fun t ht hW => ⟨⟨_, (f_279, Γ_281), rfl, hpo9, by rw [ht]; exact hP, hI, hfr, hgr⟩, hS.F ht⟩) hS.2.2 dX12_clauseHere_184
      · have c_37 : (v_30 7).toInt = (12 : Int) := tl_eq c_37
        refine lv_aload_n hx hb dX12_clauseHere_152 rfl (lv_at hl 2 rfl) ?_
        refine lv_iconst (v := 4) hx hb dX12_clauseHere_153 (by decide) ?_
        refine lv_iload_n hx hb dX12_clauseHere_154 rfl (lv_at hl 1 rfl) ?_
        refine tq_ciR hS (hAf _ hS.1) (tq_rV (As := [.int 4, .int (v_18 1)]) (rest := []) ⟨hx, hb, hml, hown, hta⟩ (tp_P.pre hK hN hL hU hI hP) (tp_recv hK hP ho.1 hf_28 rfl) lk_X12_184 (r_X12_fails l D cy H.size L K Γ_26 f_25 o 4 (v_18 1) ho) rfl rfl ⟨Nat.le_of_ble_eq_true rfl, Nat.le_of_ble_eq_true rfl⟩ rfl hl.1 rfl (Nat.le_of_ble_eq_true rfl) dX12_clauseHere_155 ⟨Nat.le_of_ble_eq_true rfl, Nat.le_of_ble_eq_true rfl⟩) (fun r_285 f_286 Γ_288 H locs hw_284 hP hI hc_287 hcg_289 hS => ?_)
        have hD : va_D A (va_pl L f_286) := tp_D hL hAL
        have hfr := tp_fr2 hfr hc_287 (by decide)
        have hgr : ∀ κ : tk_K, κ.1 ∉ ([39, 43, 44, 52, 45, 46, 53, 47, 54, 55, 56, 48, 49, 50, 51] : List Nat) → Γ_288 κ = Γ κ := tg_fr2 hgr hcg_289 (by decide)
        obtain ⟨rfl, hw_284⟩ := hw_284
        have hw_284 : Γ_288 (39, 0, 0) 0 = Γ_26 (39, 0, 0) 0 ∧ Γ_288 (39, 0, 0) 1 = Γ_26 (39, 0, 0) 1 ∧ Γ_288 (39, 0, 0) 3 = Γ_26 (39, 0, 0) 3 ∧ Γ_288 (39, 0, 0) 4 = Γ_26 (39, 0, 0) 4 ∧ Γ_288 (39, 0, 0) 5 = Γ_26 (39, 0, 0) 5 ∧ Γ_288 (39, 0, 0) 6 = Γ_26 (39, 0, 0) 6 ∧ Γ_288 (39, 0, 0) 7 = Γ_26 (39, 0, 0) 7 ∧ Γ_288 (39, 0, 0) 8 = Γ_26 (39, 0, 0) 8 := hw_284
        have hgM : ∀ κ : tk_K, κ.1 ∉ ([39] : List Nat) → Γ_288 κ = Γ κ := tg_fr2 hgM hcg_289 (by decide)
        have hrg9 : rg Γ Γ_288 t0 := rg.refl.same hgM
        have hrb9 : rb Γ_288 t0 := hrb.same hgM
        have hpo9 : tl_J (0 : Int32) (rq Γ_288 t0) ∧ Γ_288 (39, 0, 0) 0 = Γ (39, 0, 0) 0 ∧ Γ_288 (39, 0, 0) 4 = Γ (39, 0, 0) 4 ∧ Γ (39, 0, 0) 1 ≤ Γ_288 (39, 0, 0) 1 ∧ Γ_288 (39, 0, 0) 1 ≤ T0 ∧ rg Γ Γ_288 t0 ∧ rb Γ_288 t0 := ⟨(Or.inr rfl), ⟨(by omega), (by omega), (by omega), (by omega), hrg9, hrb9⟩⟩
        exact W.zret (ty := .boolean) (v := 0) hx hb hr rfl (fun t ht hW => ⟨⟨_, (f_286, Γ_288), rfl, hpo9, by rw [ht]; exact hP, hI, hfr, hgr⟩, hS.F ht⟩) hS.2.2 dX12_clauseHere_158
    · have c_27 : u3.toInt = (0 : Int) := tl_eq c_27
      refine lv_aload_n hx hb dX12_clauseHere_136 rfl (lv_at hl 2 rfl) ?_
      refine lv_iconst (v := 0) hx hb dX12_clauseHere_137 (by decide) ?_
      refine lv_iload_n hx hb dX12_clauseHere_138 rfl (lv_at hl 1 rfl) ?_
      obtain ⟨r_291, v_292, q_293, hf_290, hr_294, hv_295⟩ := (show tp_o_M L K 0 0 (Γ_26 (39, 0, 0)) (f_25 o) from hI.at ho)
      refine tq_ciR hS (hAf _ hS.1) (tq_rV (As := [.int 0, .int (v_18 1)]) (rest := []) ⟨hx, hb, hml, hown, hta⟩ (tp_P.pre hK hN hL hU hI hP) (tp_recv hK hP ho.1 hf_290 rfl) lk_X12_184 (r_X12_fails l D cy H.size L K Γ_26 f_25 o 0 (v_18 1) ho) rfl rfl ⟨Nat.le_of_ble_eq_true rfl, Nat.le_of_ble_eq_true rfl⟩ rfl hl.1 rfl (Nat.le_of_ble_eq_true rfl) dX12_clauseHere_139 ⟨Nat.le_of_ble_eq_true rfl, Nat.le_of_ble_eq_true rfl⟩) (fun r_300 f_301 Γ_303 H locs hw_299 hP hI hc_302 hcg_304 hS => ?_)
      have hD : va_D A (va_pl L f_301) := tp_D hL hAL
      have hfr := tp_fr2 hfr hc_302 (by decide)
      have hgr : ∀ κ : tk_K, κ.1 ∉ ([39, 43, 44, 52, 45, 46, 53, 47, 54, 55, 56, 48, 49, 50, 51] : List Nat) → Γ_303 κ = Γ κ := tg_fr2 hgr hcg_304 (by decide)
      obtain ⟨rfl, hw_299⟩ := hw_299
      have hw_299 : Γ_303 (39, 0, 0) 0 = Γ_26 (39, 0, 0) 0 ∧ Γ_303 (39, 0, 0) 1 = Γ_26 (39, 0, 0) 1 ∧ Γ_303 (39, 0, 0) 3 = Γ_26 (39, 0, 0) 3 ∧ Γ_303 (39, 0, 0) 4 = Γ_26 (39, 0, 0) 4 ∧ Γ_303 (39, 0, 0) 5 = Γ_26 (39, 0, 0) 5 ∧ Γ_303 (39, 0, 0) 6 = Γ_26 (39, 0, 0) 6 ∧ Γ_303 (39, 0, 0) 7 = Γ_26 (39, 0, 0) 7 ∧ Γ_303 (39, 0, 0) 8 = Γ_26 (39, 0, 0) 8 := hw_299
      have hgM : ∀ κ : tk_K, κ.1 ∉ ([39] : List Nat) → Γ_303 κ = Γ κ := tg_fr2 hgM hcg_304 (by decide)
      have hrg9 : rg Γ Γ_303 t0 := rg.refl.same hgM
      have hrb9 : rb Γ_303 t0 := hrb.same hgM
      have hpo9 : tl_J (0 : Int32) (rq Γ_303 t0) ∧ Γ_303 (39, 0, 0) 0 = Γ (39, 0, 0) 0 ∧ Γ_303 (39, 0, 0) 4 = Γ (39, 0, 0) 4 ∧ Γ (39, 0, 0) 1 ≤ Γ_303 (39, 0, 0) 1 ∧ Γ_303 (39, 0, 0) 1 ≤ T0 ∧ rg Γ Γ_303 t0 ∧ rb Γ_303 t0 := ⟨(Or.inr rfl), ⟨(by omega), (by omega), (by omega), (by omega), hrg9, hrb9⟩⟩
      exact W.zret (ty := .boolean) (v := 0) hx hb hr rfl (fun t ht hW => ⟨⟨_, (f_301, Γ_303), rfl, hpo9, by rw [ht]; exact hP, hI, hfr, hgr⟩, hS.F ht⟩) hS.2.2 dX12_clauseHere_142
  refine lv_aload_n hx hb dX12_clauseHere_10 rfl (lv_at hl 1 rfl) ?_
  refine lv_aload_n hx hb dX12_clauseHere_11 rfl (lv_at hl 1 rfl) ?_
  refine tp_get (cy := cy) (ci := 12) (v := .int (v_18 4)) (C := RX12) (T := TX12) (N := 49) hx hb hta inlX12 hown hK hP ho.1 hf_16 rfl 20 (by decide) (hta _ wk_537) (fun _ h9 => h9) rfl dX12_clauseHere_12 ?_
  refine tl_si (tq_rV (As := [.int (v_18 4)]) (rest := []) ⟨hx, hb, hml, hown, hta⟩ (tp_P.pre hK hN hL hU hI hP) (tp_recv hK hP ho.1 hf_16 rfl) lk_X12_194 (r_X12_kindOf l D cy H.size L K Γ_14 f_12 o (v_18 4) ho) rfl rfl ⟨Nat.le_of_ble_eq_true rfl, Nat.le_of_ble_eq_true rfl⟩ rfl hl.1 rfl (Nat.le_of_ble_eq_true rfl) dX12_clauseHere_15 ⟨Nat.le_of_ble_eq_true rfl, Nat.le_of_ble_eq_true rfl⟩) (fun r_306 hw_305 => ?_)
  have hw_305 : ((v_18 4).toInt < 6 ∧ r_306.toInt = 0) ∨ (6 ≤ (v_18 4).toInt ∧ (v_18 4).toInt < 14 ∧ r_306.toInt = 1) ∨ (14 ≤ (v_18 4).toInt ∧ r_306.toInt = 2) := hw_305
  have hkt : (t0 ≤ 5 ∧ r_306.toInt = 0) ∨ ((6 ≤ t0 ∧ t0 ≤ 13) ∧ r_306.toInt = 1) ∨ (14 ≤ t0 ∧ r_306.toInt = 2) := by omega
  clear hw_305
  refine lv_istore_n (lv' := [(2, .int r_306), (1, .int (v_18 1)), (0, .ref o)]) hx hb dX12_clauseHere_18 rfl hl (by decide) rfl (fun ls hl => ?_)
  refine lv_iload_n hx hb dX12_clauseHere_19 rfl (lv_at hl 0 rfl) ?_
  refine lv_if_ne (tgt := 71) hx hb dX12_clauseHere_20 (by decide) (fun c_307 => ?_) (fun c_307 => ?_)
  · have c_307 : ¬ r_306.toInt = (0 : Int) := tl_neq c_307
    refine lv_iload_n hx hb dX12_clauseHere_71 rfl (lv_at hl 0 rfl) ?_
    refine lv_iconst (v := 1) hx hb dX12_clauseHere_72 (by decide) ?_
    refine lv_icmp_ne (tgt := 124) hx hb dX12_clauseHere_73 (by decide) (fun c_308 => ?_) (fun c_308 => ?_)
    · have c_308 : ¬ r_306.toInt = (1 : Int) := tl_neq c_308
      refine lv_aload_n hx hb dX12_clauseHere_124 rfl (lv_at hl 2 rfl) ?_
      refine lv_ldc2 (v := 444150998387) hx hb hown (hta _ wk_560) dX12_clauseHere_125 ?_
      refine tq_ciR hS (hAf _ hS.1) (tq_rV (As := [.long 444150998387]) (rest := []) ⟨hx, hb, hml, hown, hta⟩ (tp_P.pre hK hN hL hU hI hP) (tp_recv hK hP ho.1 hf_16 rfl) lk_X12_174 (r_X12_isWord l D cy H.size L K Γ_14 f_12 o 444150998387 τ T0 ho ((hgr _ (by decide)).trans ht) (by first | omega | (simp only [Int32.toInt_toInt64]; omega) | decide | assumption) (by first | omega | (simp only [Int32.toInt_toInt64]; omega) | decide | assumption)) rfl rfl ⟨Nat.le_of_ble_eq_true rfl, Nat.le_of_ble_eq_true rfl⟩ rfl hl.1 rfl (Nat.le_of_ble_eq_true rfl) dX12_clauseHere_128 ⟨Nat.le_of_ble_eq_true rfl, Nat.le_of_ble_eq_true rfl⟩) (fun r_310 f_311 Γ_313 H locs hw_309 hP hI hc_312 hcg_314 hS => ?_)
      have hD : va_D A (va_pl L f_311) := tp_D hL hAL
      have hfr := tp_fr2 hfr hc_312 (by decide)
      have hgr : ∀ κ : tk_K, κ.1 ∉ ([39, 43, 44, 52, 45, 46, 53, 47, 54, 55, 56, 48, 49, 50, 51] : List Nat) → Γ_313 κ = Γ κ := tg_fr2 hgr hcg_314 (by decide)
      obtain ⟨hE_315, hw_309⟩ := hw_309
      have hE_315 : tl_E r_310 (tr_W τ T0 (Γ_313 (39, 0, 0) 1) 444150998387) 1 0 := hE_315
      have hw_309 : Γ_313 (39, 0, 0) 0 = Γ_14 (39, 0, 0) 0 ∧ Γ_313 (39, 0, 0) 3 = Γ_14 (39, 0, 0) 3 ∧ Γ_313 (39, 0, 0) 4 = Γ_14 (39, 0, 0) 4 ∧ Γ_313 (39, 0, 0) 5 = Γ_14 (39, 0, 0) 5 ∧ Γ_313 (39, 0, 0) 6 = Γ_14 (39, 0, 0) 6 ∧ Γ_313 (39, 0, 0) 7 = Γ_14 (39, 0, 0) 7 ∧ Γ_313 (39, 0, 0) 8 = Γ_14 (39, 0, 0) 8 ∧ Γ_14 (39, 0, 0) 1 ≤ Γ_313 (39, 0, 0) 1 ∧ Γ_313 (39, 0, 0) 1 ≤ T0 ∧ (¬ τ (Γ_14 (39, 0, 0) 1).toNat = 32 → Γ_313 (39, 0, 0) 1 = Γ_14 (39, 0, 0) 1) := hw_309
      have hgM : ∀ κ : tk_K, κ.1 ∉ ([39] : List Nat) → Γ_313 κ = Γ κ := tg_fr2 hgM hcg_314 (by decide)
      obtain ⟨w0_hw_309, w1_hw_309, w2_hw_309, w3_hw_309, w4_hw_309, w5_hw_309, w6_hw_309, w7_hw_309, w8_hw_309, -⟩ := hw_309
      replace q0 : Γ_313 (39, 0, 0) 0 = Γ (39, 0, 0) 0 := w0_hw_309.trans q0
      replace q3 : Γ_313 (39, 0, 0) 3 = Γ (39, 0, 0) 3 := w1_hw_309.trans q3
      replace q4 : Γ_313 (39, 0, 0) 4 = Γ (39, 0, 0) 4 := w2_hw_309.trans q4
      replace q5 : Γ_313 (39, 0, 0) 5 = Γ (39, 0, 0) 5 := w3_hw_309.trans q5
      replace q6 : Γ_313 (39, 0, 0) 6 = Γ (39, 0, 0) 6 := w4_hw_309.trans q6
      replace q7 : Γ_313 (39, 0, 0) 7 = Γ (39, 0, 0) 7 := w5_hw_309.trans q7
      replace q8 : Γ_313 (39, 0, 0) 8 = Γ (39, 0, 0) 8 := w6_hw_309.trans q8
      replace hx9 : Γ (39, 0, 0) 1 ≤ Γ_313 (39, 0, 0) 1 ∧ Γ_313 (39, 0, 0) 1 ≤ T0 := ⟨Int.le_trans hx9.1 w7_hw_309, w8_hw_309⟩
      clear w0_hw_309 w1_hw_309 w2_hw_309 w3_hw_309 w4_hw_309 w5_hw_309 w6_hw_309 w7_hw_309 w8_hw_309
      refine lv_istore_n (lv' := [(3, .int r_310), (2, .int r_306), (1, .int (v_18 1)), (0, .ref o)]) hx hb dX12_clauseHere_131 rfl hl (by decide) rfl (fun ls hl => ?_)
      exact hjn132 f_311 Γ_313 r_310 H locs ls (show Γ_313 (39, 0, 0) 0 = Γ (39, 0, 0) 0 from q0) (show Γ_313 (39, 0, 0) 3 = Γ (39, 0, 0) 3 from q3) (show Γ_313 (39, 0, 0) 4 = Γ (39, 0, 0) 4 from q4) (show Γ_313 (39, 0, 0) 5 = Γ (39, 0, 0) 5 from q5) (show Γ_313 (39, 0, 0) 6 = Γ (39, 0, 0) 6 from q6) (show Γ_313 (39, 0, 0) 7 = Γ (39, 0, 0) 7 from q7) (show Γ_313 (39, 0, 0) 8 = Γ (39, 0, 0) 8 from q8) (show Γ (39, 0, 0) 1 ≤ Γ_313 (39, 0, 0) 1 ∧ Γ_313 (39, 0, 0) 1 ≤ T0 from hx9) (show ∀ κ : tk_K, κ.1 ∉ ([39] : List Nat) → Γ_313 κ = Γ κ from hgM) (show r_310.toInt = 0 ∨ r_310.toInt = 1 from (by rcases hE_315 with ⟨_, q9⟩ | ⟨_, q9⟩ <;> rw [q9] <;> decide)) (show r_310.toInt = 1 → tr_H τ T0 (Γ_313 (39, 0, 0) 1) t0 from (fun q9 => Or.inr (Or.inr ⟨by omega, hE_315.t (fun q8 => by rw [q8] at q9; exact absurd q9 (by decide))⟩))) hP hI hfr hgr hS (lv_sub hl [0, 2, 3] rfl)
    · have c_308 : r_306.toInt = (1 : Int) := tl_eq c_308
      refine lv_aload_n hx hb dX12_clauseHere_76 rfl (lv_at hl 2 rfl) ?_
      refine lv_ldc2 (v := 422608528499) hx hb hown (hta _ wk_556) dX12_clauseHere_77 ?_
      refine tq_ciR hS (hAf _ hS.1) (tq_rV (As := [.long 422608528499]) (rest := []) ⟨hx, hb, hml, hown, hta⟩ (tp_P.pre hK hN hL hU hI hP) (tp_recv hK hP ho.1 hf_16 rfl) lk_X12_174 (r_X12_isWord l D cy H.size L K Γ_14 f_12 o 422608528499 τ T0 ho ((hgr _ (by decide)).trans ht) (by first | omega | (simp only [Int32.toInt_toInt64]; omega) | decide | assumption) (by first | omega | (simp only [Int32.toInt_toInt64]; omega) | decide | assumption)) rfl rfl ⟨Nat.le_of_ble_eq_true rfl, Nat.le_of_ble_eq_true rfl⟩ rfl hl.1 rfl (Nat.le_of_ble_eq_true rfl) dX12_clauseHere_80 ⟨Nat.le_of_ble_eq_true rfl, Nat.le_of_ble_eq_true rfl⟩) (fun r_317 f_318 Γ_320 H locs hw_316 hP hI hc_319 hcg_321 hS => ?_)
      have hD : va_D A (va_pl L f_318) := tp_D hL hAL
      have hfr := tp_fr2 hfr hc_319 (by decide)
      have hgr : ∀ κ : tk_K, κ.1 ∉ ([39, 43, 44, 52, 45, 46, 53, 47, 54, 55, 56, 48, 49, 50, 51] : List Nat) → Γ_320 κ = Γ κ := tg_fr2 hgr hcg_321 (by decide)
      obtain ⟨hE_322, hw_316⟩ := hw_316
      have hE_322 : tl_E r_317 (tr_W τ T0 (Γ_320 (39, 0, 0) 1) 422608528499) 1 0 := hE_322
      have hw_316 : Γ_320 (39, 0, 0) 0 = Γ_14 (39, 0, 0) 0 ∧ Γ_320 (39, 0, 0) 3 = Γ_14 (39, 0, 0) 3 ∧ Γ_320 (39, 0, 0) 4 = Γ_14 (39, 0, 0) 4 ∧ Γ_320 (39, 0, 0) 5 = Γ_14 (39, 0, 0) 5 ∧ Γ_320 (39, 0, 0) 6 = Γ_14 (39, 0, 0) 6 ∧ Γ_320 (39, 0, 0) 7 = Γ_14 (39, 0, 0) 7 ∧ Γ_320 (39, 0, 0) 8 = Γ_14 (39, 0, 0) 8 ∧ Γ_14 (39, 0, 0) 1 ≤ Γ_320 (39, 0, 0) 1 ∧ Γ_320 (39, 0, 0) 1 ≤ T0 ∧ (¬ τ (Γ_14 (39, 0, 0) 1).toNat = 32 → Γ_320 (39, 0, 0) 1 = Γ_14 (39, 0, 0) 1) := hw_316
      have hgM : ∀ κ : tk_K, κ.1 ∉ ([39] : List Nat) → Γ_320 κ = Γ κ := tg_fr2 hgM hcg_321 (by decide)
      obtain ⟨w0_hw_316, w1_hw_316, w2_hw_316, w3_hw_316, w4_hw_316, w5_hw_316, w6_hw_316, w7_hw_316, w8_hw_316, -⟩ := hw_316
      replace q0 : Γ_320 (39, 0, 0) 0 = Γ (39, 0, 0) 0 := w0_hw_316.trans q0
      replace q3 : Γ_320 (39, 0, 0) 3 = Γ (39, 0, 0) 3 := w1_hw_316.trans q3
      replace q4 : Γ_320 (39, 0, 0) 4 = Γ (39, 0, 0) 4 := w2_hw_316.trans q4
      replace q5 : Γ_320 (39, 0, 0) 5 = Γ (39, 0, 0) 5 := w3_hw_316.trans q5
      replace q6 : Γ_320 (39, 0, 0) 6 = Γ (39, 0, 0) 6 := w4_hw_316.trans q6
      replace q7 : Γ_320 (39, 0, 0) 7 = Γ (39, 0, 0) 7 := w5_hw_316.trans q7
      replace q8 : Γ_320 (39, 0, 0) 8 = Γ (39, 0, 0) 8 := w6_hw_316.trans q8
      replace hx9 : Γ (39, 0, 0) 1 ≤ Γ_320 (39, 0, 0) 1 ∧ Γ_320 (39, 0, 0) 1 ≤ T0 := ⟨Int.le_trans hx9.1 w7_hw_316, w8_hw_316⟩
      clear w0_hw_316 w1_hw_316 w2_hw_316 w3_hw_316 w4_hw_316 w5_hw_316 w6_hw_316 w7_hw_316 w8_hw_316
      refine lv_if_ne (tgt := 116) hx hb dX12_clauseHere_83 (by decide) (fun c_323 => ?_) (fun c_323 => ?_)
      · have c_323 := hE_322.t c_323
        refine lv_iconst (v := 1) hx hb dX12_clauseHere_116 (by decide) ?_
        refine lv_goto (tgt := 131) hx hb dX12_clauseHere_117 (by decide) ?_
        refine lv_istore_n (lv' := [(3, .int 1), (2, .int r_306), (1, .int (v_18 1)), (0, .ref o)]) hx hb dX12_clauseHere_131 rfl hl (by decide) rfl (fun ls hl => ?_)
        exact hjn132 f_318 Γ_320 1 H locs ls (show Γ_320 (39, 0, 0) 0 = Γ (39, 0, 0) 0 from q0) (show Γ_320 (39, 0, 0) 3 = Γ (39, 0, 0) 3 from q3) (show Γ_320 (39, 0, 0) 4 = Γ (39, 0, 0) 4 from q4) (show Γ_320 (39, 0, 0) 5 = Γ (39, 0, 0) 5 from q5) (show Γ_320 (39, 0, 0) 6 = Γ (39, 0, 0) 6 from q6) (show Γ_320 (39, 0, 0) 7 = Γ (39, 0, 0) 7 from q7) (show Γ_320 (39, 0, 0) 8 = Γ (39, 0, 0) 8 from q8) (show Γ (39, 0, 0) 1 ≤ Γ_320 (39, 0, 0) 1 ∧ Γ_320 (39, 0, 0) 1 ≤ T0 from hx9) (show ∀ κ : tk_K, κ.1 ∉ ([39] : List Nat) → Γ_320 κ = Γ κ from hgM) (show (1 : Int) = 0 ∨ (1 : Int) = 1 from (by decide)) (show (1 : Int) = 1 → tr_H τ T0 (Γ_320 (39, 0, 0) 1) t0 from (fun _ => by first | exact Or.inl ⟨by omega, by first | exact Or.inl (by assumption) | exact Or.inr (Or.inl (by assumption)) | exact Or.inr (Or.inr (Or.inl (by assumption))) | exact Or.inr (Or.inr (Or.inr (by assumption)))⟩ | exact Or.inr (Or.inl ⟨by omega, by first | exact Or.inl (by assumption) | exact Or.inr (Or.inl (by assumption)) | exact Or.inr (Or.inr (Or.inl (by assumption))) | exact Or.inr (Or.inr (Or.inr (by assumption)))⟩))) hP hI hfr hgr hS (lv_sub hl [0, 2, 3] rfl)
      · have c_323 := hE_322.f c_323
        refine lv_aload_n hx hb dX12_clauseHere_86 rfl (lv_at hl 2 rfl) ?_
        refine lv_ldc2 (v := 6775152) hx hb hown (hta _ wk_557) dX12_clauseHere_87 ?_
        obtain ⟨r_325, v_326, q_327, hf_324, hr_328, hv_329⟩ := (show tp_o_M L K 0 0 (Γ_320 (39, 0, 0)) (f_318 o) from hI.at ho)
        refine tq_ciR hS (hAf _ hS.1) (tq_rV (As := [.long 6775152]) (rest := []) ⟨hx, hb, hml, hown, hta⟩ (tp_P.pre hK hN hL hU hI hP) (tp_recv hK hP ho.1 hf_324 rfl) lk_X12_174 (r_X12_isWord l D cy H.size L K Γ_320 f_318 o 6775152 τ T0 ho ((hgr _ (by decide)).trans ht) (by first | omega | (simp only [Int32.toInt_toInt64]; omega) | decide | assumption) (by first | omega | (simp only [Int32.toInt_toInt64]; omega) | decide | assumption)) rfl rfl ⟨Nat.le_of_ble_eq_true rfl, Nat.le_of_ble_eq_true rfl⟩ rfl hl.1 rfl (Nat.le_of_ble_eq_true rfl) dX12_clauseHere_90 ⟨Nat.le_of_ble_eq_true rfl, Nat.le_of_ble_eq_true rfl⟩) (fun r_334 f_335 Γ_337 H locs hw_333 hP hI hc_336 hcg_338 hS => ?_)
        have hD : va_D A (va_pl L f_335) := tp_D hL hAL
        have hfr := tp_fr2 hfr hc_336 (by decide)
        have hgr : ∀ κ : tk_K, κ.1 ∉ ([39, 43, 44, 52, 45, 46, 53, 47, 54, 55, 56, 48, 49, 50, 51] : List Nat) → Γ_337 κ = Γ κ := tg_fr2 hgr hcg_338 (by decide)
        obtain ⟨hE_339, hw_333⟩ := hw_333
        have hE_339 : tl_E r_334 (tr_W τ T0 (Γ_337 (39, 0, 0) 1) 6775152) 1 0 := hE_339
        have hw_333 : Γ_337 (39, 0, 0) 0 = Γ_320 (39, 0, 0) 0 ∧ Γ_337 (39, 0, 0) 3 = Γ_320 (39, 0, 0) 3 ∧ Γ_337 (39, 0, 0) 4 = Γ_320 (39, 0, 0) 4 ∧ Γ_337 (39, 0, 0) 5 = Γ_320 (39, 0, 0) 5 ∧ Γ_337 (39, 0, 0) 6 = Γ_320 (39, 0, 0) 6 ∧ Γ_337 (39, 0, 0) 7 = Γ_320 (39, 0, 0) 7 ∧ Γ_337 (39, 0, 0) 8 = Γ_320 (39, 0, 0) 8 ∧ Γ_320 (39, 0, 0) 1 ≤ Γ_337 (39, 0, 0) 1 ∧ Γ_337 (39, 0, 0) 1 ≤ T0 ∧ (¬ τ (Γ_320 (39, 0, 0) 1).toNat = 32 → Γ_337 (39, 0, 0) 1 = Γ_320 (39, 0, 0) 1) := hw_333
        have hgM : ∀ κ : tk_K, κ.1 ∉ ([39] : List Nat) → Γ_337 κ = Γ κ := tg_fr2 hgM hcg_338 (by decide)
        obtain ⟨w0_hw_333, w1_hw_333, w2_hw_333, w3_hw_333, w4_hw_333, w5_hw_333, w6_hw_333, w7_hw_333, w8_hw_333, -⟩ := hw_333
        replace q0 : Γ_337 (39, 0, 0) 0 = Γ (39, 0, 0) 0 := w0_hw_333.trans q0
        replace q3 : Γ_337 (39, 0, 0) 3 = Γ (39, 0, 0) 3 := w1_hw_333.trans q3
        replace q4 : Γ_337 (39, 0, 0) 4 = Γ (39, 0, 0) 4 := w2_hw_333.trans q4
        replace q5 : Γ_337 (39, 0, 0) 5 = Γ (39, 0, 0) 5 := w3_hw_333.trans q5
        replace q6 : Γ_337 (39, 0, 0) 6 = Γ (39, 0, 0) 6 := w4_hw_333.trans q6
        replace q7 : Γ_337 (39, 0, 0) 7 = Γ (39, 0, 0) 7 := w5_hw_333.trans q7
        replace q8 : Γ_337 (39, 0, 0) 8 = Γ (39, 0, 0) 8 := w6_hw_333.trans q8
        replace hx9 : Γ (39, 0, 0) 1 ≤ Γ_337 (39, 0, 0) 1 ∧ Γ_337 (39, 0, 0) 1 ≤ T0 := ⟨Int.le_trans hx9.1 w7_hw_333, w8_hw_333⟩
        clear w0_hw_333 w1_hw_333 w2_hw_333 w3_hw_333 w4_hw_333 w5_hw_333 w6_hw_333 w7_hw_333 w8_hw_333
        refine lv_if_ne (tgt := 116) hx hb dX12_clauseHere_93 (by decide) (fun c_340 => ?_) (fun c_340 => ?_)
        · have c_340 := hE_339.t c_340
          refine lv_iconst (v := 1) hx hb dX12_clauseHere_116 (by decide) ?_
          refine lv_goto (tgt := 131) hx hb dX12_clauseHere_117 (by decide) ?_
          refine lv_istore_n (lv' := [(3, .int 1), (2, .int r_306), (1, .int (v_18 1)), (0, .ref o)]) hx hb dX12_clauseHere_131 rfl hl (by decide) rfl (fun ls hl => ?_)
          exact hjn132 f_335 Γ_337 1 H locs ls (show Γ_337 (39, 0, 0) 0 = Γ (39, 0, 0) 0 from q0) (show Γ_337 (39, 0, 0) 3 = Γ (39, 0, 0) 3 from q3) (show Γ_337 (39, 0, 0) 4 = Γ (39, 0, 0) 4 from q4) (show Γ_337 (39, 0, 0) 5 = Γ (39, 0, 0) 5 from q5) (show Γ_337 (39, 0, 0) 6 = Γ (39, 0, 0) 6 from q6) (show Γ_337 (39, 0, 0) 7 = Γ (39, 0, 0) 7 from q7) (show Γ_337 (39, 0, 0) 8 = Γ (39, 0, 0) 8 from q8) (show Γ (39, 0, 0) 1 ≤ Γ_337 (39, 0, 0) 1 ∧ Γ_337 (39, 0, 0) 1 ≤ T0 from hx9) (show ∀ κ : tk_K, κ.1 ∉ ([39] : List Nat) → Γ_337 κ = Γ κ from hgM) (show (1 : Int) = 0 ∨ (1 : Int) = 1 from (by decide)) (show (1 : Int) = 1 → tr_H τ T0 (Γ_337 (39, 0, 0) 1) t0 from (fun _ => by first | exact Or.inl ⟨by omega, by first | exact Or.inl (by assumption) | exact Or.inr (Or.inl (by assumption)) | exact Or.inr (Or.inr (Or.inl (by assumption))) | exact Or.inr (Or.inr (Or.inr (by assumption)))⟩ | exact Or.inr (Or.inl ⟨by omega, by first | exact Or.inl (by assumption) | exact Or.inr (Or.inl (by assumption)) | exact Or.inr (Or.inr (Or.inl (by assumption))) | exact Or.inr (Or.inr (Or.inr (by assumption)))⟩))) hP hI hfr hgr hS (lv_sub hl [0, 2, 3] rfl)
        · have c_340 := hE_339.f c_340
          refine lv_aload_n hx hb dX12_clauseHere_96 rfl (lv_at hl 2 rfl) ?_
          refine lv_ldc2 (v := 2003395685) hx hb hown (hta _ wk_558) dX12_clauseHere_97 ?_
          obtain ⟨r_342, v_343, q_344, hf_341, hr_345, hv_346⟩ := (show tp_o_M L K 0 0 (Γ_337 (39, 0, 0)) (f_335 o) from hI.at ho)
          refine tq_ciR hS (hAf _ hS.1) (tq_rV (As := [.long 2003395685]) (rest := []) ⟨hx, hb, hml, hown, hta⟩ (tp_P.pre hK hN hL hU hI hP) (tp_recv hK hP ho.1 hf_341 rfl) lk_X12_174 (r_X12_isWord l D cy H.size L K Γ_337 f_335 o 2003395685 τ T0 ho ((hgr _ (by decide)).trans ht) (by first | omega | (simp only [Int32.toInt_toInt64]; omega) | decide | assumption) (by first | omega | (simp only [Int32.toInt_toInt64]; omega) | decide | assumption)) rfl rfl ⟨Nat.le_of_ble_eq_true rfl, Nat.le_of_ble_eq_true rfl⟩ rfl hl.1 rfl (Nat.le_of_ble_eq_true rfl) dX12_clauseHere_100 ⟨Nat.le_of_ble_eq_true rfl, Nat.le_of_ble_eq_true rfl⟩) (fun r_351 f_352 Γ_354 H locs hw_350 hP hI hc_353 hcg_355 hS => ?_)
          have hD : va_D A (va_pl L f_352) := tp_D hL hAL
          have hfr := tp_fr2 hfr hc_353 (by decide)
          have hgr : ∀ κ : tk_K, κ.1 ∉ ([39, 43, 44, 52, 45, 46, 53, 47, 54, 55, 56, 48, 49, 50, 51] : List Nat) → Γ_354 κ = Γ κ := tg_fr2 hgr hcg_355 (by decide)
          obtain ⟨hE_356, hw_350⟩ := hw_350
          have hE_356 : tl_E r_351 (tr_W τ T0 (Γ_354 (39, 0, 0) 1) 2003395685) 1 0 := hE_356
          have hw_350 : Γ_354 (39, 0, 0) 0 = Γ_337 (39, 0, 0) 0 ∧ Γ_354 (39, 0, 0) 3 = Γ_337 (39, 0, 0) 3 ∧ Γ_354 (39, 0, 0) 4 = Γ_337 (39, 0, 0) 4 ∧ Γ_354 (39, 0, 0) 5 = Γ_337 (39, 0, 0) 5 ∧ Γ_354 (39, 0, 0) 6 = Γ_337 (39, 0, 0) 6 ∧ Γ_354 (39, 0, 0) 7 = Γ_337 (39, 0, 0) 7 ∧ Γ_354 (39, 0, 0) 8 = Γ_337 (39, 0, 0) 8 ∧ Γ_337 (39, 0, 0) 1 ≤ Γ_354 (39, 0, 0) 1 ∧ Γ_354 (39, 0, 0) 1 ≤ T0 ∧ (¬ τ (Γ_337 (39, 0, 0) 1).toNat = 32 → Γ_354 (39, 0, 0) 1 = Γ_337 (39, 0, 0) 1) := hw_350
          have hgM : ∀ κ : tk_K, κ.1 ∉ ([39] : List Nat) → Γ_354 κ = Γ κ := tg_fr2 hgM hcg_355 (by decide)
          obtain ⟨w0_hw_350, w1_hw_350, w2_hw_350, w3_hw_350, w4_hw_350, w5_hw_350, w6_hw_350, w7_hw_350, w8_hw_350, -⟩ := hw_350
          replace q0 : Γ_354 (39, 0, 0) 0 = Γ (39, 0, 0) 0 := w0_hw_350.trans q0
          replace q3 : Γ_354 (39, 0, 0) 3 = Γ (39, 0, 0) 3 := w1_hw_350.trans q3
          replace q4 : Γ_354 (39, 0, 0) 4 = Γ (39, 0, 0) 4 := w2_hw_350.trans q4
          replace q5 : Γ_354 (39, 0, 0) 5 = Γ (39, 0, 0) 5 := w3_hw_350.trans q5
          replace q6 : Γ_354 (39, 0, 0) 6 = Γ (39, 0, 0) 6 := w4_hw_350.trans q6
          replace q7 : Γ_354 (39, 0, 0) 7 = Γ (39, 0, 0) 7 := w5_hw_350.trans q7
          replace q8 : Γ_354 (39, 0, 0) 8 = Γ (39, 0, 0) 8 := w6_hw_350.trans q8
          replace hx9 : Γ (39, 0, 0) 1 ≤ Γ_354 (39, 0, 0) 1 ∧ Γ_354 (39, 0, 0) 1 ≤ T0 := ⟨Int.le_trans hx9.1 w7_hw_350, w8_hw_350⟩
          clear w0_hw_350 w1_hw_350 w2_hw_350 w3_hw_350 w4_hw_350 w5_hw_350 w6_hw_350 w7_hw_350 w8_hw_350
          refine lv_if_ne (tgt := 116) hx hb dX12_clauseHere_103 (by decide) (fun c_357 => ?_) (fun c_357 => ?_)
          · have c_357 := hE_356.t c_357
            refine lv_iconst (v := 1) hx hb dX12_clauseHere_116 (by decide) ?_
            refine lv_goto (tgt := 131) hx hb dX12_clauseHere_117 (by decide) ?_
            refine lv_istore_n (lv' := [(3, .int 1), (2, .int r_306), (1, .int (v_18 1)), (0, .ref o)]) hx hb dX12_clauseHere_131 rfl hl (by decide) rfl (fun ls hl => ?_)
            exact hjn132 f_352 Γ_354 1 H locs ls (show Γ_354 (39, 0, 0) 0 = Γ (39, 0, 0) 0 from q0) (show Γ_354 (39, 0, 0) 3 = Γ (39, 0, 0) 3 from q3) (show Γ_354 (39, 0, 0) 4 = Γ (39, 0, 0) 4 from q4) (show Γ_354 (39, 0, 0) 5 = Γ (39, 0, 0) 5 from q5) (show Γ_354 (39, 0, 0) 6 = Γ (39, 0, 0) 6 from q6) (show Γ_354 (39, 0, 0) 7 = Γ (39, 0, 0) 7 from q7) (show Γ_354 (39, 0, 0) 8 = Γ (39, 0, 0) 8 from q8) (show Γ (39, 0, 0) 1 ≤ Γ_354 (39, 0, 0) 1 ∧ Γ_354 (39, 0, 0) 1 ≤ T0 from hx9) (show ∀ κ : tk_K, κ.1 ∉ ([39] : List Nat) → Γ_354 κ = Γ κ from hgM) (show (1 : Int) = 0 ∨ (1 : Int) = 1 from (by decide)) (show (1 : Int) = 1 → tr_H τ T0 (Γ_354 (39, 0, 0) 1) t0 from (fun _ => by first | exact Or.inl ⟨by omega, by first | exact Or.inl (by assumption) | exact Or.inr (Or.inl (by assumption)) | exact Or.inr (Or.inr (Or.inl (by assumption))) | exact Or.inr (Or.inr (Or.inr (by assumption)))⟩ | exact Or.inr (Or.inl ⟨by omega, by first | exact Or.inl (by assumption) | exact Or.inr (Or.inl (by assumption)) | exact Or.inr (Or.inr (Or.inl (by assumption))) | exact Or.inr (Or.inr (Or.inr (by assumption)))⟩))) hP hI hfr hgr hS (lv_sub hl [0, 2, 3] rfl)
          · have c_357 := hE_356.f c_357
            refine lv_aload_n hx hb dX12_clauseHere_106 rfl (lv_at hl 2 rfl) ?_
            refine lv_ldc2 (v := 1936419184) hx hb hown (hta _ wk_559) dX12_clauseHere_107 ?_
            obtain ⟨r_359, v_360, q_361, hf_358, hr_362, hv_363⟩ := (show tp_o_M L K 0 0 (Γ_354 (39, 0, 0)) (f_352 o) from hI.at ho)
            refine tq_ciR hS (hAf _ hS.1) (tq_rV (As := [.long 1936419184]) (rest := []) ⟨hx, hb, hml, hown, hta⟩ (tp_P.pre hK hN hL hU hI hP) (tp_recv hK hP ho.1 hf_358 rfl) lk_X12_174 (r_X12_isWord l D cy H.size L K Γ_354 f_352 o 1936419184 τ T0 ho ((hgr _ (by decide)).trans ht) (by first | omega | (simp only [Int32.toInt_toInt64]; omega) | decide | assumption) (by first | omega | (simp only [Int32.toInt_toInt64]; omega) | decide | assumption)) rfl rfl ⟨Nat.le_of_ble_eq_true rfl, Nat.le_of_ble_eq_true rfl⟩ rfl hl.1 rfl (Nat.le_of_ble_eq_true rfl) dX12_clauseHere_110 ⟨Nat.le_of_ble_eq_true rfl, Nat.le_of_ble_eq_true rfl⟩) (fun r_368 f_369 Γ_371 H locs hw_367 hP hI hc_370 hcg_372 hS => ?_)
            have hD : va_D A (va_pl L f_369) := tp_D hL hAL
            have hfr := tp_fr2 hfr hc_370 (by decide)
            have hgr : ∀ κ : tk_K, κ.1 ∉ ([39, 43, 44, 52, 45, 46, 53, 47, 54, 55, 56, 48, 49, 50, 51] : List Nat) → Γ_371 κ = Γ κ := tg_fr2 hgr hcg_372 (by decide)
            obtain ⟨hE_373, hw_367⟩ := hw_367
            have hE_373 : tl_E r_368 (tr_W τ T0 (Γ_371 (39, 0, 0) 1) 1936419184) 1 0 := hE_373
            have hw_367 : Γ_371 (39, 0, 0) 0 = Γ_354 (39, 0, 0) 0 ∧ Γ_371 (39, 0, 0) 3 = Γ_354 (39, 0, 0) 3 ∧ Γ_371 (39, 0, 0) 4 = Γ_354 (39, 0, 0) 4 ∧ Γ_371 (39, 0, 0) 5 = Γ_354 (39, 0, 0) 5 ∧ Γ_371 (39, 0, 0) 6 = Γ_354 (39, 0, 0) 6 ∧ Γ_371 (39, 0, 0) 7 = Γ_354 (39, 0, 0) 7 ∧ Γ_371 (39, 0, 0) 8 = Γ_354 (39, 0, 0) 8 ∧ Γ_354 (39, 0, 0) 1 ≤ Γ_371 (39, 0, 0) 1 ∧ Γ_371 (39, 0, 0) 1 ≤ T0 ∧ (¬ τ (Γ_354 (39, 0, 0) 1).toNat = 32 → Γ_371 (39, 0, 0) 1 = Γ_354 (39, 0, 0) 1) := hw_367
            have hgM : ∀ κ : tk_K, κ.1 ∉ ([39] : List Nat) → Γ_371 κ = Γ κ := tg_fr2 hgM hcg_372 (by decide)
            obtain ⟨w0_hw_367, w1_hw_367, w2_hw_367, w3_hw_367, w4_hw_367, w5_hw_367, w6_hw_367, w7_hw_367, w8_hw_367, -⟩ := hw_367
            replace q0 : Γ_371 (39, 0, 0) 0 = Γ (39, 0, 0) 0 := w0_hw_367.trans q0
            replace q3 : Γ_371 (39, 0, 0) 3 = Γ (39, 0, 0) 3 := w1_hw_367.trans q3
            replace q4 : Γ_371 (39, 0, 0) 4 = Γ (39, 0, 0) 4 := w2_hw_367.trans q4
            replace q5 : Γ_371 (39, 0, 0) 5 = Γ (39, 0, 0) 5 := w3_hw_367.trans q5
            replace q6 : Γ_371 (39, 0, 0) 6 = Γ (39, 0, 0) 6 := w4_hw_367.trans q6
            replace q7 : Γ_371 (39, 0, 0) 7 = Γ (39, 0, 0) 7 := w5_hw_367.trans q7
            replace q8 : Γ_371 (39, 0, 0) 8 = Γ (39, 0, 0) 8 := w6_hw_367.trans q8
            replace hx9 : Γ (39, 0, 0) 1 ≤ Γ_371 (39, 0, 0) 1 ∧ Γ_371 (39, 0, 0) 1 ≤ T0 := ⟨Int.le_trans hx9.1 w7_hw_367, w8_hw_367⟩
            clear w0_hw_367 w1_hw_367 w2_hw_367 w3_hw_367 w4_hw_367 w5_hw_367 w6_hw_367 w7_hw_367 w8_hw_367
            refine lv_if_eq (tgt := 120) hx hb dX12_clauseHere_113 (by decide) (fun c_374 => ?_) (fun c_374 => ?_)
            · have c_374 := hE_373.f c_374
              refine lv_iconst (v := 0) hx hb dX12_clauseHere_120 (by decide) ?_
              refine lv_goto (tgt := 131) hx hb dX12_clauseHere_121 (by decide) ?_
              refine lv_istore_n (lv' := [(3, .int 0), (2, .int r_306), (1, .int (v_18 1)), (0, .ref o)]) hx hb dX12_clauseHere_131 rfl hl (by decide) rfl (fun ls hl => ?_)
              exact hjn132 f_369 Γ_371 0 H locs ls (show Γ_371 (39, 0, 0) 0 = Γ (39, 0, 0) 0 from q0) (show Γ_371 (39, 0, 0) 3 = Γ (39, 0, 0) 3 from q3) (show Γ_371 (39, 0, 0) 4 = Γ (39, 0, 0) 4 from q4) (show Γ_371 (39, 0, 0) 5 = Γ (39, 0, 0) 5 from q5) (show Γ_371 (39, 0, 0) 6 = Γ (39, 0, 0) 6 from q6) (show Γ_371 (39, 0, 0) 7 = Γ (39, 0, 0) 7 from q7) (show Γ_371 (39, 0, 0) 8 = Γ (39, 0, 0) 8 from q8) (show Γ (39, 0, 0) 1 ≤ Γ_371 (39, 0, 0) 1 ∧ Γ_371 (39, 0, 0) 1 ≤ T0 from hx9) (show ∀ κ : tk_K, κ.1 ∉ ([39] : List Nat) → Γ_371 κ = Γ κ from hgM) (show (0 : Int) = 0 ∨ (0 : Int) = 1 from (by decide)) (show (0 : Int) = 1 → tr_H τ T0 (Γ_371 (39, 0, 0) 1) t0 from (fun q9 => absurd q9 (by decide))) hP hI hfr hgr hS (lv_sub hl [0, 2, 3] rfl)
            · have c_374 := hE_373.t c_374
              refine lv_iconst (v := 1) hx hb dX12_clauseHere_116 (by decide) ?_
              refine lv_goto (tgt := 131) hx hb dX12_clauseHere_117 (by decide) ?_
              refine lv_istore_n (lv' := [(3, .int 1), (2, .int r_306), (1, .int (v_18 1)), (0, .ref o)]) hx hb dX12_clauseHere_131 rfl hl (by decide) rfl (fun ls hl => ?_)
              exact hjn132 f_369 Γ_371 1 H locs ls (show Γ_371 (39, 0, 0) 0 = Γ (39, 0, 0) 0 from q0) (show Γ_371 (39, 0, 0) 3 = Γ (39, 0, 0) 3 from q3) (show Γ_371 (39, 0, 0) 4 = Γ (39, 0, 0) 4 from q4) (show Γ_371 (39, 0, 0) 5 = Γ (39, 0, 0) 5 from q5) (show Γ_371 (39, 0, 0) 6 = Γ (39, 0, 0) 6 from q6) (show Γ_371 (39, 0, 0) 7 = Γ (39, 0, 0) 7 from q7) (show Γ_371 (39, 0, 0) 8 = Γ (39, 0, 0) 8 from q8) (show Γ (39, 0, 0) 1 ≤ Γ_371 (39, 0, 0) 1 ∧ Γ_371 (39, 0, 0) 1 ≤ T0 from hx9) (show ∀ κ : tk_K, κ.1 ∉ ([39] : List Nat) → Γ_371 κ = Γ κ from hgM) (show (1 : Int) = 0 ∨ (1 : Int) = 1 from (by decide)) (show (1 : Int) = 1 → tr_H τ T0 (Γ_371 (39, 0, 0) 1) t0 from (fun _ => by first | exact Or.inl ⟨by omega, by first | exact Or.inl (by assumption) | exact Or.inr (Or.inl (by assumption)) | exact Or.inr (Or.inr (Or.inl (by assumption))) | exact Or.inr (Or.inr (Or.inr (by assumption)))⟩ | exact Or.inr (Or.inl ⟨by omega, by first | exact Or.inl (by assumption) | exact Or.inr (Or.inl (by assumption)) | exact Or.inr (Or.inr (Or.inl (by assumption))) | exact Or.inr (Or.inr (Or.inr (by assumption)))⟩))) hP hI hfr hgr hS (lv_sub hl [0, 2, 3] rfl)
  · have c_307 : r_306.toInt = (0 : Int) := tl_eq c_307
    refine lv_aload_n hx hb dX12_clauseHere_23 rfl (lv_at hl 2 rfl) ?_
    refine lv_ldc2 (v := 495672979045) hx hb hown (hta _ wk_552) dX12_clauseHere_24 ?_
    refine tq_ciR hS (hAf _ hS.1) (tq_rV (As := [.long 495672979045]) (rest := []) ⟨hx, hb, hml, hown, hta⟩ (tp_P.pre hK hN hL hU hI hP) (tp_recv hK hP ho.1 hf_16 rfl) lk_X12_174 (r_X12_isWord l D cy H.size L K Γ_14 f_12 o 495672979045 τ T0 ho ((hgr _ (by decide)).trans ht) (by first | omega | (simp only [Int32.toInt_toInt64]; omega) | decide | assumption) (by first | omega | (simp only [Int32.toInt_toInt64]; omega) | decide | assumption)) rfl rfl ⟨Nat.le_of_ble_eq_true rfl, Nat.le_of_ble_eq_true rfl⟩ rfl hl.1 rfl (Nat.le_of_ble_eq_true rfl) dX12_clauseHere_27 ⟨Nat.le_of_ble_eq_true rfl, Nat.le_of_ble_eq_true rfl⟩) (fun r_376 f_377 Γ_379 H locs hw_375 hP hI hc_378 hcg_380 hS => ?_)
    have hD : va_D A (va_pl L f_377) := tp_D hL hAL
    have hfr := tp_fr2 hfr hc_378 (by decide)
    have hgr : ∀ κ : tk_K, κ.1 ∉ ([39, 43, 44, 52, 45, 46, 53, 47, 54, 55, 56, 48, 49, 50, 51] : List Nat) → Γ_379 κ = Γ κ := tg_fr2 hgr hcg_380 (by decide)
    obtain ⟨hE_381, hw_375⟩ := hw_375
    have hE_381 : tl_E r_376 (tr_W τ T0 (Γ_379 (39, 0, 0) 1) 495672979045) 1 0 := hE_381
    have hw_375 : Γ_379 (39, 0, 0) 0 = Γ_14 (39, 0, 0) 0 ∧ Γ_379 (39, 0, 0) 3 = Γ_14 (39, 0, 0) 3 ∧ Γ_379 (39, 0, 0) 4 = Γ_14 (39, 0, 0) 4 ∧ Γ_379 (39, 0, 0) 5 = Γ_14 (39, 0, 0) 5 ∧ Γ_379 (39, 0, 0) 6 = Γ_14 (39, 0, 0) 6 ∧ Γ_379 (39, 0, 0) 7 = Γ_14 (39, 0, 0) 7 ∧ Γ_379 (39, 0, 0) 8 = Γ_14 (39, 0, 0) 8 ∧ Γ_14 (39, 0, 0) 1 ≤ Γ_379 (39, 0, 0) 1 ∧ Γ_379 (39, 0, 0) 1 ≤ T0 ∧ (¬ τ (Γ_14 (39, 0, 0) 1).toNat = 32 → Γ_379 (39, 0, 0) 1 = Γ_14 (39, 0, 0) 1) := hw_375
    have hgM : ∀ κ : tk_K, κ.1 ∉ ([39] : List Nat) → Γ_379 κ = Γ κ := tg_fr2 hgM hcg_380 (by decide)
    obtain ⟨w0_hw_375, w1_hw_375, w2_hw_375, w3_hw_375, w4_hw_375, w5_hw_375, w6_hw_375, w7_hw_375, w8_hw_375, -⟩ := hw_375
    replace q0 : Γ_379 (39, 0, 0) 0 = Γ (39, 0, 0) 0 := w0_hw_375.trans q0
    replace q3 : Γ_379 (39, 0, 0) 3 = Γ (39, 0, 0) 3 := w1_hw_375.trans q3
    replace q4 : Γ_379 (39, 0, 0) 4 = Γ (39, 0, 0) 4 := w2_hw_375.trans q4
    replace q5 : Γ_379 (39, 0, 0) 5 = Γ (39, 0, 0) 5 := w3_hw_375.trans q5
    replace q6 : Γ_379 (39, 0, 0) 6 = Γ (39, 0, 0) 6 := w4_hw_375.trans q6
    replace q7 : Γ_379 (39, 0, 0) 7 = Γ (39, 0, 0) 7 := w5_hw_375.trans q7
    replace q8 : Γ_379 (39, 0, 0) 8 = Γ (39, 0, 0) 8 := w6_hw_375.trans q8
    replace hx9 : Γ (39, 0, 0) 1 ≤ Γ_379 (39, 0, 0) 1 ∧ Γ_379 (39, 0, 0) 1 ≤ T0 := ⟨Int.le_trans hx9.1 w7_hw_375, w8_hw_375⟩
    clear w0_hw_375 w1_hw_375 w2_hw_375 w3_hw_375 w4_hw_375 w5_hw_375 w6_hw_375 w7_hw_375 w8_hw_375
    refine lv_if_ne (tgt := 63) hx hb dX12_clauseHere_30 (by decide) (fun c_382 => ?_) (fun c_382 => ?_)
    · have c_382 := hE_381.t c_382
      refine lv_iconst (v := 1) hx hb dX12_clauseHere_63 (by decide) ?_
      refine lv_goto (tgt := 131) hx hb dX12_clauseHere_64 (by decide) ?_
      refine lv_istore_n (lv' := [(3, .int 1), (2, .int r_306), (1, .int (v_18 1)), (0, .ref o)]) hx hb dX12_clauseHere_131 rfl hl (by decide) rfl (fun ls hl => ?_)
      exact hjn132 f_377 Γ_379 1 H locs ls (show Γ_379 (39, 0, 0) 0 = Γ (39, 0, 0) 0 from q0) (show Γ_379 (39, 0, 0) 3 = Γ (39, 0, 0) 3 from q3) (show Γ_379 (39, 0, 0) 4 = Γ (39, 0, 0) 4 from q4) (show Γ_379 (39, 0, 0) 5 = Γ (39, 0, 0) 5 from q5) (show Γ_379 (39, 0, 0) 6 = Γ (39, 0, 0) 6 from q6) (show Γ_379 (39, 0, 0) 7 = Γ (39, 0, 0) 7 from q7) (show Γ_379 (39, 0, 0) 8 = Γ (39, 0, 0) 8 from q8) (show Γ (39, 0, 0) 1 ≤ Γ_379 (39, 0, 0) 1 ∧ Γ_379 (39, 0, 0) 1 ≤ T0 from hx9) (show ∀ κ : tk_K, κ.1 ∉ ([39] : List Nat) → Γ_379 κ = Γ κ from hgM) (show (1 : Int) = 0 ∨ (1 : Int) = 1 from (by decide)) (show (1 : Int) = 1 → tr_H τ T0 (Γ_379 (39, 0, 0) 1) t0 from (fun _ => by first | exact Or.inl ⟨by omega, by first | exact Or.inl (by assumption) | exact Or.inr (Or.inl (by assumption)) | exact Or.inr (Or.inr (Or.inl (by assumption))) | exact Or.inr (Or.inr (Or.inr (by assumption)))⟩ | exact Or.inr (Or.inl ⟨by omega, by first | exact Or.inl (by assumption) | exact Or.inr (Or.inl (by assumption)) | exact Or.inr (Or.inr (Or.inl (by assumption))) | exact Or.inr (Or.inr (Or.inr (by assumption)))⟩))) hP hI hfr hgr hS (lv_sub hl [0, 2, 3] rfl)
    · have c_382 := hE_381.f c_382
      refine lv_aload_n hx hb dX12_clauseHere_33 rfl (lv_at hl 2 rfl) ?_
      refine lv_ldc2 (v := 125797183548517) hx hb hown (hta _ wk_553) dX12_clauseHere_34 ?_
      obtain ⟨r_384, v_385, q_386, hf_383, hr_387, hv_388⟩ := (show tp_o_M L K 0 0 (Γ_379 (39, 0, 0)) (f_377 o) from hI.at ho)
      refine tq_ciR hS (hAf _ hS.1) (tq_rV (As := [.long 125797183548517]) (rest := []) ⟨hx, hb, hml, hown, hta⟩ (tp_P.pre hK hN hL hU hI hP) (tp_recv hK hP ho.1 hf_383 rfl) lk_X12_174 (r_X12_isWord l D cy H.size L K Γ_379 f_377 o 125797183548517 τ T0 ho ((hgr _ (by decide)).trans ht) (by first | omega | (simp only [Int32.toInt_toInt64]; omega) | decide | assumption) (by first | omega | (simp only [Int32.toInt_toInt64]; omega) | decide | assumption)) rfl rfl ⟨Nat.le_of_ble_eq_true rfl, Nat.le_of_ble_eq_true rfl⟩ rfl hl.1 rfl (Nat.le_of_ble_eq_true rfl) dX12_clauseHere_37 ⟨Nat.le_of_ble_eq_true rfl, Nat.le_of_ble_eq_true rfl⟩) (fun r_393 f_394 Γ_396 H locs hw_392 hP hI hc_395 hcg_397 hS => ?_)
      have hD : va_D A (va_pl L f_394) := tp_D hL hAL
      have hfr := tp_fr2 hfr hc_395 (by decide)
      have hgr : ∀ κ : tk_K, κ.1 ∉ ([39, 43, 44, 52, 45, 46, 53, 47, 54, 55, 56, 48, 49, 50, 51] : List Nat) → Γ_396 κ = Γ κ := tg_fr2 hgr hcg_397 (by decide)
      obtain ⟨hE_398, hw_392⟩ := hw_392
      have hE_398 : tl_E r_393 (tr_W τ T0 (Γ_396 (39, 0, 0) 1) 125797183548517) 1 0 := hE_398
      have hw_392 : Γ_396 (39, 0, 0) 0 = Γ_379 (39, 0, 0) 0 ∧ Γ_396 (39, 0, 0) 3 = Γ_379 (39, 0, 0) 3 ∧ Γ_396 (39, 0, 0) 4 = Γ_379 (39, 0, 0) 4 ∧ Γ_396 (39, 0, 0) 5 = Γ_379 (39, 0, 0) 5 ∧ Γ_396 (39, 0, 0) 6 = Γ_379 (39, 0, 0) 6 ∧ Γ_396 (39, 0, 0) 7 = Γ_379 (39, 0, 0) 7 ∧ Γ_396 (39, 0, 0) 8 = Γ_379 (39, 0, 0) 8 ∧ Γ_379 (39, 0, 0) 1 ≤ Γ_396 (39, 0, 0) 1 ∧ Γ_396 (39, 0, 0) 1 ≤ T0 ∧ (¬ τ (Γ_379 (39, 0, 0) 1).toNat = 32 → Γ_396 (39, 0, 0) 1 = Γ_379 (39, 0, 0) 1) := hw_392
      have hgM : ∀ κ : tk_K, κ.1 ∉ ([39] : List Nat) → Γ_396 κ = Γ κ := tg_fr2 hgM hcg_397 (by decide)
      obtain ⟨w0_hw_392, w1_hw_392, w2_hw_392, w3_hw_392, w4_hw_392, w5_hw_392, w6_hw_392, w7_hw_392, w8_hw_392, -⟩ := hw_392
      replace q0 : Γ_396 (39, 0, 0) 0 = Γ (39, 0, 0) 0 := w0_hw_392.trans q0
      replace q3 : Γ_396 (39, 0, 0) 3 = Γ (39, 0, 0) 3 := w1_hw_392.trans q3
      replace q4 : Γ_396 (39, 0, 0) 4 = Γ (39, 0, 0) 4 := w2_hw_392.trans q4
      replace q5 : Γ_396 (39, 0, 0) 5 = Γ (39, 0, 0) 5 := w3_hw_392.trans q5
      replace q6 : Γ_396 (39, 0, 0) 6 = Γ (39, 0, 0) 6 := w4_hw_392.trans q6
      replace q7 : Γ_396 (39, 0, 0) 7 = Γ (39, 0, 0) 7 := w5_hw_392.trans q7
      replace q8 : Γ_396 (39, 0, 0) 8 = Γ (39, 0, 0) 8 := w6_hw_392.trans q8
      replace hx9 : Γ (39, 0, 0) 1 ≤ Γ_396 (39, 0, 0) 1 ∧ Γ_396 (39, 0, 0) 1 ≤ T0 := ⟨Int.le_trans hx9.1 w7_hw_392, w8_hw_392⟩
      clear w0_hw_392 w1_hw_392 w2_hw_392 w3_hw_392 w4_hw_392 w5_hw_392 w6_hw_392 w7_hw_392 w8_hw_392
      refine lv_if_ne (tgt := 63) hx hb dX12_clauseHere_40 (by decide) (fun c_399 => ?_) (fun c_399 => ?_)
      · have c_399 := hE_398.t c_399
        refine lv_iconst (v := 1) hx hb dX12_clauseHere_63 (by decide) ?_
        refine lv_goto (tgt := 131) hx hb dX12_clauseHere_64 (by decide) ?_
        refine lv_istore_n (lv' := [(3, .int 1), (2, .int r_306), (1, .int (v_18 1)), (0, .ref o)]) hx hb dX12_clauseHere_131 rfl hl (by decide) rfl (fun ls hl => ?_)
        exact hjn132 f_394 Γ_396 1 H locs ls (show Γ_396 (39, 0, 0) 0 = Γ (39, 0, 0) 0 from q0) (show Γ_396 (39, 0, 0) 3 = Γ (39, 0, 0) 3 from q3) (show Γ_396 (39, 0, 0) 4 = Γ (39, 0, 0) 4 from q4) (show Γ_396 (39, 0, 0) 5 = Γ (39, 0, 0) 5 from q5) (show Γ_396 (39, 0, 0) 6 = Γ (39, 0, 0) 6 from q6) (show Γ_396 (39, 0, 0) 7 = Γ (39, 0, 0) 7 from q7) (show Γ_396 (39, 0, 0) 8 = Γ (39, 0, 0) 8 from q8) (show Γ (39, 0, 0) 1 ≤ Γ_396 (39, 0, 0) 1 ∧ Γ_396 (39, 0, 0) 1 ≤ T0 from hx9) (show ∀ κ : tk_K, κ.1 ∉ ([39] : List Nat) → Γ_396 κ = Γ κ from hgM) (show (1 : Int) = 0 ∨ (1 : Int) = 1 from (by decide)) (show (1 : Int) = 1 → tr_H τ T0 (Γ_396 (39, 0, 0) 1) t0 from (fun _ => by first | exact Or.inl ⟨by omega, by first | exact Or.inl (by assumption) | exact Or.inr (Or.inl (by assumption)) | exact Or.inr (Or.inr (Or.inl (by assumption))) | exact Or.inr (Or.inr (Or.inr (by assumption)))⟩ | exact Or.inr (Or.inl ⟨by omega, by first | exact Or.inl (by assumption) | exact Or.inr (Or.inl (by assumption)) | exact Or.inr (Or.inr (Or.inl (by assumption))) | exact Or.inr (Or.inr (Or.inr (by assumption)))⟩))) hP hI hfr hgr hS (lv_sub hl [0, 2, 3] rfl)
      · have c_399 := hE_398.f c_399
        refine lv_aload_n hx hb dX12_clauseHere_43 rfl (lv_at hl 2 rfl) ?_
        refine lv_ldc2 (v := 474315584357) hx hb hown (hta _ wk_554) dX12_clauseHere_44 ?_
        obtain ⟨r_401, v_402, q_403, hf_400, hr_404, hv_405⟩ := (show tp_o_M L K 0 0 (Γ_396 (39, 0, 0)) (f_394 o) from hI.at ho)
        refine tq_ciR hS (hAf _ hS.1) (tq_rV (As := [.long 474315584357]) (rest := []) ⟨hx, hb, hml, hown, hta⟩ (tp_P.pre hK hN hL hU hI hP) (tp_recv hK hP ho.1 hf_400 rfl) lk_X12_174 (r_X12_isWord l D cy H.size L K Γ_396 f_394 o 474315584357 τ T0 ho ((hgr _ (by decide)).trans ht) (by first | omega | (simp only [Int32.toInt_toInt64]; omega) | decide | assumption) (by first | omega | (simp only [Int32.toInt_toInt64]; omega) | decide | assumption)) rfl rfl ⟨Nat.le_of_ble_eq_true rfl, Nat.le_of_ble_eq_true rfl⟩ rfl hl.1 rfl (Nat.le_of_ble_eq_true rfl) dX12_clauseHere_47 ⟨Nat.le_of_ble_eq_true rfl, Nat.le_of_ble_eq_true rfl⟩) (fun r_410 f_411 Γ_413 H locs hw_409 hP hI hc_412 hcg_414 hS => ?_)
        have hD : va_D A (va_pl L f_411) := tp_D hL hAL
        have hfr := tp_fr2 hfr hc_412 (by decide)
        have hgr : ∀ κ : tk_K, κ.1 ∉ ([39, 43, 44, 52, 45, 46, 53, 47, 54, 55, 56, 48, 49, 50, 51] : List Nat) → Γ_413 κ = Γ κ := tg_fr2 hgr hcg_414 (by decide)
        obtain ⟨hE_415, hw_409⟩ := hw_409
        have hE_415 : tl_E r_410 (tr_W τ T0 (Γ_413 (39, 0, 0) 1) 474315584357) 1 0 := hE_415
        have hw_409 : Γ_413 (39, 0, 0) 0 = Γ_396 (39, 0, 0) 0 ∧ Γ_413 (39, 0, 0) 3 = Γ_396 (39, 0, 0) 3 ∧ Γ_413 (39, 0, 0) 4 = Γ_396 (39, 0, 0) 4 ∧ Γ_413 (39, 0, 0) 5 = Γ_396 (39, 0, 0) 5 ∧ Γ_413 (39, 0, 0) 6 = Γ_396 (39, 0, 0) 6 ∧ Γ_413 (39, 0, 0) 7 = Γ_396 (39, 0, 0) 7 ∧ Γ_413 (39, 0, 0) 8 = Γ_396 (39, 0, 0) 8 ∧ Γ_396 (39, 0, 0) 1 ≤ Γ_413 (39, 0, 0) 1 ∧ Γ_413 (39, 0, 0) 1 ≤ T0 ∧ (¬ τ (Γ_396 (39, 0, 0) 1).toNat = 32 → Γ_413 (39, 0, 0) 1 = Γ_396 (39, 0, 0) 1) := hw_409
        have hgM : ∀ κ : tk_K, κ.1 ∉ ([39] : List Nat) → Γ_413 κ = Γ κ := tg_fr2 hgM hcg_414 (by decide)
        obtain ⟨w0_hw_409, w1_hw_409, w2_hw_409, w3_hw_409, w4_hw_409, w5_hw_409, w6_hw_409, w7_hw_409, w8_hw_409, -⟩ := hw_409
        replace q0 : Γ_413 (39, 0, 0) 0 = Γ (39, 0, 0) 0 := w0_hw_409.trans q0
        replace q3 : Γ_413 (39, 0, 0) 3 = Γ (39, 0, 0) 3 := w1_hw_409.trans q3
        replace q4 : Γ_413 (39, 0, 0) 4 = Γ (39, 0, 0) 4 := w2_hw_409.trans q4
        replace q5 : Γ_413 (39, 0, 0) 5 = Γ (39, 0, 0) 5 := w3_hw_409.trans q5
        replace q6 : Γ_413 (39, 0, 0) 6 = Γ (39, 0, 0) 6 := w4_hw_409.trans q6
        replace q7 : Γ_413 (39, 0, 0) 7 = Γ (39, 0, 0) 7 := w5_hw_409.trans q7
        replace q8 : Γ_413 (39, 0, 0) 8 = Γ (39, 0, 0) 8 := w6_hw_409.trans q8
        replace hx9 : Γ (39, 0, 0) 1 ≤ Γ_413 (39, 0, 0) 1 ∧ Γ_413 (39, 0, 0) 1 ≤ T0 := ⟨Int.le_trans hx9.1 w7_hw_409, w8_hw_409⟩
        clear w0_hw_409 w1_hw_409 w2_hw_409 w3_hw_409 w4_hw_409 w5_hw_409 w6_hw_409 w7_hw_409 w8_hw_409
        refine lv_if_ne (tgt := 63) hx hb dX12_clauseHere_50 (by decide) (fun c_416 => ?_) (fun c_416 => ?_)
        · have c_416 := hE_415.t c_416
          refine lv_iconst (v := 1) hx hb dX12_clauseHere_63 (by decide) ?_
          refine lv_goto (tgt := 131) hx hb dX12_clauseHere_64 (by decide) ?_
          refine lv_istore_n (lv' := [(3, .int 1), (2, .int r_306), (1, .int (v_18 1)), (0, .ref o)]) hx hb dX12_clauseHere_131 rfl hl (by decide) rfl (fun ls hl => ?_)
          exact hjn132 f_411 Γ_413 1 H locs ls (show Γ_413 (39, 0, 0) 0 = Γ (39, 0, 0) 0 from q0) (show Γ_413 (39, 0, 0) 3 = Γ (39, 0, 0) 3 from q3) (show Γ_413 (39, 0, 0) 4 = Γ (39, 0, 0) 4 from q4) (show Γ_413 (39, 0, 0) 5 = Γ (39, 0, 0) 5 from q5) (show Γ_413 (39, 0, 0) 6 = Γ (39, 0, 0) 6 from q6) (show Γ_413 (39, 0, 0) 7 = Γ (39, 0, 0) 7 from q7) (show Γ_413 (39, 0, 0) 8 = Γ (39, 0, 0) 8 from q8) (show Γ (39, 0, 0) 1 ≤ Γ_413 (39, 0, 0) 1 ∧ Γ_413 (39, 0, 0) 1 ≤ T0 from hx9) (show ∀ κ : tk_K, κ.1 ∉ ([39] : List Nat) → Γ_413 κ = Γ κ from hgM) (show (1 : Int) = 0 ∨ (1 : Int) = 1 from (by decide)) (show (1 : Int) = 1 → tr_H τ T0 (Γ_413 (39, 0, 0) 1) t0 from (fun _ => by first | exact Or.inl ⟨by omega, by first | exact Or.inl (by assumption) | exact Or.inr (Or.inl (by assumption)) | exact Or.inr (Or.inr (Or.inl (by assumption))) | exact Or.inr (Or.inr (Or.inr (by assumption)))⟩ | exact Or.inr (Or.inl ⟨by omega, by first | exact Or.inl (by assumption) | exact Or.inr (Or.inl (by assumption)) | exact Or.inr (Or.inr (Or.inl (by assumption))) | exact Or.inr (Or.inr (Or.inr (by assumption)))⟩))) hP hI hfr hgr hS (lv_sub hl [0, 2, 3] rfl)
        · have c_416 := hE_415.f c_416
          refine lv_aload_n hx hb dX12_clauseHere_53 rfl (lv_at hl 2 rfl) ?_
          refine lv_ldc2 (v := 1700885619) hx hb hown (hta _ wk_555) dX12_clauseHere_54 ?_
          obtain ⟨r_418, v_419, q_420, hf_417, hr_421, hv_422⟩ := (show tp_o_M L K 0 0 (Γ_413 (39, 0, 0)) (f_411 o) from hI.at ho)
          refine tq_ciR hS (hAf _ hS.1) (tq_rV (As := [.long 1700885619]) (rest := []) ⟨hx, hb, hml, hown, hta⟩ (tp_P.pre hK hN hL hU hI hP) (tp_recv hK hP ho.1 hf_417 rfl) lk_X12_174 (r_X12_isWord l D cy H.size L K Γ_413 f_411 o 1700885619 τ T0 ho ((hgr _ (by decide)).trans ht) (by first | omega | (simp only [Int32.toInt_toInt64]; omega) | decide | assumption) (by first | omega | (simp only [Int32.toInt_toInt64]; omega) | decide | assumption)) rfl rfl ⟨Nat.le_of_ble_eq_true rfl, Nat.le_of_ble_eq_true rfl⟩ rfl hl.1 rfl (Nat.le_of_ble_eq_true rfl) dX12_clauseHere_57 ⟨Nat.le_of_ble_eq_true rfl, Nat.le_of_ble_eq_true rfl⟩) (fun r_427 f_428 Γ_430 H locs hw_426 hP hI hc_429 hcg_431 hS => ?_)
          have hD : va_D A (va_pl L f_428) := tp_D hL hAL
          have hfr := tp_fr2 hfr hc_429 (by decide)
          have hgr : ∀ κ : tk_K, κ.1 ∉ ([39, 43, 44, 52, 45, 46, 53, 47, 54, 55, 56, 48, 49, 50, 51] : List Nat) → Γ_430 κ = Γ κ := tg_fr2 hgr hcg_431 (by decide)
          obtain ⟨hE_432, hw_426⟩ := hw_426
          have hE_432 : tl_E r_427 (tr_W τ T0 (Γ_430 (39, 0, 0) 1) 1700885619) 1 0 := hE_432
          have hw_426 : Γ_430 (39, 0, 0) 0 = Γ_413 (39, 0, 0) 0 ∧ Γ_430 (39, 0, 0) 3 = Γ_413 (39, 0, 0) 3 ∧ Γ_430 (39, 0, 0) 4 = Γ_413 (39, 0, 0) 4 ∧ Γ_430 (39, 0, 0) 5 = Γ_413 (39, 0, 0) 5 ∧ Γ_430 (39, 0, 0) 6 = Γ_413 (39, 0, 0) 6 ∧ Γ_430 (39, 0, 0) 7 = Γ_413 (39, 0, 0) 7 ∧ Γ_430 (39, 0, 0) 8 = Γ_413 (39, 0, 0) 8 ∧ Γ_413 (39, 0, 0) 1 ≤ Γ_430 (39, 0, 0) 1 ∧ Γ_430 (39, 0, 0) 1 ≤ T0 ∧ (¬ τ (Γ_413 (39, 0, 0) 1).toNat = 32 → Γ_430 (39, 0, 0) 1 = Γ_413 (39, 0, 0) 1) := hw_426
          have hgM : ∀ κ : tk_K, κ.1 ∉ ([39] : List Nat) → Γ_430 κ = Γ κ := tg_fr2 hgM hcg_431 (by decide)
          obtain ⟨w0_hw_426, w1_hw_426, w2_hw_426, w3_hw_426, w4_hw_426, w5_hw_426, w6_hw_426, w7_hw_426, w8_hw_426, -⟩ := hw_426
          replace q0 : Γ_430 (39, 0, 0) 0 = Γ (39, 0, 0) 0 := w0_hw_426.trans q0
          replace q3 : Γ_430 (39, 0, 0) 3 = Γ (39, 0, 0) 3 := w1_hw_426.trans q3
          replace q4 : Γ_430 (39, 0, 0) 4 = Γ (39, 0, 0) 4 := w2_hw_426.trans q4
          replace q5 : Γ_430 (39, 0, 0) 5 = Γ (39, 0, 0) 5 := w3_hw_426.trans q5
          replace q6 : Γ_430 (39, 0, 0) 6 = Γ (39, 0, 0) 6 := w4_hw_426.trans q6
          replace q7 : Γ_430 (39, 0, 0) 7 = Γ (39, 0, 0) 7 := w5_hw_426.trans q7
          replace q8 : Γ_430 (39, 0, 0) 8 = Γ (39, 0, 0) 8 := w6_hw_426.trans q8
          replace hx9 : Γ (39, 0, 0) 1 ≤ Γ_430 (39, 0, 0) 1 ∧ Γ_430 (39, 0, 0) 1 ≤ T0 := ⟨Int.le_trans hx9.1 w7_hw_426, w8_hw_426⟩
          clear w0_hw_426 w1_hw_426 w2_hw_426 w3_hw_426 w4_hw_426 w5_hw_426 w6_hw_426 w7_hw_426 w8_hw_426
          refine lv_if_eq (tgt := 67) hx hb dX12_clauseHere_60 (by decide) (fun c_433 => ?_) (fun c_433 => ?_)
          · have c_433 := hE_432.f c_433
            refine lv_iconst (v := 0) hx hb dX12_clauseHere_67 (by decide) ?_
            refine lv_goto (tgt := 131) hx hb dX12_clauseHere_68 (by decide) ?_
            refine lv_istore_n (lv' := [(3, .int 0), (2, .int r_306), (1, .int (v_18 1)), (0, .ref o)]) hx hb dX12_clauseHere_131 rfl hl (by decide) rfl (fun ls hl => ?_)
            exact hjn132 f_428 Γ_430 0 H locs ls (show Γ_430 (39, 0, 0) 0 = Γ (39, 0, 0) 0 from q0) (show Γ_430 (39, 0, 0) 3 = Γ (39, 0, 0) 3 from q3) (show Γ_430 (39, 0, 0) 4 = Γ (39, 0, 0) 4 from q4) (show Γ_430 (39, 0, 0) 5 = Γ (39, 0, 0) 5 from q5) (show Γ_430 (39, 0, 0) 6 = Γ (39, 0, 0) 6 from q6) (show Γ_430 (39, 0, 0) 7 = Γ (39, 0, 0) 7 from q7) (show Γ_430 (39, 0, 0) 8 = Γ (39, 0, 0) 8 from q8) (show Γ (39, 0, 0) 1 ≤ Γ_430 (39, 0, 0) 1 ∧ Γ_430 (39, 0, 0) 1 ≤ T0 from hx9) (show ∀ κ : tk_K, κ.1 ∉ ([39] : List Nat) → Γ_430 κ = Γ κ from hgM) (show (0 : Int) = 0 ∨ (0 : Int) = 1 from (by decide)) (show (0 : Int) = 1 → tr_H τ T0 (Γ_430 (39, 0, 0) 1) t0 from (fun q9 => absurd q9 (by decide))) hP hI hfr hgr hS (lv_sub hl [0, 2, 3] rfl)
          · have c_433 := hE_432.t c_433
            refine lv_iconst (v := 1) hx hb dX12_clauseHere_63 (by decide) ?_
            refine lv_goto (tgt := 131) hx hb dX12_clauseHere_64 (by decide) ?_
            refine lv_istore_n (lv' := [(3, .int 1), (2, .int r_306), (1, .int (v_18 1)), (0, .ref o)]) hx hb dX12_clauseHere_131 rfl hl (by decide) rfl (fun ls hl => ?_)
            exact hjn132 f_428 Γ_430 1 H locs ls (show Γ_430 (39, 0, 0) 0 = Γ (39, 0, 0) 0 from q0) (show Γ_430 (39, 0, 0) 3 = Γ (39, 0, 0) 3 from q3) (show Γ_430 (39, 0, 0) 4 = Γ (39, 0, 0) 4 from q4) (show Γ_430 (39, 0, 0) 5 = Γ (39, 0, 0) 5 from q5) (show Γ_430 (39, 0, 0) 6 = Γ (39, 0, 0) 6 from q6) (show Γ_430 (39, 0, 0) 7 = Γ (39, 0, 0) 7 from q7) (show Γ_430 (39, 0, 0) 8 = Γ (39, 0, 0) 8 from q8) (show Γ (39, 0, 0) 1 ≤ Γ_430 (39, 0, 0) 1 ∧ Γ_430 (39, 0, 0) 1 ≤ T0 from hx9) (show ∀ κ : tk_K, κ.1 ∉ ([39] : List Nat) → Γ_430 κ = Γ κ from hgM) (show (1 : Int) = 0 ∨ (1 : Int) = 1 from (by decide)) (show (1 : Int) = 1 → tr_H τ T0 (Γ_430 (39, 0, 0) 1) t0 from (fun _ => by first | exact Or.inl ⟨by omega, by first | exact Or.inl (by assumption) | exact Or.inr (Or.inl (by assumption)) | exact Or.inr (Or.inr (Or.inl (by assumption))) | exact Or.inr (Or.inr (Or.inr (by assumption)))⟩ | exact Or.inr (Or.inl ⟨by omega, by first | exact Or.inl (by assumption) | exact Or.inr (Or.inl (by assumption)) | exact Or.inr (Or.inr (Or.inl (by assumption))) | exact Or.inr (Or.inr (Or.inr (by assumption)))⟩))) hP hI hfr hgr hS (lv_sub hl [0, 2, 3] rfl)
