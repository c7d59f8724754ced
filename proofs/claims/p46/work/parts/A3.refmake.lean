theorem dX12_makesAt_0 : decode cX12_makesAt 0 = .ok (.aload_n 0, 1) := by decide +kernel
theorem dX12_makesAt_1 : decode cX12_makesAt 1 = .ok (.iload_n 2, 1) := by decide +kernel
theorem dX12_makesAt_2 : decode cX12_makesAt 2 = .ok (.iload_n 3, 1) := by decide +kernel
theorem dX12_makesAt_3 : decode cX12_makesAt 3 = .ok (.invokevirtual 352, 3) := by decide +kernel
theorem dX12_makesAt_6 : decode cX12_makesAt 6 = .ok (.iconst 0, 1) := by decide +kernel
theorem dX12_makesAt_7 : decode cX12_makesAt 7 = .ok (.istore 5, 2) := by decide +kernel
theorem dX12_makesAt_9 : decode cX12_makesAt 9 = .ok (.iload 5, 2) := by decide +kernel
theorem dX12_makesAt_11 : decode cX12_makesAt 11 = .ok (.aload_n 0, 1) := by decide +kernel
theorem dX12_makesAt_12 : decode cX12_makesAt 12 = .ok (.getfield 29, 3) := by decide +kernel
theorem dX12_makesAt_15 : decode cX12_makesAt 15 = .ok (.iload_n 1, 1) := by decide +kernel
theorem dX12_makesAt_16 : decode cX12_makesAt 16 = .ok (.iaload, 1) := by decide +kernel
theorem dX12_makesAt_17 : decode cX12_makesAt 17 = .ok (.if_icmp .ge 19, 3) := by decide +kernel
theorem dX12_makesAt_20 : decode cX12_makesAt 20 = .ok (.aload_n 0, 1) := by decide +kernel
theorem dX12_makesAt_21 : decode cX12_makesAt 21 = .ok (.iload_n 1, 1) := by decide +kernel
theorem dX12_makesAt_22 : decode cX12_makesAt 22 = .ok (.iload 5, 2) := by decide +kernel
theorem dX12_makesAt_24 : decode cX12_makesAt 24 = .ok (.invokevirtual 355, 3) := by decide +kernel
theorem dX12_makesAt_27 : decode cX12_makesAt 27 = .ok (.ifCond .ne 9, 3) := by decide +kernel
theorem dX12_makesAt_30 : decode cX12_makesAt 30 = .ok (.iinc 5 1, 3) := by decide +kernel
theorem dX12_makesAt_33 : decode cX12_makesAt 33 = .ok (.goto (-24), 3) := by decide +kernel
theorem dX12_makesAt_36 : decode cX12_makesAt 36 = .ok (.iload 5, 2) := by decide +kernel
theorem dX12_makesAt_38 : decode cX12_makesAt 38 = .ok (.aload_n 0, 1) := by decide +kernel
theorem dX12_makesAt_39 : decode cX12_makesAt 39 = .ok (.getfield 29, 3) := by decide +kernel
theorem dX12_makesAt_42 : decode cX12_makesAt 42 = .ok (.iload_n 1, 1) := by decide +kernel
theorem dX12_makesAt_43 : decode cX12_makesAt 43 = .ok (.iaload, 1) := by decide +kernel
theorem dX12_makesAt_44 : decode cX12_makesAt 44 = .ok (.if_icmp .ge 22, 3) := by decide +kernel
theorem dX12_makesAt_47 : decode cX12_makesAt 47 = .ok (.aload_n 0, 1) := by decide +kernel
theorem dX12_makesAt_48 : decode cX12_makesAt 48 = .ok (.iload_n 1, 1) := by decide +kernel
theorem dX12_makesAt_49 : decode cX12_makesAt 49 = .ok (.iload 5, 2) := by decide +kernel
theorem dX12_makesAt_51 : decode cX12_makesAt 51 = .ok (.invokevirtual 358, 3) := by decide +kernel
theorem dX12_makesAt_54 : decode cX12_makesAt 54 = .ok (.ldc2_w 362, 3) := by decide +kernel
theorem dX12_makesAt_57 : decode cX12_makesAt 57 = .ok (.ldc2_w 364, 3) := by decide +kernel
theorem dX12_makesAt_60 : decode cX12_makesAt 60 = .ok (.invokestatic 366, 3) := by decide +kernel
theorem dX12_makesAt_63 : decode cX12_makesAt 63 = .ok (.goto 4, 3) := by decide +kernel
theorem dX12_makesAt_66 : decode cX12_makesAt 66 = .ok (.lconst 0, 1) := by decide +kernel
theorem dX12_makesAt_67 : decode cX12_makesAt 67 = .ok (.lstore 6, 2) := by decide +kernel
theorem dX12_makesAt_69 : decode cX12_makesAt 69 = .ok (.iconst 0, 1) := by decide +kernel
theorem dX12_makesAt_70 : decode cX12_makesAt 70 = .ok (.istore 8, 2) := by decide +kernel
theorem dX12_makesAt_72 : decode cX12_makesAt 72 = .ok (.iload 8, 2) := by decide +kernel
theorem dX12_makesAt_74 : decode cX12_makesAt 74 = .ok (.aload_n 0, 1) := by decide +kernel
theorem dX12_makesAt_75 : decode cX12_makesAt 75 = .ok (.getfield 35, 3) := by decide +kernel
theorem dX12_makesAt_78 : decode cX12_makesAt 78 = .ok (.iload_n 1, 1) := by decide +kernel
theorem dX12_makesAt_79 : decode cX12_makesAt 79 = .ok (.iaload, 1) := by decide +kernel
theorem dX12_makesAt_80 : decode cX12_makesAt 80 = .ok (.if_icmp .ge 61, 3) := by decide +kernel
theorem dX12_makesAt_83 : decode cX12_makesAt 83 = .ok (.iload 4, 2) := by decide +kernel
theorem dX12_makesAt_85 : decode cX12_makesAt 85 = .ok (.ifCond .eq 56, 3) := by decide +kernel
theorem dX12_makesAt_88 : decode cX12_makesAt 88 = .ok (.lload 6, 2) := by decide +kernel
theorem dX12_makesAt_90 : decode cX12_makesAt 90 = .ok (.aload_n 0, 1) := by decide +kernel
theorem dX12_makesAt_91 : decode cX12_makesAt 91 = .ok (.getfield 32, 3) := by decide +kernel
theorem dX12_makesAt_94 : decode cX12_makesAt 94 = .ok (.bipush 24, 2) := by decide +kernel
theorem dX12_makesAt_96 : decode cX12_makesAt 96 = .ok (.iload_n 1, 1) := by decide +kernel
theorem dX12_makesAt_97 : decode cX12_makesAt 97 = .ok (.imul, 1) := by decide +kernel
theorem dX12_makesAt_98 : decode cX12_makesAt 98 = .ok (.iconst 2, 1) := by decide +kernel
theorem dX12_makesAt_99 : decode cX12_makesAt 99 = .ok (.iload 8, 2) := by decide +kernel
theorem dX12_makesAt_101 : decode cX12_makesAt 101 = .ok (.imul, 1) := by decide +kernel
theorem dX12_makesAt_102 : decode cX12_makesAt 102 = .ok (.iadd, 1) := by decide +kernel
theorem dX12_makesAt_103 : decode cX12_makesAt 103 = .ok (.iconst 1, 1) := by decide +kernel
theorem dX12_makesAt_104 : decode cX12_makesAt 104 = .ok (.iadd, 1) := by decide +kernel
theorem dX12_makesAt_105 : decode cX12_makesAt 105 = .ok (.iaload, 1) := by decide +kernel
theorem dX12_makesAt_106 : decode cX12_makesAt 106 = .ok (.i2l, 1) := by decide +kernel
theorem dX12_makesAt_107 : decode cX12_makesAt 107 = .ok (.aload_n 0, 1) := by decide +kernel
theorem dX12_makesAt_108 : decode cX12_makesAt 108 = .ok (.aload_n 0, 1) := by decide +kernel
theorem dX12_makesAt_109 : decode cX12_makesAt 109 = .ok (.getfield 32, 3) := by decide +kernel
theorem dX12_makesAt_112 : decode cX12_makesAt 112 = .ok (.bipush 24, 2) := by decide +kernel
theorem dX12_makesAt_114 : decode cX12_makesAt 114 = .ok (.iload_n 1, 1) := by decide +kernel
theorem dX12_makesAt_115 : decode cX12_makesAt 115 = .ok (.imul, 1) := by decide +kernel
theorem dX12_makesAt_116 : decode cX12_makesAt 116 = .ok (.iconst 2, 1) := by decide +kernel
theorem dX12_makesAt_117 : decode cX12_makesAt 117 = .ok (.iload 8, 2) := by decide +kernel
theorem dX12_makesAt_119 : decode cX12_makesAt 119 = .ok (.imul, 1) := by decide +kernel
theorem dX12_makesAt_120 : decode cX12_makesAt 120 = .ok (.iadd, 1) := by decide +kernel
theorem dX12_makesAt_121 : decode cX12_makesAt 121 = .ok (.iaload, 1) := by decide +kernel
theorem dX12_makesAt_122 : decode cX12_makesAt 122 = .ok (.iload_n 3, 1) := by decide +kernel
theorem dX12_makesAt_123 : decode cX12_makesAt 123 = .ok (.invokevirtual 150, 3) := by decide +kernel
theorem dX12_makesAt_126 : decode cX12_makesAt 126 = .ok (.i2l, 1) := by decide +kernel
theorem dX12_makesAt_127 : decode cX12_makesAt 127 = .ok (.lmul, 1) := by decide +kernel
theorem dX12_makesAt_128 : decode cX12_makesAt 128 = .ok (.ldc2_w 148, 3) := by decide +kernel
theorem dX12_makesAt_131 : decode cX12_makesAt 131 = .ok (.ldiv, 1) := by decide +kernel
theorem dX12_makesAt_132 : decode cX12_makesAt 132 = .ok (.lsub, 1) := by decide +kernel
theorem dX12_makesAt_133 : decode cX12_makesAt 133 = .ok (.lstore 6, 2) := by decide +kernel
theorem dX12_makesAt_135 : decode cX12_makesAt 135 = .ok (.iinc 8 1, 3) := by decide +kernel
theorem dX12_makesAt_138 : decode cX12_makesAt 138 = .ok (.goto (-66), 3) := by decide +kernel
theorem dX12_makesAt_141 : decode cX12_makesAt 141 = .ok (.aload_n 0, 1) := by decide +kernel
theorem dX12_makesAt_142 : decode cX12_makesAt 142 = .ok (.getfield 38, 3) := by decide +kernel
theorem dX12_makesAt_145 : decode cX12_makesAt 145 = .ok (.iload_n 1, 1) := by decide +kernel
theorem dX12_makesAt_146 : decode cX12_makesAt 146 = .ok (.iaload, 1) := by decide +kernel
theorem dX12_makesAt_147 : decode cX12_makesAt 147 = .ok (.ifCond .le 76, 3) := by decide +kernel
theorem dX12_makesAt_150 : decode cX12_makesAt 150 = .ok (.iload_n 3, 1) := by decide +kernel
theorem dX12_makesAt_151 : decode cX12_makesAt 151 = .ok (.aload_n 0, 1) := by decide +kernel
theorem dX12_makesAt_152 : decode cX12_makesAt 152 = .ok (.getfield 38, 3) := by decide +kernel
theorem dX12_makesAt_155 : decode cX12_makesAt 155 = .ok (.iload_n 1, 1) := by decide +kernel
theorem dX12_makesAt_156 : decode cX12_makesAt 156 = .ok (.iaload, 1) := by decide +kernel
theorem dX12_makesAt_157 : decode cX12_makesAt 157 = .ok (.irem, 1) := by decide +kernel
theorem dX12_makesAt_158 : decode cX12_makesAt 158 = .ok (.istore 8, 2) := by decide +kernel
theorem dX12_makesAt_160 : decode cX12_makesAt 160 = .ok (.iload 8, 2) := by decide +kernel
theorem dX12_makesAt_162 : decode cX12_makesAt 162 = .ok (.aload_n 0, 1) := by decide +kernel
theorem dX12_makesAt_163 : decode cX12_makesAt 163 = .ok (.getfield 38, 3) := by decide +kernel
theorem dX12_makesAt_166 : decode cX12_makesAt 166 = .ok (.iload_n 1, 1) := by decide +kernel
theorem dX12_makesAt_167 : decode cX12_makesAt 167 = .ok (.iaload, 1) := by decide +kernel
theorem dX12_makesAt_168 : decode cX12_makesAt 168 = .ok (.iload 8, 2) := by decide +kernel
theorem dX12_makesAt_170 : decode cX12_makesAt 170 = .ok (.isub, 1) := by decide +kernel
theorem dX12_makesAt_171 : decode cX12_makesAt 171 = .ok (.if_icmp .ge 8, 3) := by decide +kernel
theorem dX12_makesAt_174 : decode cX12_makesAt 174 = .ok (.iload 8, 2) := by decide +kernel
theorem dX12_makesAt_176 : decode cX12_makesAt 176 = .ok (.goto 12, 3) := by decide +kernel
theorem dX12_makesAt_179 : decode cX12_makesAt 179 = .ok (.aload_n 0, 1) := by decide +kernel
theorem dX12_makesAt_180 : decode cX12_makesAt 180 = .ok (.getfield 38, 3) := by decide +kernel
theorem dX12_makesAt_183 : decode cX12_makesAt 183 = .ok (.iload_n 1, 1) := by decide +kernel
theorem dX12_makesAt_184 : decode cX12_makesAt 184 = .ok (.iaload, 1) := by decide +kernel
theorem dX12_makesAt_185 : decode cX12_makesAt 185 = .ok (.iload 8, 2) := by decide +kernel
theorem dX12_makesAt_187 : decode cX12_makesAt 187 = .ok (.isub, 1) := by decide +kernel
theorem dX12_makesAt_188 : decode cX12_makesAt 188 = .ok (.istore 9, 2) := by decide +kernel
theorem dX12_makesAt_190 : decode cX12_makesAt 190 = .ok (.lload 6, 2) := by decide +kernel
theorem dX12_makesAt_192 : decode cX12_makesAt 192 = .ok (.iconst 2, 1) := by decide +kernel
theorem dX12_makesAt_193 : decode cX12_makesAt 193 = .ok (.aload_n 0, 1) := by decide +kernel
theorem dX12_makesAt_194 : decode cX12_makesAt 194 = .ok (.getfield 41, 3) := by decide +kernel
theorem dX12_makesAt_197 : decode cX12_makesAt 197 = .ok (.iload_n 1, 1) := by decide +kernel
theorem dX12_makesAt_198 : decode cX12_makesAt 198 = .ok (.iaload, 1) := by decide +kernel
theorem dX12_makesAt_199 : decode cX12_makesAt 199 = .ok (.imul, 1) := by decide +kernel
theorem dX12_makesAt_200 : decode cX12_makesAt 200 = .ok (.iload 9, 2) := by decide +kernel
theorem dX12_makesAt_202 : decode cX12_makesAt 202 = .ok (.imul, 1) := by decide +kernel
theorem dX12_makesAt_203 : decode cX12_makesAt 203 = .ok (.aload_n 0, 1) := by decide +kernel
theorem dX12_makesAt_204 : decode cX12_makesAt 204 = .ok (.getfield 38, 3) := by decide +kernel
theorem dX12_makesAt_207 : decode cX12_makesAt 207 = .ok (.iload_n 1, 1) := by decide +kernel
theorem dX12_makesAt_208 : decode cX12_makesAt 208 = .ok (.iaload, 1) := by decide +kernel
theorem dX12_makesAt_209 : decode cX12_makesAt 209 = .ok (.idiv, 1) := by decide +kernel
theorem dX12_makesAt_210 : decode cX12_makesAt 210 = .ok (.aload_n 0, 1) := by decide +kernel
theorem dX12_makesAt_211 : decode cX12_makesAt 211 = .ok (.getfield 41, 3) := by decide +kernel
theorem dX12_makesAt_214 : decode cX12_makesAt 214 = .ok (.iload_n 1, 1) := by decide +kernel
theorem dX12_makesAt_215 : decode cX12_makesAt 215 = .ok (.iaload, 1) := by decide +kernel
theorem dX12_makesAt_216 : decode cX12_makesAt 216 = .ok (.iconst 2, 1) := by decide +kernel
theorem dX12_makesAt_217 : decode cX12_makesAt 217 = .ok (.idiv, 1) := by decide +kernel
theorem dX12_makesAt_218 : decode cX12_makesAt 218 = .ok (.isub, 1) := by decide +kernel
theorem dX12_makesAt_219 : decode cX12_makesAt 219 = .ok (.i2l, 1) := by decide +kernel
theorem dX12_makesAt_220 : decode cX12_makesAt 220 = .ok (.ladd, 1) := by decide +kernel
theorem dX12_makesAt_221 : decode cX12_makesAt 221 = .ok (.lstore 6, 2) := by decide +kernel
theorem dX12_makesAt_223 : decode cX12_makesAt 223 = .ok (.aload_n 0, 1) := by decide +kernel
theorem dX12_makesAt_224 : decode cX12_makesAt 224 = .ok (.aload_n 0, 1) := by decide +kernel
theorem dX12_makesAt_225 : decode cX12_makesAt 225 = .ok (.getfield 370, 3) := by decide +kernel
theorem dX12_makesAt_228 : decode cX12_makesAt 228 = .ok (.ldc2_w 374, 3) := by decide +kernel
theorem dX12_makesAt_231 : decode cX12_makesAt 231 = .ok (.lmul, 1) := by decide +kernel
theorem dX12_makesAt_232 : decode cX12_makesAt 232 = .ok (.ldc2_w 376, 3) := by decide +kernel
theorem dX12_makesAt_235 : decode cX12_makesAt 235 = .ok (.ladd, 1) := by decide +kernel
theorem dX12_makesAt_236 : decode cX12_makesAt 236 = .ok (.ldc2_w 378, 3) := by decide +kernel
theorem dX12_makesAt_239 : decode cX12_makesAt 239 = .ok (.lrem, 1) := by decide +kernel
theorem dX12_makesAt_240 : decode cX12_makesAt 240 = .ok (.putfield 370, 3) := by decide +kernel
theorem dX12_makesAt_243 : decode cX12_makesAt 243 = .ok (.lload 6, 2) := by decide +kernel
theorem dX12_makesAt_245 : decode cX12_makesAt 245 = .ok (.aload_n 0, 1) := by decide +kernel
theorem dX12_makesAt_246 : decode cX12_makesAt 246 = .ok (.getfield 370, 3) := by decide +kernel
theorem dX12_makesAt_249 : decode cX12_makesAt 249 = .ok (.ldc2_w 380, 3) := by decide +kernel
theorem dX12_makesAt_252 : decode cX12_makesAt 252 = .ok (.ldiv, 1) := by decide +kernel
theorem dX12_makesAt_253 : decode cX12_makesAt 253 = .ok (.ldc2_w 322, 3) := by decide +kernel
theorem dX12_makesAt_256 : decode cX12_makesAt 256 = .ok (.aload_n 0, 1) := by decide +kernel
theorem dX12_makesAt_257 : decode cX12_makesAt 257 = .ok (.getfield 44, 3) := by decide +kernel
theorem dX12_makesAt_260 : decode cX12_makesAt 260 = .ok (.iload_n 1, 1) := by decide +kernel
theorem dX12_makesAt_261 : decode cX12_makesAt 261 = .ok (.iaload, 1) := by decide +kernel
theorem dX12_makesAt_262 : decode cX12_makesAt 262 = .ok (.i2l, 1) := by decide +kernel
theorem dX12_makesAt_263 : decode cX12_makesAt 263 = .ok (.lmul, 1) := by decide +kernel
theorem dX12_makesAt_264 : decode cX12_makesAt 264 = .ok (.lconst 1, 1) := by decide +kernel
theorem dX12_makesAt_265 : decode cX12_makesAt 265 = .ok (.ladd, 1) := by decide +kernel
theorem dX12_makesAt_266 : decode cX12_makesAt 266 = .ok (.lrem, 1) := by decide +kernel
theorem dX12_makesAt_267 : decode cX12_makesAt 267 = .ok (.aload_n 0, 1) := by decide +kernel
theorem dX12_makesAt_268 : decode cX12_makesAt 268 = .ok (.getfield 44, 3) := by decide +kernel
theorem dX12_makesAt_271 : decode cX12_makesAt 271 = .ok (.iload_n 1, 1) := by decide +kernel
theorem dX12_makesAt_272 : decode cX12_makesAt 272 = .ok (.iaload, 1) := by decide +kernel
theorem dX12_makesAt_273 : decode cX12_makesAt 273 = .ok (.i2l, 1) := by decide +kernel
theorem dX12_makesAt_274 : decode cX12_makesAt 274 = .ok (.lsub, 1) := by decide +kernel
theorem dX12_makesAt_275 : decode cX12_makesAt 275 = .ok (.ladd, 1) := by decide +kernel
theorem dX12_makesAt_276 : decode cX12_makesAt 276 = .ok (.lstore 6, 2) := by decide +kernel
theorem dX12_makesAt_278 : decode cX12_makesAt 278 = .ok (.lload 6, 2) := by decide +kernel
theorem dX12_makesAt_280 : decode cX12_makesAt 280 = .ok (.ldc2_w 127, 3) := by decide +kernel
theorem dX12_makesAt_283 : decode cX12_makesAt 283 = .ok (.ldc2_w 129, 3) := by decide +kernel
theorem dX12_makesAt_286 : decode cX12_makesAt 286 = .ok (.invokestatic 366, 3) := by decide +kernel
theorem dX12_makesAt_289 : decode cX12_makesAt 289 = .ok (.l2i, 1) := by decide +kernel
theorem dX12_makesAt_290 : decode cX12_makesAt 290 = .ok (.ireturn, 1) := by decide +kernel
theorem wk_161 : Cond.fieldLink RX12 44 "ThinLineModel" "noise" "[I" ∈ tl_L := List.mem_filter.mpr ⟨lw_m6 (i := 77) rfl, rfl⟩
theorem wk_776 : Cond.fieldLink RX12 370 "ThinLineModel" "seedNow" "J" ∈ tl_L := List.mem_filter.mpr ⟨lw_m6 (i := 94) rfl, rfl⟩
theorem wk_785 : Cond.constantLong RX12 362 (-50000) ∈ tl_L := List.mem_filter.mpr ⟨lw_m7 (i := 237) rfl, rfl⟩
theorem wk_786 : Cond.constantLong RX12 364 (50000) ∈ tl_L := List.mem_filter.mpr ⟨lw_m7 (i := 238) rfl, rfl⟩
theorem wk_787 : Cond.constantLong RX12 374 (1103515245) ∈ tl_L := List.mem_filter.mpr ⟨lw_m8 (i := 2) rfl, rfl⟩
theorem wk_788 : Cond.constantLong RX12 376 (12345) ∈ tl_L := List.mem_filter.mpr ⟨lw_m8 (i := 3) rfl, rfl⟩
theorem wk_789 : Cond.constantLong RX12 378 (2147483648) ∈ tl_L := List.mem_filter.mpr ⟨lw_m8 (i := 4) rfl, rfl⟩
theorem wk_790 : Cond.constantLong RX12 380 (65536) ∈ tl_L := List.mem_filter.mpr ⟨lw_m8 (i := 5) rfl, rfl⟩
theorem dX12_make_0 : decode cX12_make 0 = .ok (.aload_n 0, 1) := by decide +kernel
theorem dX12_make_1 : decode cX12_make 1 = .ok (.iconst 0, 1) := by decide +kernel
theorem dX12_make_2 : decode cX12_make 2 = .ok (.iload_n 1, 1) := by decide +kernel
theorem dX12_make_3 : decode cX12_make 3 = .ok (.invokevirtual 382, 3) := by decide +kernel
theorem dX12_make_6 : decode cX12_make 6 = .ok (.ifCond .eq 38, 3) := by decide +kernel
theorem dX12_make_9 : decode cX12_make 9 = .ok (.aload_n 0, 1) := by decide +kernel
theorem dX12_make_10 : decode cX12_make 10 = .ok (.iload_n 2, 1) := by decide +kernel
theorem dX12_make_11 : decode cX12_make 11 = .ok (.invokevirtual 120, 3) := by decide +kernel
theorem dX12_make_14 : decode cX12_make 14 = .ok (.ifCond .eq 30, 3) := by decide +kernel
theorem dX12_make_17 : decode cX12_make 17 = .ok (.iload_n 3, 1) := by decide +kernel
theorem dX12_make_18 : decode cX12_make 18 = .ok (.ifCond .lt 26, 3) := by decide +kernel
theorem dX12_make_21 : decode cX12_make 21 = .ok (.iload 4, 2) := by decide +kernel
theorem dX12_make_23 : decode cX12_make 23 = .ok (.invokestatic 124, 3) := by decide +kernel
theorem dX12_make_26 : decode cX12_make 26 = .ok (.ifCond .eq 18, 3) := by decide +kernel
theorem dX12_make_29 : decode cX12_make 29 = .ok (.iload 5, 2) := by decide +kernel
theorem dX12_make_31 : decode cX12_make 31 = .ok (.invokestatic 124, 3) := by decide +kernel
theorem dX12_make_34 : decode cX12_make 34 = .ok (.ifCond .eq 10, 3) := by decide +kernel
theorem dX12_make_37 : decode cX12_make 37 = .ok (.iload 5, 2) := by decide +kernel
theorem dX12_make_39 : decode cX12_make 39 = .ok (.iload 4, 2) := by decide +kernel
theorem dX12_make_41 : decode cX12_make 41 = .ok (.if_icmp .ge 5, 3) := by decide +kernel
theorem dX12_make_44 : decode cX12_make 44 = .ok (.iconst (-1), 1) := by decide +kernel
theorem dX12_make_45 : decode cX12_make 45 = .ok (.ireturn, 1) := by decide +kernel
theorem dX12_make_46 : decode cX12_make 46 = .ok (.aload_n 0, 1) := by decide +kernel
theorem dX12_make_47 : decode cX12_make 47 = .ok (.iload_n 3, 1) := by decide +kernel
theorem dX12_make_48 : decode cX12_make 48 = .ok (.i2l, 1) := by decide +kernel
theorem dX12_make_49 : decode cX12_make 49 = .ok (.putfield 370, 3) := by decide +kernel
theorem dX12_make_52 : decode cX12_make 52 = .ok (.iload 4, 2) := by decide +kernel
theorem dX12_make_54 : decode cX12_make 54 = .ok (.istore 6, 2) := by decide +kernel
theorem dX12_make_56 : decode cX12_make 56 = .ok (.iload 6, 2) := by decide +kernel
theorem dX12_make_58 : decode cX12_make 58 = .ok (.iload 5, 2) := by decide +kernel
theorem dX12_make_60 : decode cX12_make 60 = .ok (.if_icmp .gt 35, 3) := by decide +kernel
theorem dX12_make_63 : decode cX12_make 63 = .ok (.aload_n 0, 1) := by decide +kernel
theorem dX12_make_64 : decode cX12_make 64 = .ok (.getfield 7, 3) := by decide +kernel
theorem dX12_make_67 : decode cX12_make 67 = .ok (.sipush 441, 3) := by decide +kernel
theorem dX12_make_70 : decode cX12_make 70 = .ok (.sipush 300, 3) := by decide +kernel
theorem dX12_make_73 : decode cX12_make 73 = .ok (.iload_n 2, 1) := by decide +kernel
theorem dX12_make_74 : decode cX12_make 74 = .ok (.imul, 1) := by decide +kernel
theorem dX12_make_75 : decode cX12_make 75 = .ok (.iadd, 1) := by decide +kernel
theorem dX12_make_76 : decode cX12_make 76 = .ok (.iload 6, 2) := by decide +kernel
theorem dX12_make_78 : decode cX12_make 78 = .ok (.iadd, 1) := by decide +kernel
theorem dX12_make_79 : decode cX12_make 79 = .ok (.aload_n 0, 1) := by decide +kernel
theorem dX12_make_80 : decode cX12_make 80 = .ok (.iload_n 1, 1) := by decide +kernel
theorem dX12_make_81 : decode cX12_make 81 = .ok (.iload_n 2, 1) := by decide +kernel
theorem dX12_make_82 : decode cX12_make 82 = .ok (.iload 6, 2) := by decide +kernel
theorem dX12_make_84 : decode cX12_make 84 = .ok (.iconst 1, 1) := by decide +kernel
theorem dX12_make_85 : decode cX12_make 85 = .ok (.invokevirtual 385, 3) := by decide +kernel
theorem dX12_make_88 : decode cX12_make 88 = .ok (.iastore, 1) := by decide +kernel
theorem dX12_make_89 : decode cX12_make 89 = .ok (.iinc 6 1, 3) := by decide +kernel
theorem dX12_make_92 : decode cX12_make 92 = .ok (.goto (-36), 3) := by decide +kernel
theorem dX12_make_95 : decode cX12_make 95 = .ok (.iload 5, 2) := by decide +kernel
theorem dX12_make_97 : decode cX12_make 97 = .ok (.iload 4, 2) := by decide +kernel
theorem dX12_make_99 : decode cX12_make 99 = .ok (.isub, 1) := by decide +kernel
theorem dX12_make_100 : decode cX12_make 100 = .ok (.iconst 1, 1) := by decide +kernel
theorem dX12_make_101 : decode cX12_make 101 = .ok (.iadd, 1) := by decide +kernel
theorem dX12_make_102 : decode cX12_make 102 = .ok (.ireturn, 1) := by decide +kernel
theorem wk_781 : Cond.methodLink RX12 385 yX12_makesAt ∈ tl_L := List.mem_filter.mpr ⟨lw_m7 (i := 206) rfl, rfl⟩
theorem wk_782 : Cond.instanceMethod yX12_makesAt ∈ tl_L := List.mem_filter.mpr ⟨lw_m7 (i := 208) rfl, rfl⟩
theorem wk_783 : Cond.selects RX12 yX12_makesAt yX12_makesAt ∈ tl_L := List.mem_filter.mpr ⟨lw_s9 (i := 11) (q := (yX12_makesAt, 49)) rfl, rfl⟩
theorem wk_784 : Cond.code yX12_makesAt cX12_makesAt 10 (some .int) ∈ tl_L := List.mem_filter.mpr ⟨lw_m7 (i := 209) rfl, rfl⟩
theorem lk_X12_385 : tl_kV RX12 385 RX12 yX12_makesAt cX12_makesAt 10 (some .int) 4 := ⟨wk_784, wk_781, wk_782, wk_783, wk_5, ⟨by decide +kernel, by decide +kernel, by decide +kernel⟩⟩
theorem dX12_drawn_0 : decode cX12_drawn 0 = .ok (.aload_n 0, 1) := by decide +kernel
theorem dX12_drawn_1 : decode cX12_drawn 1 = .ok (.iconst 0, 1) := by decide +kernel
theorem dX12_drawn_2 : decode cX12_drawn 2 = .ok (.iload_n 1, 1) := by decide +kernel
theorem dX12_drawn_3 : decode cX12_drawn 3 = .ok (.invokevirtual 382, 3) := by decide +kernel
theorem dX12_drawn_6 : decode cX12_drawn 6 = .ok (.ifCond .eq 30, 3) := by decide +kernel
theorem dX12_drawn_9 : decode cX12_drawn 9 = .ok (.aload_n 0, 1) := by decide +kernel
theorem dX12_drawn_10 : decode cX12_drawn 10 = .ok (.iload_n 2, 1) := by decide +kernel
theorem dX12_drawn_11 : decode cX12_drawn 11 = .ok (.iload_n 3, 1) := by decide +kernel
theorem dX12_drawn_12 : decode cX12_drawn 12 = .ok (.invokevirtual 447, 3) := by decide +kernel
theorem dX12_drawn_15 : decode cX12_drawn 15 = .ok (.ifCond .eq 21, 3) := by decide +kernel
theorem dX12_drawn_18 : decode cX12_drawn 18 = .ok (.iload 4, 2) := by decide +kernel
theorem dX12_drawn_20 : decode cX12_drawn 20 = .ok (.ifCond .lt 16, 3) := by decide +kernel
theorem dX12_drawn_23 : decode cX12_drawn 23 = .ok (.iload 5, 2) := by decide +kernel
theorem dX12_drawn_25 : decode cX12_drawn 25 = .ok (.i2l, 1) := by decide +kernel
theorem dX12_drawn_26 : decode cX12_drawn 26 = .ok (.lconst 1, 1) := by decide +kernel
theorem dX12_drawn_27 : decode cX12_drawn 27 = .ok (.ldc2_w 465, 3) := by decide +kernel
theorem dX12_drawn_30 : decode cX12_drawn 30 = .ok (.invokestatic 112, 3) := by decide +kernel
theorem dX12_drawn_33 : decode cX12_drawn 33 = .ok (.ifCond .ne 5, 3) := by decide +kernel
theorem dX12_drawn_36 : decode cX12_drawn 36 = .ok (.iconst (-1), 1) := by decide +kernel
theorem dX12_drawn_37 : decode cX12_drawn 37 = .ok (.ireturn, 1) := by decide +kernel
theorem dX12_drawn_38 : decode cX12_drawn 38 = .ok (.aload_n 0, 1) := by decide +kernel
theorem dX12_drawn_39 : decode cX12_drawn 39 = .ok (.iload_n 2, 1) := by decide +kernel
theorem dX12_drawn_40 : decode cX12_drawn 40 = .ok (.iload_n 3, 1) := by decide +kernel
theorem dX12_drawn_41 : decode cX12_drawn 41 = .ok (.invokevirtual 450, 3) := by decide +kernel
theorem dX12_drawn_44 : decode cX12_drawn 44 = .ok (.lstore 6, 2) := by decide +kernel
theorem dX12_drawn_46 : decode cX12_drawn 46 = .ok (.aload_n 0, 1) := by decide +kernel
theorem dX12_drawn_47 : decode cX12_drawn 47 = .ok (.getfield 425, 3) := by decide +kernel
theorem dX12_drawn_50 : decode cX12_drawn 50 = .ok (.ifCond .ne 6, 3) := by decide +kernel
theorem dX12_drawn_53 : decode cX12_drawn 53 = .ok (.bipush (-2), 2) := by decide +kernel
theorem dX12_drawn_55 : decode cX12_drawn 55 = .ok (.ireturn, 1) := by decide +kernel
theorem dX12_drawn_56 : decode cX12_drawn 56 = .ok (.iconst 0, 1) := by decide +kernel
theorem dX12_drawn_57 : decode cX12_drawn 57 = .ok (.istore 8, 2) := by decide +kernel
theorem dX12_drawn_59 : decode cX12_drawn 59 = .ok (.aload_n 0, 1) := by decide +kernel
theorem dX12_drawn_60 : decode cX12_drawn 60 = .ok (.iload 4, 2) := by decide +kernel
theorem dX12_drawn_62 : decode cX12_drawn 62 = .ok (.i2l, 1) := by decide +kernel
theorem dX12_drawn_63 : decode cX12_drawn 63 = .ok (.putfield 370, 3) := by decide +kernel
theorem dX12_drawn_66 : decode cX12_drawn 66 = .ok (.iconst 0, 1) := by decide +kernel
theorem dX12_drawn_67 : decode cX12_drawn 67 = .ok (.istore 9, 2) := by decide +kernel
theorem dX12_drawn_69 : decode cX12_drawn 69 = .ok (.iload 9, 2) := by decide +kernel
theorem dX12_drawn_71 : decode cX12_drawn 71 = .ok (.iload 5, 2) := by decide +kernel
theorem dX12_drawn_73 : decode cX12_drawn 73 = .ok (.if_icmp .ge 75, 3) := by decide +kernel
theorem dX12_drawn_76 : decode cX12_drawn 76 = .ok (.iconst 0, 1) := by decide +kernel
theorem dX12_drawn_77 : decode cX12_drawn 77 = .ok (.istore 10, 2) := by decide +kernel
theorem dX12_drawn_79 : decode cX12_drawn 79 = .ok (.iload 10, 2) := by decide +kernel
theorem dX12_drawn_81 : decode cX12_drawn 81 = .ok (.sipush 300, 3) := by decide +kernel
theorem dX12_drawn_84 : decode cX12_drawn 84 = .ok (.if_icmp .ge 25, 3) := by decide +kernel
theorem dX12_drawn_87 : decode cX12_drawn 87 = .ok (.aload_n 0, 1) := by decide +kernel
theorem dX12_drawn_88 : decode cX12_drawn 88 = .ok (.getfield 69, 3) := by decide +kernel
theorem dX12_drawn_91 : decode cX12_drawn 91 = .ok (.iload 10, 2) := by decide +kernel
theorem dX12_drawn_93 : decode cX12_drawn 93 = .ok (.aload_n 0, 1) := by decide +kernel
theorem dX12_drawn_94 : decode cX12_drawn 94 = .ok (.iload_n 1, 1) := by decide +kernel
theorem dX12_drawn_95 : decode cX12_drawn 95 = .ok (.iload_n 3, 1) := by decide +kernel
theorem dX12_drawn_96 : decode cX12_drawn 96 = .ok (.iload 10, 2) := by decide +kernel
theorem dX12_drawn_98 : decode cX12_drawn 98 = .ok (.iconst 0, 1) := by decide +kernel
theorem dX12_drawn_99 : decode cX12_drawn 99 = .ok (.invokevirtual 385, 3) := by decide +kernel
theorem dX12_drawn_102 : decode cX12_drawn 102 = .ok (.iastore, 1) := by decide +kernel
theorem dX12_drawn_103 : decode cX12_drawn 103 = .ok (.iinc 10 1, 3) := by decide +kernel
theorem dX12_drawn_106 : decode cX12_drawn 106 = .ok (.goto (-27), 3) := by decide +kernel
theorem dX12_drawn_109 : decode cX12_drawn 109 = .ok (.aload_n 0, 1) := by decide +kernel
theorem dX12_drawn_110 : decode cX12_drawn 110 = .ok (.iload_n 2, 1) := by decide +kernel
theorem dX12_drawn_111 : decode cX12_drawn 111 = .ok (.iload_n 3, 1) := by decide +kernel
theorem dX12_drawn_112 : decode cX12_drawn 112 = .ok (.invokevirtual 444, 3) := by decide +kernel
theorem dX12_drawn_115 : decode cX12_drawn 115 = .ok (.lstore 10, 2) := by decide +kernel
theorem dX12_drawn_117 : decode cX12_drawn 117 = .ok (.iload 8, 2) := by decide +kernel
theorem dX12_drawn_119 : decode cX12_drawn 119 = .ok (.aload_n 0, 1) := by decide +kernel
theorem dX12_drawn_120 : decode cX12_drawn 120 = .ok (.getfield 425, 3) := by decide +kernel
theorem dX12_drawn_123 : decode cX12_drawn 123 = .ok (.ifCond .eq 15, 3) := by decide +kernel
theorem dX12_drawn_126 : decode cX12_drawn 126 = .ok (.lload 10, 2) := by decide +kernel
theorem dX12_drawn_128 : decode cX12_drawn 128 = .ok (.lload 6, 2) := by decide +kernel
theorem dX12_drawn_130 : decode cX12_drawn 130 = .ok (.lcmp, 1) := by decide +kernel
theorem dX12_drawn_131 : decode cX12_drawn 131 = .ok (.ifCond .lt 7, 3) := by decide +kernel
theorem dX12_drawn_134 : decode cX12_drawn 134 = .ok (.iconst 1, 1) := by decide +kernel
theorem dX12_drawn_135 : decode cX12_drawn 135 = .ok (.goto 4, 3) := by decide +kernel
theorem dX12_drawn_138 : decode cX12_drawn 138 = .ok (.iconst 0, 1) := by decide +kernel
theorem dX12_drawn_139 : decode cX12_drawn 139 = .ok (.iadd, 1) := by decide +kernel
theorem dX12_drawn_140 : decode cX12_drawn 140 = .ok (.istore 8, 2) := by decide +kernel
theorem dX12_drawn_142 : decode cX12_drawn 142 = .ok (.iinc 9 1, 3) := by decide +kernel
theorem dX12_drawn_145 : decode cX12_drawn 145 = .ok (.goto (-76), 3) := by decide +kernel
theorem dX12_drawn_148 : decode cX12_drawn 148 = .ok (.iload 8, 2) := by decide +kernel
theorem dX12_drawn_150 : decode cX12_drawn 150 = .ok (.ireturn, 1) := by decide +kernel
theorem wk_1036 : Cond.constantLong RX12 465 (50) ∈ tl_L := List.mem_filter.mpr ⟨lw_m8 (i := 85) rfl, rfl⟩
theorem dX12_taken_0 : decode cX12_taken 0 = .ok (.aload_n 0, 1) := by decide +kernel
theorem dX12_taken_1 : decode cX12_taken 1 = .ok (.iload_n 1, 1) := by decide +kernel
theorem dX12_taken_2 : decode cX12_taken 2 = .ok (.iload_n 2, 1) := by decide +kernel
theorem dX12_taken_3 : decode cX12_taken 3 = .ok (.invokevirtual 447, 3) := by decide +kernel
theorem dX12_taken_6 : decode cX12_taken 6 = .ok (.ifCond .eq 28, 3) := by decide +kernel
theorem dX12_taken_9 : decode cX12_taken 9 = .ok (.iload_n 3, 1) := by decide +kernel
theorem dX12_taken_10 : decode cX12_taken 10 = .ok (.i2l, 1) := by decide +kernel
theorem dX12_taken_11 : decode cX12_taken 11 = .ok (.lconst 1, 1) := by decide +kernel
theorem dX12_taken_12 : decode cX12_taken 12 = .ok (.ldc2_w 141, 3) := by decide +kernel
theorem dX12_taken_15 : decode cX12_taken 15 = .ok (.invokestatic 112, 3) := by decide +kernel
theorem dX12_taken_18 : decode cX12_taken 18 = .ok (.ifCond .eq 16, 3) := by decide +kernel
theorem dX12_taken_21 : decode cX12_taken 21 = .ok (.iload 4, 2) := by decide +kernel
theorem dX12_taken_23 : decode cX12_taken 23 = .ok (.i2l, 1) := by decide +kernel
theorem dX12_taken_24 : decode cX12_taken 24 = .ok (.lconst 1, 1) := by decide +kernel
theorem dX12_taken_25 : decode cX12_taken 25 = .ok (.ldc2_w 471, 3) := by decide +kernel
theorem dX12_taken_28 : decode cX12_taken 28 = .ok (.invokestatic 112, 3) := by decide +kernel
theorem dX12_taken_31 : decode cX12_taken 31 = .ok (.ifCond .ne 6, 3) := by decide +kernel
theorem dX12_taken_34 : decode cX12_taken 34 = .ok (.ldc 131, 2) := by decide +kernel
theorem dX12_taken_36 : decode cX12_taken 36 = .ok (.ireturn, 1) := by decide +kernel
theorem dX12_taken_37 : decode cX12_taken 37 = .ok (.aload_n 0, 1) := by decide +kernel
theorem dX12_taken_38 : decode cX12_taken 38 = .ok (.iload_n 1, 1) := by decide +kernel
theorem dX12_taken_39 : decode cX12_taken 39 = .ok (.iload_n 2, 1) := by decide +kernel
theorem dX12_taken_40 : decode cX12_taken 40 = .ok (.invokevirtual 450, 3) := by decide +kernel
theorem dX12_taken_43 : decode cX12_taken 43 = .ok (.pop2, 1) := by decide +kernel
theorem dX12_taken_44 : decode cX12_taken 44 = .ok (.aload_n 0, 1) := by decide +kernel
theorem dX12_taken_45 : decode cX12_taken 45 = .ok (.getfield 425, 3) := by decide +kernel
theorem dX12_taken_48 : decode cX12_taken 48 = .ok (.ifCond .ne 6, 3) := by decide +kernel
theorem dX12_taken_51 : decode cX12_taken 51 = .ok (.ldc 109, 2) := by decide +kernel
theorem dX12_taken_53 : decode cX12_taken 53 = .ok (.ireturn, 1) := by decide +kernel
theorem dX12_taken_54 : decode cX12_taken 54 = .ok (.aload_n 0, 1) := by decide +kernel
theorem dX12_taken_55 : decode cX12_taken 55 = .ok (.invokevirtual 431, 3) := by decide +kernel
theorem dX12_taken_58 : decode cX12_taken 58 = .ok (.lstore 5, 2) := by decide +kernel
theorem dX12_taken_60 : decode cX12_taken 60 = .ok (.lconst 0, 1) := by decide +kernel
theorem dX12_taken_61 : decode cX12_taken 61 = .ok (.lstore 7, 2) := by decide +kernel
theorem dX12_taken_63 : decode cX12_taken 63 = .ok (.aload_n 0, 1) := by decide +kernel
theorem dX12_taken_64 : decode cX12_taken 64 = .ok (.getfield 389, 3) := by decide +kernel
theorem dX12_taken_67 : decode cX12_taken 67 = .ok (.aload_n 0, 1) := by decide +kernel
theorem dX12_taken_68 : decode cX12_taken 68 = .ok (.getfield 392, 3) := by decide +kernel
theorem dX12_taken_71 : decode cX12_taken 71 = .ok (.iadd, 1) := by decide +kernel
theorem dX12_taken_72 : decode cX12_taken 72 = .ok (.iconst 2, 1) := by decide +kernel
theorem dX12_taken_73 : decode cX12_taken 73 = .ok (.idiv, 1) := by decide +kernel
theorem dX12_taken_74 : decode cX12_taken 74 = .ok (.istore 9, 2) := by decide +kernel
theorem dX12_taken_76 : decode cX12_taken 76 = .ok (.iconst 0, 1) := by decide +kernel
theorem dX12_taken_77 : decode cX12_taken 77 = .ok (.istore 10, 2) := by decide +kernel
theorem dX12_taken_79 : decode cX12_taken 79 = .ok (.iload 10, 2) := by decide +kernel
theorem dX12_taken_81 : decode cX12_taken 81 = .ok (.sipush 300, 3) := by decide +kernel
theorem dX12_taken_84 : decode cX12_taken 84 = .ok (.if_icmp .ge 111, 3) := by decide +kernel
theorem dX12_taken_87 : decode cX12_taken 87 = .ok (.iload 10, 2) := by decide +kernel
theorem dX12_taken_89 : decode cX12_taken 89 = .ok (.iload 9, 2) := by decide +kernel
theorem dX12_taken_91 : decode cX12_taken 91 = .ok (.if_icmp .ge 11, 3) := by decide +kernel
theorem dX12_taken_94 : decode cX12_taken 94 = .ok (.iload 9, 2) := by decide +kernel
theorem dX12_taken_96 : decode cX12_taken 96 = .ok (.iload 10, 2) := by decide +kernel
theorem dX12_taken_98 : decode cX12_taken 98 = .ok (.isub, 1) := by decide +kernel
theorem dX12_taken_99 : decode cX12_taken 99 = .ok (.goto 8, 3) := by decide +kernel
theorem dX12_taken_102 : decode cX12_taken 102 = .ok (.iload 10, 2) := by decide +kernel
theorem dX12_taken_104 : decode cX12_taken 104 = .ok (.iload 9, 2) := by decide +kernel
theorem dX12_taken_106 : decode cX12_taken 106 = .ok (.isub, 1) := by decide +kernel
theorem dX12_taken_107 : decode cX12_taken 107 = .ok (.istore 11, 2) := by decide +kernel
theorem dX12_taken_109 : decode cX12_taken 109 = .ok (.aload_n 0, 1) := by decide +kernel
theorem dX12_taken_110 : decode cX12_taken 110 = .ok (.getfield 69, 3) := by decide +kernel
theorem dX12_taken_113 : decode cX12_taken 113 = .ok (.iload 10, 2) := by decide +kernel
theorem dX12_taken_115 : decode cX12_taken 115 = .ok (.iaload, 1) := by decide +kernel
theorem dX12_taken_116 : decode cX12_taken 116 = .ok (.ldc 109, 2) := by decide +kernel
theorem dX12_taken_118 : decode cX12_taken 118 = .ok (.if_icmp .eq 71, 3) := by decide +kernel
theorem dX12_taken_121 : decode cX12_taken 121 = .ok (.iload 11, 2) := by decide +kernel
theorem dX12_taken_123 : decode cX12_taken 123 = .ok (.iload 4, 2) := by decide +kernel
theorem dX12_taken_125 : decode cX12_taken 125 = .ok (.if_icmp .lt 6, 3) := by decide +kernel
theorem dX12_taken_128 : decode cX12_taken 128 = .ok (.goto 61, 3) := by decide +kernel
theorem dX12_taken_131 : decode cX12_taken 131 = .ok (.aload_n 0, 1) := by decide +kernel
theorem dX12_taken_132 : decode cX12_taken 132 = .ok (.getfield 69, 3) := by decide +kernel
theorem dX12_taken_135 : decode cX12_taken 135 = .ok (.iload 10, 2) := by decide +kernel
theorem dX12_taken_137 : decode cX12_taken 137 = .ok (.dup2, 1) := by decide +kernel
theorem dX12_taken_138 : decode cX12_taken 138 = .ok (.iaload, 1) := by decide +kernel
theorem dX12_taken_139 : decode cX12_taken 139 = .ok (.iload_n 3, 1) := by decide +kernel
theorem dX12_taken_140 : decode cX12_taken 140 = .ok (.iload 4, 2) := by decide +kernel
theorem dX12_taken_142 : decode cX12_taken 142 = .ok (.iload 11, 2) := by decide +kernel
theorem dX12_taken_144 : decode cX12_taken 144 = .ok (.isub, 1) := by decide +kernel
theorem dX12_taken_145 : decode cX12_taken 145 = .ok (.imul, 1) := by decide +kernel
theorem dX12_taken_146 : decode cX12_taken 146 = .ok (.iload 4, 2) := by decide +kernel
theorem dX12_taken_148 : decode cX12_taken 148 = .ok (.idiv, 1) := by decide +kernel
theorem dX12_taken_149 : decode cX12_taken 149 = .ok (.isub, 1) := by decide +kernel
theorem dX12_taken_150 : decode cX12_taken 150 = .ok (.iastore, 1) := by decide +kernel
theorem dX12_taken_151 : decode cX12_taken 151 = .ok (.lload 7, 2) := by decide +kernel
theorem dX12_taken_153 : decode cX12_taken 153 = .ok (.iload 10, 2) := by decide +kernel
theorem dX12_taken_155 : decode cX12_taken 155 = .ok (.aload_n 0, 1) := by decide +kernel
theorem dX12_taken_156 : decode cX12_taken 156 = .ok (.getfield 389, 3) := by decide +kernel
theorem dX12_taken_159 : decode cX12_taken 159 = .ok (.if_icmp .lt 12, 3) := by decide +kernel
theorem dX12_taken_162 : decode cX12_taken 162 = .ok (.iload 10, 2) := by decide +kernel
theorem dX12_taken_164 : decode cX12_taken 164 = .ok (.aload_n 0, 1) := by decide +kernel
theorem dX12_taken_165 : decode cX12_taken 165 = .ok (.getfield 392, 3) := by decide +kernel
theorem dX12_taken_168 : decode cX12_taken 168 = .ok (.if_icmp .le 7, 3) := by decide +kernel
theorem dX12_taken_171 : decode cX12_taken 171 = .ok (.lconst 0, 1) := by decide +kernel
theorem dX12_taken_172 : decode cX12_taken 172 = .ok (.goto 14, 3) := by decide +kernel
theorem dX12_taken_175 : decode cX12_taken 175 = .ok (.iload_n 3, 1) := by decide +kernel
theorem dX12_taken_176 : decode cX12_taken 176 = .ok (.iload 4, 2) := by decide +kernel
theorem dX12_taken_178 : decode cX12_taken 178 = .ok (.iload 11, 2) := by decide +kernel
theorem dX12_taken_180 : decode cX12_taken 180 = .ok (.isub, 1) := by decide +kernel
theorem dX12_taken_181 : decode cX12_taken 181 = .ok (.imul, 1) := by decide +kernel
theorem dX12_taken_182 : decode cX12_taken 182 = .ok (.iload 4, 2) := by decide +kernel
theorem dX12_taken_184 : decode cX12_taken 184 = .ok (.idiv, 1) := by decide +kernel
theorem dX12_taken_185 : decode cX12_taken 185 = .ok (.i2l, 1) := by decide +kernel
theorem dX12_taken_186 : decode cX12_taken 186 = .ok (.ladd, 1) := by decide +kernel
theorem dX12_taken_187 : decode cX12_taken 187 = .ok (.lstore 7, 2) := by decide +kernel
theorem dX12_taken_189 : decode cX12_taken 189 = .ok (.iinc 10 1, 3) := by decide +kernel
theorem dX12_taken_192 : decode cX12_taken 192 = .ok (.goto (-113), 3) := by decide +kernel
theorem dX12_taken_195 : decode cX12_taken 195 = .ok (.aload_n 0, 1) := by decide +kernel
theorem dX12_taken_196 : decode cX12_taken 196 = .ok (.iload_n 1, 1) := by decide +kernel
theorem dX12_taken_197 : decode cX12_taken 197 = .ok (.iload_n 2, 1) := by decide +kernel
theorem dX12_taken_198 : decode cX12_taken 198 = .ok (.invokevirtual 444, 3) := by decide +kernel
theorem dX12_taken_201 : decode cX12_taken 201 = .ok (.pop2, 1) := by decide +kernel
theorem dX12_taken_202 : decode cX12_taken 202 = .ok (.lload 7, 2) := by decide +kernel
theorem dX12_taken_204 : decode cX12_taken 204 = .ok (.aload_n 0, 1) := by decide +kernel
theorem dX12_taken_205 : decode cX12_taken 205 = .ok (.getfield 411, 3) := by decide +kernel
theorem dX12_taken_208 : decode cX12_taken 208 = .ok (.i2l, 1) := by decide +kernel
theorem dX12_taken_209 : decode cX12_taken 209 = .ok (.ldiv, 1) := by decide +kernel
theorem dX12_taken_210 : decode cX12_taken 210 = .ok (.aload_n 0, 1) := by decide +kernel
theorem dX12_taken_211 : decode cX12_taken 211 = .ok (.invokevirtual 431, 3) := by decide +kernel
theorem dX12_taken_214 : decode cX12_taken 214 = .ok (.lload 5, 2) := by decide +kernel
theorem dX12_taken_216 : decode cX12_taken 216 = .ok (.lsub, 1) := by decide +kernel
theorem dX12_taken_217 : decode cX12_taken 217 = .ok (.lsub, 1) := by decide +kernel
theorem dX12_taken_218 : decode cX12_taken 218 = .ok (.l2i, 1) := by decide +kernel
theorem dX12_taken_219 : decode cX12_taken 219 = .ok (.ireturn, 1) := by decide +kernel
set_option maxHeartbeats 4000000 in
set_option maxRecDepth 100000 in
theorem r_held2 (l : Launch) (D : va_G) (cy : Nat → ClassId) (sz : Nat) (L : List Nat) (K : Nat → tk_K) (Γ : tk_G) (f : Nat → va_E) (p0 : Int64) (p1 : Int64) (p2 : Int64)  : Met l yX12_held (tl_w yX12_held cX12_held 6 (some .long)) ({ frames := 0, cells := 0, slots := 0, locals := 0 }) (va_Pc [.long p0, .long p1, .long p2] (tp_P D cy L K Γ f sz)) (vp_Sl (fun r : Int64 => p1.toInt ≤ p2.toInt → (p1.toInt ≤ r.toInt ∧ r.toInt ≤ p2.toInt))) 0 0 (fun _ => False) := by
  refine Met.ofW (cc := cX12_held) (maxL := 6) (ret := (some .long)) (by decide) rfl ?_
  intro p e s m args below meth c s₁ B hml hv
  obtain ⟨rfl, hsz, hP, hK, hL, hI, hN, hU⟩ := hv
  have hx := B.exec
  have hb := B.bytes
  have hr := B.returns
  have hta := tl_hta (atoms_spec (ws := tl_w yX12_held cX12_held 6 (some .long)) B.pre)
  have hown : s.vm.findClass RX12 = some m.cls := findClass_of_methodNamed B.named
  have hlocks := B.notSynchronized
  subst hsz
  have hI0 := hI
  have hl := lv_entry ([.long p0, .long p1, .long p2]) (n := 6) (Nat.le_of_ble_eq_true rfl)
  rw [lg_entry_eq]
  generalize (lg_sl ([.long p0, .long p1, .long p2]) ++ List.replicate (6 - (lg_sl ([.long p0, .long p1, .long p2])).length) Slot.unset).toArray = ls at hl ⊢
  have hl : lv_has ls 6 [(0, .long p0), (2, .long p1), (4, .long p2)] := hl
  refine lv_lload_n hx hb dX12_held_0 rfl (lv_at hl 0 rfl) ?_
  refine lv_lload_n hx hb dX12_held_1 rfl (lv_at hl 1 rfl) ?_
  refine W.lcmp hx hb dX12_held_2 ?_
  refine lv_if_ge (tgt := 10) hx hb dX12_held_3 (by decide) (fun c_1 => ?_) (fun c_1 => ?_)
  · have c_1 : p0.toInt ≥ p1.toInt := tl_cmp_ge c_1
    refine lv_lload_n hx hb dX12_held_10 rfl (lv_at hl 0 rfl) ?_
    refine lv_lload hx hb dX12_held_11 (lv_at hl 2 rfl) ?_
    refine W.lcmp hx hb dX12_held_13 ?_
    refine lv_if_le (tgt := 22) hx hb dX12_held_14 (by decide) (fun c_2 => ?_) (fun c_2 => ?_)
    · have c_2 : p0.toInt ≤ p2.toInt := tl_cmp_le c_2
      refine lv_lload_n hx hb dX12_held_22 rfl (lv_at hl 0 rfl) ?_
      exact W.lret (v := p0) hx hb hr (fun t ht hW => ⟨_, rfl, (fun q9 => by omega), ht⟩) (fun q h => by cases h) dX12_held_23
    · have c_2 : p0.toInt > p2.toInt := tl_cmp_nle c_2
      refine lv_lload hx hb dX12_held_17 (lv_at hl 2 rfl) ?_
      refine lv_goto (tgt := 23) hx hb dX12_held_19 (by decide) ?_
      exact W.lret (v := p2) hx hb hr (fun t ht hW => ⟨_, rfl, (fun q9 => by omega), ht⟩) (fun q h => by cases h) dX12_held_23
  · have c_1 : p0.toInt < p1.toInt := tl_cmp_nge c_1
    refine lv_lload_n hx hb dX12_held_6 rfl (lv_at hl 1 rfl) ?_
    refine lv_goto (tgt := 23) hx hb dX12_held_7 (by decide) ?_
    exact W.lret (v := p1) hx hb hr (fun t ht hW => ⟨_, rfl, (fun q9 => by omega), ht⟩) (fun q h => by cases h) dX12_held_23
theorem tl_l2i {x : Int64} {z : Int32} (e : z = x.toInt32) (h : -2147483648 ≤ x.toInt ∧ x.toInt ≤ 2147483647) : z.toInt = x.toInt := by
  rw [e, Int64.toInt_toInt32, Int.bmod_eq_of_le (by omega) (by omega)]
set_option maxHeartbeats 4000000 in
set_option maxRecDepth 100000 in
theorem r_X12_makesAt (l : Launch) (D : va_G) (cy : Nat → ClassId) (sz : Nat) (L : List Nat) (K : Nat → tk_K) (Γ : tk_G) (f : Nat → va_E) (o : Nat) (p0 : Int32) (p1 : Int32) (p2 : Int32) (p3 : Int32) (ho : tp_r L K 39 (0) 0 o) (htx : tx_ok (Γ (43, 8800, 0)) (Γ (45, 1056, 0)) (Γ (46, 22, 0)) (Γ (47, 6, 0)) (Γ (48, 22, 0)) (Γ (49, 22, 0)) (Γ (50, 22, 0)) (Γ (51, 22, 0)) (Γ (42, 3, 0))) (hs : (0 ≤ Γ (40, 7666, 0) 1 ∧ Γ (40, 7666, 0) 1 ≤ 24) ∧ (0 ≤ Γ (40, 7666, 0) 2 ∧ Γ (40, 7666, 0) 2 ≤ 40) ∧ (0 ≤ Γ (40, 7666, 0) 3 ∧ Γ (40, 7666, 0) 3 ≤ 60) ∧ (0 ≤ Γ (40, 7666, 0) 4 ∧ Γ (40, 7666, 0) 4 ≤ 10) ∧ (0 ≤ Γ (40, 7666, 0) 7665 ∧ Γ (40, 7666, 0) 7665 ≤ 8)) (hlw : 0 ≤ p0.toInt ∧ p0.toInt < Γ (42, 3, 0) 0) (h1 : 0 ≤ p1.toInt ∧ p1.toInt ≤ 23) : Met l yX12_makesAt (tl_w yX12_makesAt cX12_makesAt 10 (some .int)) ({ frames := 3, cells := 0, slots := 0, locals := 77 }) (va_Pc [.ref o, .int p0, .int p1, .int p2, .int p3] (tp_P D cy L K Γ f sz)) (va_Qi (fun (r : Int32) (u : (Nat → va_E) × tk_G) => (-100000 ≤ r.toInt ∧ r.toInt ≤ 100000) ∧ u.2 (39, 0, 0) 0 = Γ (39, 0, 0) 0 ∧ u.2 (39, 0, 0) 10 = Γ (39, 0, 0) 10 ∧ u.2 (39, 0, 0) 11 = Γ (39, 0, 0) 11 ∧ u.2 (39, 0, 0) 12 = Γ (39, 0, 0) 12 ∧ u.2 (39, 0, 0) 13 = Γ (39, 0, 0) 13 ∧ u.2 (39, 0, 0) 14 = Γ (39, 0, 0) 14 ∧ u.2 (39, 0, 0) 15 = Γ (39, 0, 0) 15) (tp_BG D cy L K Γ f [39, 58, 57]) (tp_A L sz)) 0 0 (tp_A L sz) := by
  refine Met.ofW (cc := cX12_makesAt) (maxL := 10) (ret := (some .int)) (by decide) rfl ?_
  intro p e s m args below meth c s₁ B hml hv
  obtain ⟨rfl, hsz, hP, hK, hL, hI, hN, hU⟩ := hv
  have hx := B.exec
  have hb := B.bytes
  have hr := B.returns
  have hta := tl_hta (atoms_spec (ws := tl_w yX12_makesAt cX12_makesAt 10 (some .int)) B.pre)
  have hown : s.vm.findClass RX12 = some m.cls := findClass_of_methodNamed B.named
  have hlocks := B.notSynchronized
  subst hsz
  have hI0 := hI
  generalize hAe : tp_A L s.heap.size = A
  have hA : ∀ q : Nat, s.heap.size ≤ q → A q := fun q h => by rw [← hAe]; exact Or.inr h
  have hAL : ∀ q ∈ L, A q := fun q h => by rw [← hAe]; exact Or.inl h
  have hAf : ∀ (H : Heap), s.heap.size ≤ H.size → ∀ q, tp_A L H.size q → A q := fun H h q hq => hq.elim (hAL q) (fun h2 => hA q (Nat.le_trans h h2))
  have hS : va_S A s.heap s.heap [] := va_S.rf
  have hD : va_D A (va_pl L f) := tp_D hL hAL
  have hfr : ∀ b, (K b).1 ∉ ([39, 58, 57] : List Nat) → f b = f b := fun _ _ => rfl
  have hgr : ∀ κ : tk_K, κ.1 ∉ ([39, 58, 57] : List Nat) → Γ κ = Γ κ := fun _ _ => rfl
  have hl := lv_entry ([.ref o, .int p0, .int p1, .int p2, .int p3]) (n := 10) (Nat.le_of_ble_eq_true rfl)
  rw [lg_entry_eq]
  generalize (lg_sl ([.ref o, .int p0, .int p1, .int p2, .int p3]) ++ List.replicate (10 - (lg_sl ([.ref o, .int p0, .int p1, .int p2, .int p3])).length) Slot.unset).toArray = ls at hl ⊢
  have hl : lv_has ls 10 [(0, .ref o), (1, .int p0), (2, .int p1), (3, .int p2), (4, .int p3)] := hl
  have htb := htx.1
  obtain ⟨hnc, htst, hsum, her, _⟩ := htx.2 p0.toInt (by omega)
  have hsu := hsum (Or.inl (by omega))
  have hen := her (by omega)
  refine lv_aload_n hx hb dX12_makesAt_0 rfl (lv_at hl 0 rfl) ?_
  refine lv_iload_n hx hb dX12_makesAt_1 rfl (lv_at hl 2 rfl) ?_
  refine lv_iload_n hx hb dX12_makesAt_2 rfl (lv_at hl 3 rfl) ?_
  obtain ⟨r_2, v_3, q_4, hf_1, hr_5, hv_6⟩ := (show tp_o_M L K 0 0 (Γ (39, 0, 0)) (f o) from hI.at ho)
  have hx_7 : (v_3 0).toInt = Γ (39, 0, 0) 0 := hv_6 0 (by decide)
  have hx_8 : (v_3 9).toInt = Γ (39, 0, 0) 9 := hv_6 9 (by decide)
  have hx_9 : (v_3 10).toInt = Γ (39, 0, 0) 10 := hv_6 10 (by decide)
  have hx_10 : (v_3 11).toInt = Γ (39, 0, 0) 11 := hv_6 11 (by decide)
  have hx_11 : (v_3 12).toInt = Γ (39, 0, 0) 12 := hv_6 12 (by decide)
  have hx_12 : (v_3 13).toInt = Γ (39, 0, 0) 13 := hv_6 13 (by decide)
  have hx_13 : (v_3 14).toInt = Γ (39, 0, 0) 14 := hv_6 14 (by decide)
  have hx_14 : (v_3 15).toInt = Γ (39, 0, 0) 15 := hv_6 15 (by decide)
  refine tq_cvR hS (hAf _ hS.1) (tq_rV (As := [.int p1, .int p2]) (rest := []) ⟨hx, hb, hml, hown, hta⟩ (tp_P.pre hK hN hL hU hI hP) (tp_recv hK hP ho.1 hf_1 rfl) lk_X12_352 (r_X12_words l D cy s.heap.size L K Γ f o p1 p2 ho (by first | omega | (simp only [Int32.toInt_toInt64]; omega) | decide | assumption)) rfl rfl ⟨Nat.le_of_ble_eq_true rfl, Nat.le_of_ble_eq_true rfl⟩ rfl hl.1 rfl (Nat.le_of_ble_eq_true rfl) dX12_makesAt_3 ⟨Nat.le_of_ble_eq_true rfl, Nat.le_of_ble_eq_true rfl⟩) (fun f_17 Γ_19 H locs hw_15 hP hI hc_18 hcg_20 hS => ?_)
  have hD : va_D A (va_pl L f_17) := tp_D hL hAL
  have hfr := tp_fr2 hfr hc_18 (by decide)
  have hgr : ∀ κ : tk_K, κ.1 ∉ ([39, 58, 57] : List Nat) → Γ_19 κ = Γ κ := tg_fr2 hgr hcg_20 (by decide)
  have hf_21 := (tp_un hc_18 ho (by decide)).trans hf_1
  have hv_22 : ∀ i : Nat, i < 16 → (v_3 i).toInt = Γ_19 (39, 0, 0) i := fun i hi => by rw [hcg_20 _ (by decide)]; exact hv_6 i hi
  have hx_23 : (v_3 0).toInt = Γ_19 (39, 0, 0) 0 := hv_22 0 (by decide)
  have hx_24 : (v_3 9).toInt = Γ_19 (39, 0, 0) 9 := hv_22 9 (by decide)
  have hx_25 : (v_3 10).toInt = Γ_19 (39, 0, 0) 10 := hv_22 10 (by decide)
  have hx_26 : (v_3 11).toInt = Γ_19 (39, 0, 0) 11 := hv_22 11 (by decide)
  have hx_27 : (v_3 12).toInt = Γ_19 (39, 0, 0) 12 := hv_22 12 (by decide)
  have hx_28 : (v_3 13).toInt = Γ_19 (39, 0, 0) 13 := hv_22 13 (by decide)
  have hx_29 : (v_3 14).toInt = Γ_19 (39, 0, 0) 14 := hv_22 14 (by decide)
  have hx_30 : (v_3 15).toInt = Γ_19 (39, 0, 0) 15 := hv_22 15 (by decide)
  have hjn69 : ∀ (f_31 : Nat → va_E) (Γ_32 : tk_G) (u6 : Int64) (H : Heap) (locs : List Loc) (ls : Array Slot), (Γ_32 (39, 0, 0) 0 = Γ (39, 0, 0) 0) → (Γ_32 (39, 0, 0) 10 = Γ (39, 0, 0) 10) → (Γ_32 (39, 0, 0) 11 = Γ (39, 0, 0) 11) → (Γ_32 (39, 0, 0) 12 = Γ (39, 0, 0) 12) → (Γ_32 (39, 0, 0) 13 = Γ (39, 0, 0) 13) → (Γ_32 (39, 0, 0) 14 = Γ (39, 0, 0) 14) → (Γ_32 (39, 0, 0) 15 = Γ (39, 0, 0) 15) → va_P D vwCl (va_pl L f_31) H → tp_I cy L K Γ_32 f_31 → (∀ b, (K b).1 ∉ ([39, 58, 57] : List Nat) → f_31 b = f b) → (∀ κ : tk_K, κ.1 ∉ ([39, 58, 57] : List Nat) → Γ_32 κ = Γ κ) → va_S A s.heap H locs → lv_has ls 10 [(6, .long u6), (0, .ref o), (1, .int p0), (2, .int p1), (3, .int p2), (4, .int p3)] → W p l e ((headSpec (tl_w yX12_makesAt cX12_makesAt 10 (some .int)) ({ frames := 3, cells := 0, slots := 0, locals := 77 })).room) s m #[.ref o, .int p0, .int p1, .int p2, .int p3] below meth c H locs 0 0 (MQ below (va_Qi (fun (r : Int32) (u : (Nat → va_E) × tk_G) => (-100000 ≤ r.toInt ∧ r.toInt ≤ 100000) ∧ u.2 (39, 0, 0) 0 = Γ (39, 0, 0) 0 ∧ u.2 (39, 0, 0) 10 = Γ (39, 0, 0) 10 ∧ u.2 (39, 0, 0) 11 = Γ (39, 0, 0) 11 ∧ u.2 (39, 0, 0) 12 = Γ (39, 0, 0) 12 ∧ u.2 (39, 0, 0) 13 = Γ (39, 0, 0) 13 ∧ u.2 (39, 0, 0) 14 = Γ (39, 0, 0) 14 ∧ u.2 (39, 0, 0) 15 = Γ (39, 0, 0) 15) (tp_BG D cy L K Γ f [39, 58, 57]) A) #[.ref o, .int p0, .int p1, .int p2, .int p3] s 0 0 A) (F0 m 69 ls []) := by
    intro f_31 Γ_32 u6 H locs ls q0 q10 q11 q12 q13 q14 q15 hP hI hfr hgr hS hl
    have hD : va_D A (va_pl L f_31) := tp_D hL hAL
    have hjn223 : ∀ (f_33 : Nat → va_E) (Γ_34 : tk_G) (u6 : Int64) (H : Heap) (locs : List Loc) (ls : Array Slot), (Γ_34 (39, 0, 0) 0 = Γ (39, 0, 0) 0) → (Γ_34 (39, 0, 0) 10 = Γ (39, 0, 0) 10) → (Γ_34 (39, 0, 0) 11 = Γ (39, 0, 0) 11) → (Γ_34 (39, 0, 0) 12 = Γ (39, 0, 0) 12) → (Γ_34 (39, 0, 0) 13 = Γ (39, 0, 0) 13) → (Γ_34 (39, 0, 0) 14 = Γ (39, 0, 0) 14) → (Γ_34 (39, 0, 0) 15 = Γ (39, 0, 0) 15) → va_P D vwCl (va_pl L f_33) H → tp_I cy L K Γ_34 f_33 → (∀ b, (K b).1 ∉ ([39, 58, 57] : List Nat) → f_33 b = f b) → (∀ κ : tk_K, κ.1 ∉ ([39, 58, 57] : List Nat) → Γ_34 κ = Γ κ) → va_S A s.heap H locs → lv_has ls 10 [(6, .long u6), (0, .ref o), (1, .int p0), (2, .int p1), (3, .int p2), (4, .int p3)] → W p l e ((headSpec (tl_w yX12_makesAt cX12_makesAt 10 (some .int)) ({ frames := 3, cells := 0, slots := 0, locals := 77 })).room) s m #[.ref o, .int p0, .int p1, .int p2, .int p3] below meth c H locs 0 0 (MQ below (va_Qi (fun (r : Int32) (u : (Nat → va_E) × tk_G) => (-100000 ≤ r.toInt ∧ r.toInt ≤ 100000) ∧ u.2 (39, 0, 0) 0 = Γ (39, 0, 0) 0 ∧ u.2 (39, 0, 0) 10 = Γ (39, 0, 0) 10 ∧ u.2 (39, 0, 0) 11 = Γ (39, 0, 0) 11 ∧ u.2 (39, 0, 0) 12 = Γ (39, 0, 0) 12 ∧ u.2 (39, 0, 0) 13 = Γ (39, 0, 0) 13 ∧ u.2 (39, 0, 0) 14 = Γ (39, 0, 0) 14 ∧ u.2 (39, 0, 0) 15 = Γ (39, 0, 0) 15) (tp_BG D cy L K Γ f [39, 58, 57]) A) #[.ref o, .int p0, .int p1, .int p2, .int p3] s 0 0 A) (F0 m 223 ls []) := by
      intro f_33 Γ_34 u6 H locs ls q0 q10 q11 q12 q13 q14 q15 hP hI hfr hgr hS hl
      have hD : va_D A (va_pl L f_33) := tp_D hL hAL
      refine lv_aload_n hx hb dX12_makesAt_223 rfl (lv_at hl 1 rfl) ?_
      refine lv_aload_n hx hb dX12_makesAt_224 rfl (lv_at hl 1 rfl) ?_
      obtain ⟨r_36, v_37, q_38, hf_35, hr_39, hv_40⟩ := (show tp_o_M L K 0 0 (Γ_34 (39, 0, 0)) (f_33 o) from hI.at ho)
      have hx_41 : (v_37 0).toInt = Γ_34 (39, 0, 0) 0 := hv_40 0 (by decide)
      have hx_42 : (v_37 9).toInt = Γ_34 (39, 0, 0) 9 := hv_40 9 (by decide)
      have hx_43 : (v_37 10).toInt = Γ_34 (39, 0, 0) 10 := hv_40 10 (by decide)
      have hx_44 : (v_37 11).toInt = Γ_34 (39, 0, 0) 11 := hv_40 11 (by decide)
      have hx_45 : (v_37 12).toInt = Γ_34 (39, 0, 0) 12 := hv_40 12 (by decide)
      have hx_46 : (v_37 13).toInt = Γ_34 (39, 0, 0) 13 := hv_40 13 (by decide)
      have hx_47 : (v_37 14).toInt = Γ_34 (39, 0, 0) 14 := hv_40 14 (by decide)
      have hx_48 : (v_37 15).toInt = Γ_34 (39, 0, 0) 15 := hv_40 15 (by decide)
      refine tp_get (cy := cy) (ci := 12) (v := .long q_38) (C := RX12) (T := TX12) (N := 49) hx hb hta inlX12 hown hK hP ho.1 hf_35 rfl 29 (by decide) (hta _ wk_776) (fun _ h9 => h9) rfl dX12_makesAt_225 ?_
      refine lv_ldc2 (v := 1103515245) hx hb hown (hta _ wk_787) dX12_makesAt_228 ?_
      refine lv_lmul hx hb dX12_makesAt_231 ?_
      refine lv_topl (fun z_49 ez_49 => ?_)
      refine lv_ldc2 (v := 12345) hx hb hown (hta _ wk_788) dX12_makesAt_232 ?_
      refine lv_ladd hx hb dX12_makesAt_235 ?_
      refine lv_topl (fun z_50 ez_50 => ?_)
      refine lv_ldc2 (v := 2147483648) hx hb hown (hta _ wk_789) dX12_makesAt_236 ?_
      refine lv_lrem hx hb dX12_makesAt_239 (by decide) ?_
      refine lv_topl (fun z_51 ez_51 => ?_)
      have hI9 : tp_I cy L K Γ_34 (va_up f_33 o (.inr (12, [.ref (r_36 0), .ref (r_36 1), .int (v_37 0), .ref (r_36 2), .ref (r_36 3), .ref (r_36 4), .ref (r_36 5), .ref (r_36 6), .ref (r_36 7), .ref (r_36 8), .ref (r_36 9), .ref (r_36 10), .ref (r_36 11), .ref (r_36 12), .ref (r_36 13), .ref (r_36 14), .ref (r_36 15), .int (v_37 1), .int (v_37 2), .int (v_37 3), .int (v_37 4), .int (v_37 5), .int (v_37 6), .int (v_37 7), .ref (r_36 16), .int (v_37 8), .ref (r_36 17), .int (v_37 9), .ref (r_36 18), .long z_51, .ref (r_36 19), .ref (r_36 20), .int (v_37 10), .int (v_37 11), .int (v_37 12), .ref (r_36 21), .ref (r_36 22), .int (v_37 13), .ref (r_36 23), .int (v_37 14), .int (v_37 15), .ref (r_36 24), .ref (r_36 25), .ref (r_36 26), .ref (r_36 27), .ref (r_36 28), .ref (r_36 29), .ref (r_36 30), .ref (r_36 31)]))) := hI.set ho (show tp_o_M L K 0 0 (Γ_34 (39, 0, 0)) _ from ⟨r_36, v_37, z_51, rfl, hr_39, hv_40⟩)
      have hfr9 : ∀ b, (K b).1 ∉ ([39, 58, 57] : List Nat) → va_up f_33 o (.inr (12, [.ref (r_36 0), .ref (r_36 1), .int (v_37 0), .ref (r_36 2), .ref (r_36 3), .ref (r_36 4), .ref (r_36 5), .ref (r_36 6), .ref (r_36 7), .ref (r_36 8), .ref (r_36 9), .ref (r_36 10), .ref (r_36 11), .ref (r_36 12), .ref (r_36 13), .ref (r_36 14), .ref (r_36 15), .int (v_37 1), .int (v_37 2), .int (v_37 3), .int (v_37 4), .int (v_37 5), .int (v_37 6), .int (v_37 7), .ref (r_36 16), .int (v_37 8), .ref (r_36 17), .int (v_37 9), .ref (r_36 18), .long z_51, .ref (r_36 19), .ref (r_36 20), .int (v_37 10), .int (v_37 11), .int (v_37 12), .ref (r_36 21), .ref (r_36 22), .int (v_37 13), .ref (r_36 23), .int (v_37 14), .int (v_37 15), .ref (r_36 24), .ref (r_36 25), .ref (r_36 26), .ref (r_36 27), .ref (r_36 28), .ref (r_36 29), .ref (r_36 30), .ref (r_36 31)])) b = f b := tp_fr hfr ho (by decide)
      refine tp_put (cy := cy) (ci := 12) (v := .long z_51) (ty := tyX12 29) (C := RX12) (T := TX12) (N := 49) hx hb hta inlX12 tyX12 tyX12_ok nmX12 hown hK hP hD hS ho.1 hf_35 rfl 29 (by decide) (hta _ wk_776) (fun _ h9 => h9) rfl (tyX12_ok 29 (by decide)) rfl rfl (Nat.le_of_ble_eq_true rfl) dX12_makesAt_240 (fun H locs hP hD hS => ?_)
      have hP : va_P D vwCl (va_pl L (va_up f_33 o (.inr (12, [.ref (r_36 0), .ref (r_36 1), .int (v_37 0), .ref (r_36 2), .ref (r_36 3), .ref (r_36 4), .ref (r_36 5), .ref (r_36 6), .ref (r_36 7), .ref (r_36 8), .ref (r_36 9), .ref (r_36 10), .ref (r_36 11), .ref (r_36 12), .ref (r_36 13), .ref (r_36 14), .ref (r_36 15), .int (v_37 1), .int (v_37 2), .int (v_37 3), .int (v_37 4), .int (v_37 5), .int (v_37 6), .int (v_37 7), .ref (r_36 16), .int (v_37 8), .ref (r_36 17), .int (v_37 9), .ref (r_36 18), .long z_51, .ref (r_36 19), .ref (r_36 20), .int (v_37 10), .int (v_37 11), .int (v_37 12), .ref (r_36 21), .ref (r_36 22), .int (v_37 13), .ref (r_36 23), .int (v_37 14), .int (v_37 15), .ref (r_36 24), .ref (r_36 25), .ref (r_36 26), .ref (r_36 27), .ref (r_36 28), .ref (r_36 29), .ref (r_36 30), .ref (r_36 31)])))) H := hP
      generalize hfe : va_up f_33 o (.inr (12, [.ref (r_36 0), .ref (r_36 1), .int (v_37 0), .ref (r_36 2), .ref (r_36 3), .ref (r_36 4), .ref (r_36 5), .ref (r_36 6), .ref (r_36 7), .ref (r_36 8), .ref (r_36 9), .ref (r_36 10), .ref (r_36 11), .ref (r_36 12), .ref (r_36 13), .ref (r_36 14), .ref (r_36 15), .int (v_37 1), .int (v_37 2), .int (v_37 3), .int (v_37 4), .int (v_37 5), .int (v_37 6), .int (v_37 7), .ref (r_36 16), .int (v_37 8), .ref (r_36 17), .int (v_37 9), .ref (r_36 18), .long z_51, .ref (r_36 19), .ref (r_36 20), .int (v_37 10), .int (v_37 11), .int (v_37 12), .ref (r_36 21), .ref (r_36 22), .int (v_37 13), .ref (r_36 23), .int (v_37 14), .int (v_37 15), .ref (r_36 24), .ref (r_36 25), .ref (r_36 26), .ref (r_36 27), .ref (r_36 28), .ref (r_36 29), .ref (r_36 30), .ref (r_36 31)])) = f_52 at hP hI9 hfr9
      have hD : va_D A (va_pl L f_52) := tp_D hL hAL
      have hf_53 : f_52 o = .inr (12, [.ref (r_36 0), .ref (r_36 1), .int (v_37 0), .ref (r_36 2), .ref (r_36 3), .ref (r_36 4), .ref (r_36 5), .ref (r_36 6), .ref (r_36 7), .ref (r_36 8), .ref (r_36 9), .ref (r_36 10), .ref (r_36 11), .ref (r_36 12), .ref (r_36 13), .ref (r_36 14), .ref (r_36 15), .int (v_37 1), .int (v_37 2), .int (v_37 3), .int (v_37 4), .int (v_37 5), .int (v_37 6), .int (v_37 7), .ref (r_36 16), .int (v_37 8), .ref (r_36 17), .int (v_37 9), .ref (r_36 18), .long z_51, .ref (r_36 19), .ref (r_36 20), .int (v_37 10), .int (v_37 11), .int (v_37 12), .ref (r_36 21), .ref (r_36 22), .int (v_37 13), .ref (r_36 23), .int (v_37 14), .int (v_37 15), .ref (r_36 24), .ref (r_36 25), .ref (r_36 26), .ref (r_36 27), .ref (r_36 28), .ref (r_36 29), .ref (r_36 30), .ref (r_36 31)]) := by rw [← hfe]; exact va_up_self _ _ _
      clear hfe
      have hI := hI9
      have hfr := hfr9
      clear hI9 hfr9
      refine lv_lload hx hb dX12_makesAt_243 (lv_at hl 0 rfl) ?_
      refine lv_aload_n hx hb dX12_makesAt_245 rfl (lv_at hl 1 rfl) ?_
      refine tp_get (cy := cy) (ci := 12) (v := .long z_51) (C := RX12) (T := TX12) (N := 49) hx hb hta inlX12 hown hK hP ho.1 hf_53 rfl 29 (by decide) (hta _ wk_776) (fun _ h9 => h9) rfl dX12_makesAt_246 ?_
      refine lv_ldc2 (v := 65536) hx hb hown (hta _ wk_790) dX12_makesAt_249 ?_
      refine lv_ldiv hx hb dX12_makesAt_252 (by decide) ?_
      refine lv_topl (fun z_54 ez_54 => ?_)
      refine lv_ldc2 (v := 2) hx hb hown (hta _ wk_536) dX12_makesAt_253 ?_
      refine lv_aload_n hx hb dX12_makesAt_256 rfl (lv_at hl 1 rfl) ?_
      refine tp_get (cy := cy) (ci := 12) (v := .ref (r_36 11)) (C := RX12) (T := TX12) (N := 49) hx hb hta inlX12 hown hK hP ho.1 hf_53 rfl 12 (by decide) (hta _ wk_161) (fun _ h9 => h9) rfl dX12_makesAt_257 ?_
      refine lv_iload_n hx hb dX12_makesAt_260 rfl (lv_at hl 2 rfl) ?_
      obtain ⟨g_56, hf_55, hg_57⟩ := (show tp_ai cy 56 (22) (f (r_36 11)) from hI0.at (show tp_r L K 56 22 0 (r_36 11) from hr_39 11 (by decide)))
      have hn_58 : vp_in p0 (22) := tl_in (by omega) (by omega)
      refine tp_iald (cy := cy) hx hb hK hP (show tp_r L K 56 22 0 (r_36 11) from hr_39 11 (by decide)).1 ((tp_un hfr (show tp_r L K 56 22 0 (r_36 11) from hr_39 11 (by decide)) (by decide)).trans hf_55) hn_58 dX12_makesAt_261 ?_
      refine lv_topi (fun z_59 ez_59 => ?_)
      refine lv_i2l (v := z_59.toInt64) hx hb dX12_makesAt_262 (by first | rfl | decide) ?_
      refine lv_lmul hx hb dX12_makesAt_263 ?_
      refine lv_topl (fun z_60 ez_60 => ?_)
      refine lv_lconst (v := 1) hx hb dX12_makesAt_264 (by decide) ?_
      refine lv_ladd hx hb dX12_makesAt_265 ?_
      refine lv_topl (fun z_61 ez_61 => ?_)
      refine lv_lrem hx hb dX12_makesAt_266 (tl_odd ez_60 ez_61) ?_
      refine lv_topl (fun z_62 ez_62 => ?_)
      refine lv_aload_n hx hb dX12_makesAt_267 rfl (lv_at hl 1 rfl) ?_
      refine tp_get (cy := cy) (ci := 12) (v := .ref (r_36 11)) (C := RX12) (T := TX12) (N := 49) hx hb hta inlX12 hown hK hP ho.1 hf_53 rfl 12 (by decide) (hta _ wk_161) (fun _ h9 => h9) rfl dX12_makesAt_268 ?_
      refine lv_iload_n hx hb dX12_makesAt_271 rfl (lv_at hl 2 rfl) ?_
      have hn_63 : vp_in p0 (22) := tl_in (by omega) (by omega)
      refine tp_iald (cy := cy) hx hb hK hP (show tp_r L K 56 22 0 (r_36 11) from hr_39 11 (by decide)).1 ((tp_un hfr (show tp_r L K 56 22 0 (r_36 11) from hr_39 11 (by decide)) (by decide)).trans hf_55) hn_63 dX12_makesAt_272 ?_
      refine lv_topi (fun z_64 ez_64 => ?_)
      obtain rfl : z_59 = z_64 := ez_59.trans ez_64.symm
      refine lv_i2l (v := z_59.toInt64) hx hb dX12_makesAt_273 (by first | rfl | decide) ?_
      refine lv_lsub hx hb dX12_makesAt_274 ?_
      refine lv_topl (fun z_65 ez_65 => ?_)
      refine lv_ladd hx hb dX12_makesAt_275 ?_
      refine lv_topl (fun z_66 ez_66 => ?_)
      refine lv_lstore (lv' := [(6, .long z_66), (0, .ref o), (1, .int p0), (2, .int p1), (3, .int p2), (4, .int p3)]) hx hb dX12_makesAt_276 hl (by decide) rfl (fun ls hl => ?_)
      refine lv_lload hx hb dX12_makesAt_278 (lv_at hl 0 rfl) ?_
      refine lv_ldc2 (v := (-100000)) hx hb hown (hta _ wk_246) dX12_makesAt_280 ?_
      refine lv_ldc2 (v := 100000) hx hb hown (hta _ wk_247) dX12_makesAt_283 ?_
      refine tl_sl (tq_rS (As := [.long z_66, .long (-100000), .long 100000]) (rest := []) ⟨hx, hb, hml, hown, hta⟩ (tp_P.pre hK hN hL hU hI hP) lk_X12_366 (r_held2 l D cy H.size L K Γ_34 f_52 z_66 (-100000) 100000 ) rfl rfl ⟨Nat.le_of_ble_eq_true rfl, Nat.le_of_ble_eq_true rfl⟩ rfl hl.1 rfl (Nat.le_of_ble_eq_true rfl) dX12_makesAt_286 ⟨Nat.le_of_ble_eq_true rfl, Nat.le_of_ble_eq_true rfl⟩) (fun r_68 hw_67 => ?_)
      have hw_67 : (-100000 : Int) ≤ (100000 : Int) → ((-100000 : Int) ≤ r_68.toInt ∧ r_68.toInt ≤ (100000 : Int)) := hw_67
      refine lv_l2i hx hb dX12_makesAt_289 rfl ?_
      refine lv_topi (fun z_69 ez_69 => ?_)
      have hpo9 : (-100000 ≤ (z_69 : Int32).toInt ∧ (z_69 : Int32).toInt ≤ 100000) ∧ Γ_34 (39, 0, 0) 0 = Γ (39, 0, 0) 0 ∧ Γ_34 (39, 0, 0) 10 = Γ (39, 0, 0) 10 ∧ Γ_34 (39, 0, 0) 11 = Γ (39, 0, 0) 11 ∧ Γ_34 (39, 0, 0) 12 = Γ (39, 0, 0) 12 ∧ Γ_34 (39, 0, 0) 13 = Γ (39, 0, 0) 13 ∧ Γ_34 (39, 0, 0) 14 = Γ (39, 0, 0) 14 ∧ Γ_34 (39, 0, 0) 15 = Γ (39, 0, 0) 15 := ⟨(by have q9 := hw_67 (by decide); have q8 := tl_l2i ez_69 ⟨by omega, by omega⟩; omega), (by omega), (by omega), (by omega), (by omega), (by omega), (by omega), (by omega)⟩
      exact W.iret (v := z_69) hx hb hr (fun t ht hW => ⟨⟨_, (f_52, Γ_34), rfl, hpo9, by rw [ht]; exact hP, hI, hfr, hgr⟩, hS.F ht⟩) hS.2.2 dX12_makesAt_290
    refine lv_iconst (v := 0) hx hb dX12_makesAt_69 (by decide) ?_
    refine lv_istore (lv' := [(8, .int 0), (6, .long u6), (0, .ref o), (1, .int p0), (2, .int p1), (3, .int p2), (4, .int p3)]) hx hb dX12_makesAt_70 hl (by decide) rfl (fun ls hl => ?_)
    refine tl_ind (G := fun H locs ls => W p l e ((headSpec (tl_w yX12_makesAt cX12_makesAt 10 (some .int)) ({ frames := 3, cells := 0, slots := 0, locals := 77 })).room) s m #[.ref o, .int p0, .int p1, .int p2, .int p3] below meth c H locs 0 0 (MQ below (va_Qi (fun (r : Int32) (u : (Nat → va_E) × tk_G) => (-100000 ≤ r.toInt ∧ r.toInt ≤ 100000) ∧ u.2 (39, 0, 0) 0 = Γ (39, 0, 0) 0 ∧ u.2 (39, 0, 0) 10 = Γ (39, 0, 0) 10 ∧ u.2 (39, 0, 0) 11 = Γ (39, 0, 0) 11 ∧ u.2 (39, 0, 0) 12 = Γ (39, 0, 0) 12 ∧ u.2 (39, 0, 0) 13 = Γ (39, 0, 0) 13 ∧ u.2 (39, 0, 0) 14 = Γ (39, 0, 0) 14 ∧ u.2 (39, 0, 0) 15 = Γ (39, 0, 0) 15) (tp_BG D cy L K Γ f [39, 58, 57]) A) #[.ref o, .int p0, .int p1, .int p2, .int p3] s 0 0 A) (F0 m 72 ls [])) (α := (Nat → va_E) × Int32 × Int64) (fun aq => (12 - aq.2.1.toInt).toNat) (fun aq H locs ls => (0 ≤ aq.2.1.toInt) ∧ va_P D vwCl (va_pl L aq.1) H ∧ tp_I cy L K Γ_32 aq.1 ∧ (∀ b, (K b).1 ∉ ([39, 58, 57] : List Nat) → aq.1 b = f b) ∧ va_S A s.heap H locs ∧ lv_has ls 10 [(8, .int aq.2.1), (6, .long aq.2.2), (0, .ref o), (1, .int p0), (2, .int p1), (3, .int p2), (4, .int p3)]) ?_ (f_31, (0 : Int32), u6) H locs ls ⟨(show 0 ≤ (0 : Int) from (by omega)), hP, hI, hfr, hS, lv_sub hl [0, 1, 2, 3, 4, 5, 6] rfl⟩
    rintro ⟨f_70, v8, v6⟩ H locs ls ⟨hr8, hP, hI, hfr, hS, hl⟩ ih72
    have hP : va_P D vwCl (va_pl L f_70) H := hP
    have hI : tp_I cy L K Γ_32 f_70 := hI
    have hfr : ∀ b, (K b).1 ∉ ([39, 58, 57] : List Nat) → f_70 b = f b := hfr
    have hD : va_D A (va_pl L f_70) := tp_D hL hAL
    have hr8 : 0 ≤ v8.toInt := hr8
    have hl : lv_has ls 10 [(8, .int v8), (6, .long v6), (0, .ref o), (1, .int p0), (2, .int p1), (3, .int p2), (4, .int p3)] := hl
    refine lv_iload hx hb dX12_makesAt_72 (lv_at hl 0 rfl) ?_
    refine lv_aload_n hx hb dX12_makesAt_74 rfl (lv_at hl 2 rfl) ?_
    obtain ⟨r_72, v_73, q_74, hf_71, hr_75, hv_76⟩ := (show tp_o_M L K 0 0 (Γ_32 (39, 0, 0)) (f_70 o) from hI.at ho)
    refine tp_get (cy := cy) (ci := 12) (v := .ref (r_72 8)) (C := RX12) (T := TX12) (N := 49) hx hb hta inlX12 hown hK hP ho.1 hf_71 rfl 9 (by decide) (hta _ wk_158) (fun _ h9 => h9) rfl dX12_makesAt_75 ?_
    refine lv_iload_n hx hb dX12_makesAt_78 rfl (lv_at hl 3 rfl) ?_
    obtain ⟨g_86, hf_85, hg_87⟩ := (show tp_gi cy (6) (Γ (47, 6, 0)) (f (r_72 8)) from hI0.at (show tp_r L K 47 6 0 (r_72 8) from hr_75 8 (by decide)))
    have hn_88 : vp_in p0 (6) := tl_in (by omega) (by omega)
    refine tp_iald (cy := cy) hx hb hK hP (show tp_r L K 47 6 0 (r_72 8) from hr_75 8 (by decide)).1 ((tp_un hfr (show tp_r L K 47 6 0 (r_72 8) from hr_75 8 (by decide)) (by decide)).trans hf_85) hn_88 dX12_makesAt_79 ?_
    refine lv_topi (fun z_89 ez_89 => ?_)
    have iz_89 : z_89.toInt = Γ (47, 6, 0) p0.toInt.toNat := by rw [ez_89]; exact hg_87 _ (tp_pin hn_88)
    have kz_89 : z_89.toInt = Γ (47, 6, 0) p0.toInt.toNat := iz_89.trans (congrArg _ (by omega))
    refine lv_icmp_ge (tgt := 141) hx hb dX12_makesAt_80 (by decide) (fun c_90 => ?_) (fun c_90 => ?_)
    · have c_90 : z_89.toInt ≤ v8.toInt := tl_le c_90
      refine lv_aload_n hx hb dX12_makesAt_141 rfl (lv_at hl 2 rfl) ?_
      refine tp_get (cy := cy) (ci := 12) (v := .ref (r_72 9)) (C := RX12) (T := TX12) (N := 49) hx hb hta inlX12 hown hK hP ho.1 hf_71 rfl 10 (by decide) (hta _ wk_159) (fun _ h9 => h9) rfl dX12_makesAt_142 ?_
      refine lv_iload_n hx hb dX12_makesAt_145 rfl (lv_at hl 3 rfl) ?_
      obtain ⟨g_92, hf_91, hg_93⟩ := (show tp_ai cy 54 (22) (f (r_72 9)) from hI0.at (show tp_r L K 54 22 0 (r_72 9) from hr_75 9 (by decide)))
      have hn_94 : vp_in p0 (22) := tl_in (by omega) (by omega)
      refine tp_iald (cy := cy) hx hb hK hP (show tp_r L K 54 22 0 (r_72 9) from hr_75 9 (by decide)).1 ((tp_un hfr (show tp_r L K 54 22 0 (r_72 9) from hr_75 9 (by decide)) (by decide)).trans hf_91) hn_94 dX12_makesAt_146 ?_
      refine lv_topi (fun z_95 ez_95 => ?_)
      refine lv_if_le (tgt := 223) hx hb dX12_makesAt_147 (by decide) (fun c_96 => ?_) (fun c_96 => ?_)
      · have c_96 : z_95.toInt ≤ (0 : Int) := tl_le c_96
        exact hjn223 f_70 Γ_32 v6 H locs ls (show Γ_32 (39, 0, 0) 0 = Γ (39, 0, 0) 0 from (by omega)) (show Γ_32 (39, 0, 0) 10 = Γ (39, 0, 0) 10 from (by omega)) (show Γ_32 (39, 0, 0) 11 = Γ (39, 0, 0) 11 from (by omega)) (show Γ_32 (39, 0, 0) 12 = Γ (39, 0, 0) 12 from (by omega)) (show Γ_32 (39, 0, 0) 13 = Γ (39, 0, 0) 13 from (by omega)) (show Γ_32 (39, 0, 0) 14 = Γ (39, 0, 0) 14 from (by omega)) (show Γ_32 (39, 0, 0) 15 = Γ (39, 0, 0) 15 from (by omega)) hP hI hfr hgr hS (lv_sub hl [1, 2, 3, 4, 5, 6] rfl)
      · have c_96 : (0 : Int) < z_95.toInt := tl_nle c_96
        refine lv_iload_n hx hb dX12_makesAt_150 rfl (lv_at hl 5 rfl) ?_
        refine lv_aload_n hx hb dX12_makesAt_151 rfl (lv_at hl 2 rfl) ?_
        refine tp_get (cy := cy) (ci := 12) (v := .ref (r_72 9)) (C := RX12) (T := TX12) (N := 49) hx hb hta inlX12 hown hK hP ho.1 hf_71 rfl 10 (by decide) (hta _ wk_159) (fun _ h9 => h9) rfl dX12_makesAt_152 ?_
        refine lv_iload_n hx hb dX12_makesAt_155 rfl (lv_at hl 3 rfl) ?_
        have hn_97 : vp_in p0 (22) := tl_in (by omega) (by omega)
        refine tp_iald (cy := cy) hx hb hK hP (show tp_r L K 54 22 0 (r_72 9) from hr_75 9 (by decide)).1 ((tp_un hfr (show tp_r L K 54 22 0 (r_72 9) from hr_75 9 (by decide)) (by decide)).trans hf_91) hn_97 dX12_makesAt_156 ?_
        refine lv_topi (fun z_98 ez_98 => ?_)
        obtain rfl : z_95 = z_98 := ez_95.trans ez_98.symm
        refine lv_irem hx hb dX12_makesAt_157 (tl_ne0 (by omega)) ?_
        refine lv_topi (fun z_99 ez_99 => ?_)
        try have iz_99 := tl_iremB ez_99 (by omega) (by omega)
        refine lv_istore (lv' := [(8, .int z_99), (6, .long v6), (0, .ref o), (1, .int p0), (2, .int p1), (3, .int p2), (4, .int p3)]) hx hb dX12_makesAt_158 hl (by decide) rfl (fun ls hl => ?_)
        refine lv_iload hx hb dX12_makesAt_160 (lv_at hl 0 rfl) ?_
        refine lv_aload_n hx hb dX12_makesAt_162 rfl (lv_at hl 2 rfl) ?_
        refine tp_get (cy := cy) (ci := 12) (v := .ref (r_72 9)) (C := RX12) (T := TX12) (N := 49) hx hb hta inlX12 hown hK hP ho.1 hf_71 rfl 10 (by decide) (hta _ wk_159) (fun _ h9 => h9) rfl dX12_makesAt_163 ?_
        refine lv_iload_n hx hb dX12_makesAt_166 rfl (lv_at hl 3 rfl) ?_
        have hn_100 : vp_in p0 (22) := tl_in (by omega) (by omega)
        refine tp_iald (cy := cy) hx hb hK hP (show tp_r L K 54 22 0 (r_72 9) from hr_75 9 (by decide)).1 ((tp_un hfr (show tp_r L K 54 22 0 (r_72 9) from hr_75 9 (by decide)) (by decide)).trans hf_91) hn_100 dX12_makesAt_167 ?_
        refine lv_topi (fun z_101 ez_101 => ?_)
        obtain rfl : z_95 = z_101 := ez_95.trans ez_101.symm
        refine lv_iload hx hb dX12_makesAt_168 (lv_at hl 0 rfl) ?_
        refine lv_isub hx hb dX12_makesAt_170 ?_
        refine lv_topi (fun z_102 ez_102 => ?_)
        try have iz_102 : z_102.toInt = z_95.toInt - z_99.toInt := by rw [ez_102]; exact tl_subN z_95 z_99 rfl rfl (by omega) (by omega)
        refine lv_icmp_ge (tgt := 179) hx hb dX12_makesAt_171 (by decide) (fun c_103 => ?_) (fun c_103 => ?_)
        · have c_103 : z_102.toInt ≤ z_99.toInt := tl_le c_103
          refine lv_aload_n hx hb dX12_makesAt_179 rfl (lv_at hl 2 rfl) ?_
          refine tp_get (cy := cy) (ci := 12) (v := .ref (r_72 9)) (C := RX12) (T := TX12) (N := 49) hx hb hta inlX12 hown hK hP ho.1 hf_71 rfl 10 (by decide) (hta _ wk_159) (fun _ h9 => h9) rfl dX12_makesAt_180 ?_
          refine lv_iload_n hx hb dX12_makesAt_183 rfl (lv_at hl 3 rfl) ?_
          have hn_104 : vp_in p0 (22) := tl_in (by omega) (by omega)
          refine tp_iald (cy := cy) hx hb hK hP (show tp_r L K 54 22 0 (r_72 9) from hr_75 9 (by decide)).1 ((tp_un hfr (show tp_r L K 54 22 0 (r_72 9) from hr_75 9 (by decide)) (by decide)).trans hf_91) hn_104 dX12_makesAt_184 ?_
          refine lv_topi (fun z_105 ez_105 => ?_)
          obtain rfl : z_95 = z_105 := ez_95.trans ez_105.symm
          refine lv_iload hx hb dX12_makesAt_185 (lv_at hl 0 rfl) ?_
          refine lv_isub hx hb dX12_makesAt_187 ?_
          refine lv_topi (fun z_106 ez_106 => ?_)
          try have iz_106 : z_106.toInt = z_95.toInt - z_99.toInt := by rw [ez_106]; exact tl_subN z_95 z_99 rfl rfl (by omega) (by omega)
          refine lv_istore (lv' := [(9, .int z_106), (8, .int z_99), (6, .long v6), (0, .ref o), (1, .int p0), (2, .int p1), (3, .int p2), (4, .int p3)]) hx hb dX12_makesAt_188 hl (by decide) rfl (fun ls hl => ?_)
          refine lv_lload hx hb dX12_makesAt_190 (lv_at hl 2 rfl) ?_
          refine lv_iconst (v := 2) hx hb dX12_makesAt_192 (by decide) ?_
          refine lv_aload_n hx hb dX12_makesAt_193 rfl (lv_at hl 3 rfl) ?_
          refine tp_get (cy := cy) (ci := 12) (v := .ref (r_72 10)) (C := RX12) (T := TX12) (N := 49) hx hb hta inlX12 hown hK hP ho.1 hf_71 rfl 11 (by decide) (hta _ wk_160) (fun _ h9 => h9) rfl dX12_makesAt_194 ?_
          refine lv_iload_n hx hb dX12_makesAt_197 rfl (lv_at hl 4 rfl) ?_
          obtain ⟨g_108, hf_107, hg_109⟩ := (show tp_ai cy 55 (22) (f (r_72 10)) from hI0.at (show tp_r L K 55 22 0 (r_72 10) from hr_75 10 (by decide)))
          have hn_110 : vp_in p0 (22) := tl_in (by omega) (by omega)
          refine tp_iald (cy := cy) hx hb hK hP (show tp_r L K 55 22 0 (r_72 10) from hr_75 10 (by decide)).1 ((tp_un hfr (show tp_r L K 55 22 0 (r_72 10) from hr_75 10 (by decide)) (by decide)).trans hf_107) hn_110 dX12_makesAt_198 ?_
          refine lv_topi (fun z_111 ez_111 => ?_)
          refine lv_imul hx hb dX12_makesAt_199 ?_
          refine lv_topi (fun z_112 ez_112 => ?_)
          try have iz_112 : z_112.toInt = (2 : Int) * z_111.toInt := by rw [ez_112]; exact tl_mulN 2 z_111 rfl rfl (by omega) (by omega)
          refine lv_iload hx hb dX12_makesAt_200 (lv_at hl 0 rfl) ?_
          refine lv_imul hx hb dX12_makesAt_202 ?_
          refine lv_topi (fun z_113 ez_113 => ?_)
          try have iz_113 : z_113.toInt = z_112.toInt * z_106.toInt := by rw [ez_113]; exact tl_mulN z_112 z_106 rfl rfl (by omega) (by omega)
          refine lv_aload_n hx hb dX12_makesAt_203 rfl (lv_at hl 3 rfl) ?_
          refine tp_get (cy := cy) (ci := 12) (v := .ref (r_72 9)) (C := RX12) (T := TX12) (N := 49) hx hb hta inlX12 hown hK hP ho.1 hf_71 rfl 10 (by decide) (hta _ wk_159) (fun _ h9 => h9) rfl dX12_makesAt_204 ?_
          refine lv_iload_n hx hb dX12_makesAt_207 rfl (lv_at hl 4 rfl) ?_
          have hn_114 : vp_in p0 (22) := tl_in (by omega) (by omega)
          refine tp_iald (cy := cy) hx hb hK hP (show tp_r L K 54 22 0 (r_72 9) from hr_75 9 (by decide)).1 ((tp_un hfr (show tp_r L K 54 22 0 (r_72 9) from hr_75 9 (by decide)) (by decide)).trans hf_91) hn_114 dX12_makesAt_208 ?_
          refine lv_topi (fun z_115 ez_115 => ?_)
          obtain rfl : z_95 = z_115 := ez_95.trans ez_115.symm
          refine lv_idiv hx hb dX12_makesAt_209 (tl_ne0 (by omega)) ?_
          refine lv_topi (fun z_116 ez_116 => ?_)
          refine lv_aload_n hx hb dX12_makesAt_210 rfl (lv_at hl 3 rfl) ?_
          refine tp_get (cy := cy) (ci := 12) (v := .ref (r_72 10)) (C := RX12) (T := TX12) (N := 49) hx hb hta inlX12 hown hK hP ho.1 hf_71 rfl 11 (by decide) (hta _ wk_160) (fun _ h9 => h9) rfl dX12_makesAt_211 ?_
          refine lv_iload_n hx hb dX12_makesAt_214 rfl (lv_at hl 4 rfl) ?_
          have hn_117 : vp_in p0 (22) := tl_in (by omega) (by omega)
          refine tp_iald (cy := cy) hx hb hK hP (show tp_r L K 55 22 0 (r_72 10) from hr_75 10 (by decide)).1 ((tp_un hfr (show tp_r L K 55 22 0 (r_72 10) from hr_75 10 (by decide)) (by decide)).trans hf_107) hn_117 dX12_makesAt_215 ?_
          refine lv_topi (fun z_118 ez_118 => ?_)
          obtain rfl : z_111 = z_118 := ez_111.trans ez_118.symm
          refine lv_iconst (v := 2) hx hb dX12_makesAt_216 (by decide) ?_
          refine lv_idiv hx hb dX12_makesAt_217 (by decide) ?_
          refine lv_topi (fun z_119 ez_119 => ?_)
          refine lv_isub hx hb dX12_makesAt_218 ?_
          refine lv_topi (fun z_120 ez_120 => ?_)
          try have iz_120 : z_120.toInt = z_116.toInt - z_119.toInt := by rw [ez_120]; exact tl_subN z_116 z_119 rfl rfl (by omega) (by omega)
          refine lv_i2l (v := z_120.toInt64) hx hb dX12_makesAt_219 (by first | rfl | decide) ?_
          refine lv_ladd hx hb dX12_makesAt_220 ?_
          refine lv_topl (fun z_121 ez_121 => ?_)
          refine lv_lstore (lv' := [(6, .long z_121), (9, .int z_106), (8, .int z_99), (0, .ref o), (1, .int p0), (2, .int p1), (3, .int p2), (4, .int p3)]) hx hb dX12_makesAt_221 hl (by decide) rfl (fun ls hl => ?_)
          exact hjn223 f_70 Γ_32 z_121 H locs ls (show Γ_32 (39, 0, 0) 0 = Γ (39, 0, 0) 0 from (by omega)) (show Γ_32 (39, 0, 0) 10 = Γ (39, 0, 0) 10 from (by omega)) (show Γ_32 (39, 0, 0) 11 = Γ (39, 0, 0) 11 from (by omega)) (show Γ_32 (39, 0, 0) 12 = Γ (39, 0, 0) 12 from (by omega)) (show Γ_32 (39, 0, 0) 13 = Γ (39, 0, 0) 13 from (by omega)) (show Γ_32 (39, 0, 0) 14 = Γ (39, 0, 0) 14 from (by omega)) (show Γ_32 (39, 0, 0) 15 = Γ (39, 0, 0) 15 from (by omega)) hP hI hfr hgr hS (lv_sub hl [0, 3, 4, 5, 6, 7] rfl)
        · have c_103 : z_99.toInt < z_102.toInt := tl_nle c_103
          refine lv_iload hx hb dX12_makesAt_174 (lv_at hl 0 rfl) ?_
          refine lv_goto (tgt := 188) hx hb dX12_makesAt_176 (by decide) ?_
          refine lv_istore (lv' := [(9, .int z_99), (8, .int z_99), (6, .long v6), (0, .ref o), (1, .int p0), (2, .int p1), (3, .int p2), (4, .int p3)]) hx hb dX12_makesAt_188 hl (by decide) rfl (fun ls hl => ?_)
          refine lv_lload hx hb dX12_makesAt_190 (lv_at hl 2 rfl) ?_
          refine lv_iconst (v := 2) hx hb dX12_makesAt_192 (by decide) ?_
          refine lv_aload_n hx hb dX12_makesAt_193 rfl (lv_at hl 3 rfl) ?_
          refine tp_get (cy := cy) (ci := 12) (v := .ref (r_72 10)) (C := RX12) (T := TX12) (N := 49) hx hb hta inlX12 hown hK hP ho.1 hf_71 rfl 11 (by decide) (hta _ wk_160) (fun _ h9 => h9) rfl dX12_makesAt_194 ?_
          refine lv_iload_n hx hb dX12_makesAt_197 rfl (lv_at hl 4 rfl) ?_
          obtain ⟨g_123, hf_122, hg_124⟩ := (show tp_ai cy 55 (22) (f (r_72 10)) from hI0.at (show tp_r L K 55 22 0 (r_72 10) from hr_75 10 (by decide)))
          have hn_125 : vp_in p0 (22) := tl_in (by omega) (by omega)
          refine tp_iald (cy := cy) hx hb hK hP (show tp_r L K 55 22 0 (r_72 10) from hr_75 10 (by decide)).1 ((tp_un hfr (show tp_r L K 55 22 0 (r_72 10) from hr_75 10 (by decide)) (by decide)).trans hf_122) hn_125 dX12_makesAt_198 ?_
          refine lv_topi (fun z_126 ez_126 => ?_)
          refine lv_imul hx hb dX12_makesAt_199 ?_
          refine lv_topi (fun z_127 ez_127 => ?_)
          try have iz_127 : z_127.toInt = (2 : Int) * z_126.toInt := by rw [ez_127]; exact tl_mulN 2 z_126 rfl rfl (by omega) (by omega)
          refine lv_iload hx hb dX12_makesAt_200 (lv_at hl 0 rfl) ?_
          refine lv_imul hx hb dX12_makesAt_202 ?_
          refine lv_topi (fun z_128 ez_128 => ?_)
          try have iz_128 : z_128.toInt = z_127.toInt * z_99.toInt := by rw [ez_128]; exact tl_mulN z_127 z_99 rfl rfl (by omega) (by omega)
          refine lv_aload_n hx hb dX12_makesAt_203 rfl (lv_at hl 3 rfl) ?_
          refine tp_get (cy := cy) (ci := 12) (v := .ref (r_72 9)) (C := RX12) (T := TX12) (N := 49) hx hb hta inlX12 hown hK hP ho.1 hf_71 rfl 10 (by decide) (hta _ wk_159) (fun _ h9 => h9) rfl dX12_makesAt_204 ?_
          refine lv_iload_n hx hb dX12_makesAt_207 rfl (lv_at hl 4 rfl) ?_
          have hn_129 : vp_in p0 (22) := tl_in (by omega) (by omega)
          refine tp_iald (cy := cy) hx hb hK hP (show tp_r L K 54 22 0 (r_72 9) from hr_75 9 (by decide)).1 ((tp_un hfr (show tp_r L K 54 22 0 (r_72 9) from hr_75 9 (by decide)) (by decide)).trans hf_91) hn_129 dX12_makesAt_208 ?_
          refine lv_topi (fun z_130 ez_130 => ?_)
          obtain rfl : z_95 = z_130 := ez_95.trans ez_130.symm
          refine lv_idiv hx hb dX12_makesAt_209 (tl_ne0 (by omega)) ?_
          refine lv_topi (fun z_131 ez_131 => ?_)
          refine lv_aload_n hx hb dX12_makesAt_210 rfl (lv_at hl 3 rfl) ?_
          refine tp_get (cy := cy) (ci := 12) (v := .ref (r_72 10)) (C := RX12) (T := TX12) (N := 49) hx hb hta inlX12 hown hK hP ho.1 hf_71 rfl 11 (by decide) (hta _ wk_160) (fun _ h9 => h9) rfl dX12_makesAt_211 ?_
          refine lv_iload_n hx hb dX12_makesAt_214 rfl (lv_at hl 4 rfl) ?_
          have hn_132 : vp_in p0 (22) := tl_in (by omega) (by omega)
          refine tp_iald (cy := cy) hx hb hK hP (show tp_r L K 55 22 0 (r_72 10) from hr_75 10 (by decide)).1 ((tp_un hfr (show tp_r L K 55 22 0 (r_72 10) from hr_75 10 (by decide)) (by decide)).trans hf_122) hn_132 dX12_makesAt_215 ?_
          refine lv_topi (fun z_133 ez_133 => ?_)
          obtain rfl : z_126 = z_133 := ez_126.trans ez_133.symm
          refine lv_iconst (v := 2) hx hb dX12_makesAt_216 (by decide) ?_
          refine lv_idiv hx hb dX12_makesAt_217 (by decide) ?_
          refine lv_topi (fun z_134 ez_134 => ?_)
          refine lv_isub hx hb dX12_makesAt_218 ?_
          refine lv_topi (fun z_135 ez_135 => ?_)
          try have iz_135 : z_135.toInt = z_131.toInt - z_134.toInt := by rw [ez_135]; exact tl_subN z_131 z_134 rfl rfl (by omega) (by omega)
          refine lv_i2l (v := z_135.toInt64) hx hb dX12_makesAt_219 (by first | rfl | decide) ?_
          refine lv_ladd hx hb dX12_makesAt_220 ?_
          refine lv_topl (fun z_136 ez_136 => ?_)
          refine lv_lstore (lv' := [(6, .long z_136), (9, .int z_99), (8, .int z_99), (0, .ref o), (1, .int p0), (2, .int p1), (3, .int p2), (4, .int p3)]) hx hb dX12_makesAt_221 hl (by decide) rfl (fun ls hl => ?_)
          exact hjn223 f_70 Γ_32 z_136 H locs ls (show Γ_32 (39, 0, 0) 0 = Γ (39, 0, 0) 0 from (by omega)) (show Γ_32 (39, 0, 0) 10 = Γ (39, 0, 0) 10 from (by omega)) (show Γ_32 (39, 0, 0) 11 = Γ (39, 0, 0) 11 from (by omega)) (show Γ_32 (39, 0, 0) 12 = Γ (39, 0, 0) 12 from (by omega)) (show Γ_32 (39, 0, 0) 13 = Γ (39, 0, 0) 13 from (by omega)) (show Γ_32 (39, 0, 0) 14 = Γ (39, 0, 0) 14 from (by omega)) (show Γ_32 (39, 0, 0) 15 = Γ (39, 0, 0) 15 from (by omega)) hP hI hfr hgr hS (lv_sub hl [0, 3, 4, 5, 6, 7] rfl)
    · have c_90 : v8.toInt < z_89.toInt := tl_nle c_90
      refine lv_iload hx hb dX12_makesAt_83 (lv_at hl 6 rfl) ?_
      refine lv_if_eq (tgt := 141) hx hb dX12_makesAt_85 (by decide) (fun c_137 => ?_) (fun c_137 => ?_)
      · have c_137 : p3.toInt = (0 : Int) := tl_eq c_137
        refine lv_aload_n hx hb dX12_makesAt_141 rfl (lv_at hl 2 rfl) ?_
        refine tp_get (cy := cy) (ci := 12) (v := .ref (r_72 9)) (C := RX12) (T := TX12) (N := 49) hx hb hta inlX12 hown hK hP ho.1 hf_71 rfl 10 (by decide) (hta _ wk_159) (fun _ h9 => h9) rfl dX12_makesAt_142 ?_
        refine lv_iload_n hx hb dX12_makesAt_145 rfl (lv_at hl 3 rfl) ?_
        obtain ⟨g_139, hf_138, hg_140⟩ := (show tp_ai cy 54 (22) (f (r_72 9)) from hI0.at (show tp_r L K 54 22 0 (r_72 9) from hr_75 9 (by decide)))
        have hn_141 : vp_in p0 (22) := tl_in (by omega) (by omega)
        refine tp_iald (cy := cy) hx hb hK hP (show tp_r L K 54 22 0 (r_72 9) from hr_75 9 (by decide)).1 ((tp_un hfr (show tp_r L K 54 22 0 (r_72 9) from hr_75 9 (by decide)) (by decide)).trans hf_138) hn_141 dX12_makesAt_146 ?_
        refine lv_topi (fun z_142 ez_142 => ?_)
        refine lv_if_le (tgt := 223) hx hb dX12_makesAt_147 (by decide) (fun c_143 => ?_) (fun c_143 => ?_)
        · have c_143 : z_142.toInt ≤ (0 : Int) := tl_le c_143
          exact hjn223 f_70 Γ_32 v6 H locs ls (show Γ_32 (39, 0, 0) 0 = Γ (39, 0, 0) 0 from (by omega)) (show Γ_32 (39, 0, 0) 10 = Γ (39, 0, 0) 10 from (by omega)) (show Γ_32 (39, 0, 0) 11 = Γ (39, 0, 0) 11 from (by omega)) (show Γ_32 (39, 0, 0) 12 = Γ (39, 0, 0) 12 from (by omega)) (show Γ_32 (39, 0, 0) 13 = Γ (39, 0, 0) 13 from (by omega)) (show Γ_32 (39, 0, 0) 14 = Γ (39, 0, 0) 14 from (by omega)) (show Γ_32 (39, 0, 0) 15 = Γ (39, 0, 0) 15 from (by omega)) hP hI hfr hgr hS (lv_sub hl [1, 2, 3, 4, 5, 6] rfl)
        · have c_143 : (0 : Int) < z_142.toInt := tl_nle c_143
          refine lv_iload_n hx hb dX12_makesAt_150 rfl (lv_at hl 5 rfl) ?_
          refine lv_aload_n hx hb dX12_makesAt_151 rfl (lv_at hl 2 rfl) ?_
          refine tp_get (cy := cy) (ci := 12) (v := .ref (r_72 9)) (C := RX12) (T := TX12) (N := 49) hx hb hta inlX12 hown hK hP ho.1 hf_71 rfl 10 (by decide) (hta _ wk_159) (fun _ h9 => h9) rfl dX12_makesAt_152 ?_
          refine lv_iload_n hx hb dX12_makesAt_155 rfl (lv_at hl 3 rfl) ?_
          have hn_144 : vp_in p0 (22) := tl_in (by omega) (by omega)
          refine tp_iald (cy := cy) hx hb hK hP (show tp_r L K 54 22 0 (r_72 9) from hr_75 9 (by decide)).1 ((tp_un hfr (show tp_r L K 54 22 0 (r_72 9) from hr_75 9 (by decide)) (by decide)).trans hf_138) hn_144 dX12_makesAt_156 ?_
          refine lv_topi (fun z_145 ez_145 => ?_)
          obtain rfl : z_142 = z_145 := ez_142.trans ez_145.symm
          refine lv_irem hx hb dX12_makesAt_157 (tl_ne0 (by omega)) ?_
          refine lv_topi (fun z_146 ez_146 => ?_)
          try have iz_146 := tl_iremB ez_146 (by omega) (by omega)
          refine lv_istore (lv' := [(8, .int z_146), (6, .long v6), (0, .ref o), (1, .int p0), (2, .int p1), (3, .int p2), (4, .int p3)]) hx hb dX12_makesAt_158 hl (by decide) rfl (fun ls hl => ?_)
          refine lv_iload hx hb dX12_makesAt_160 (lv_at hl 0 rfl) ?_
          refine lv_aload_n hx hb dX12_makesAt_162 rfl (lv_at hl 2 rfl) ?_
          refine tp_get (cy := cy) (ci := 12) (v := .ref (r_72 9)) (C := RX12) (T := TX12) (N := 49) hx hb hta inlX12 hown hK hP ho.1 hf_71 rfl 10 (by decide) (hta _ wk_159) (fun _ h9 => h9) rfl dX12_makesAt_163 ?_
          refine lv_iload_n hx hb dX12_makesAt_166 rfl (lv_at hl 3 rfl) ?_
          have hn_147 : vp_in p0 (22) := tl_in (by omega) (by omega)
          refine tp_iald (cy := cy) hx hb hK hP (show tp_r L K 54 22 0 (r_72 9) from hr_75 9 (by decide)).1 ((tp_un hfr (show tp_r L K 54 22 0 (r_72 9) from hr_75 9 (by decide)) (by decide)).trans hf_138) hn_147 dX12_makesAt_167 ?_
          refine lv_topi (fun z_148 ez_148 => ?_)
          obtain rfl : z_142 = z_148 := ez_142.trans ez_148.symm
          refine lv_iload hx hb dX12_makesAt_168 (lv_at hl 0 rfl) ?_
          refine lv_isub hx hb dX12_makesAt_170 ?_
          refine lv_topi (fun z_149 ez_149 => ?_)
          try have iz_149 : z_149.toInt = z_142.toInt - z_146.toInt := by rw [ez_149]; exact tl_subN z_142 z_146 rfl rfl (by omega) (by omega)
          refine lv_icmp_ge (tgt := 179) hx hb dX12_makesAt_171 (by decide) (fun c_150 => ?_) (fun c_150 => ?_)
          · have c_150 : z_149.toInt ≤ z_146.toInt := tl_le c_150
            refine lv_aload_n hx hb dX12_makesAt_179 rfl (lv_at hl 2 rfl) ?_
            refine tp_get (cy := cy) (ci := 12) (v := .ref (r_72 9)) (C := RX12) (T := TX12) (N := 49) hx hb hta inlX12 hown hK hP ho.1 hf_71 rfl 10 (by decide) (hta _ wk_159) (fun _ h9 => h9) rfl dX12_makesAt_180 ?_
            refine lv_iload_n hx hb dX12_makesAt_183 rfl (lv_at hl 3 rfl) ?_
            have hn_151 : vp_in p0 (22) := tl_in (by omega) (by omega)
            refine tp_iald (cy := cy) hx hb hK hP (show tp_r L K 54 22 0 (r_72 9) from hr_75 9 (by decide)).1 ((tp_un hfr (show tp_r L K 54 22 0 (r_72 9) from hr_75 9 (by decide)) (by decide)).trans hf_138) hn_151 dX12_makesAt_184 ?_
            refine lv_topi (fun z_152 ez_152 => ?_)
            obtain rfl : z_142 = z_152 := ez_142.trans ez_152.symm
            refine lv_iload hx hb dX12_makesAt_185 (lv_at hl 0 rfl) ?_
            refine lv_isub hx hb dX12_makesAt_187 ?_
            refine lv_topi (fun z_153 ez_153 => ?_)
            try have iz_153 : z_153.toInt = z_142.toInt - z_146.toInt := by rw [ez_153]; exact tl_subN z_142 z_146 rfl rfl (by omega) (by omega)
            refine lv_istore (lv' := [(9, .int z_153), (8, .int z_146), (6, .long v6), (0, .ref o), (1, .int p0), (2, .int p1), (3, .int p2), (4, .int p3)]) hx hb dX12_makesAt_188 hl (by decide) rfl (fun ls hl => ?_)
            refine lv_lload hx hb dX12_makesAt_190 (lv_at hl 2 rfl) ?_
            refine lv_iconst (v := 2) hx hb dX12_makesAt_192 (by decide) ?_
            refine lv_aload_n hx hb dX12_makesAt_193 rfl (lv_at hl 3 rfl) ?_
            refine tp_get (cy := cy) (ci := 12) (v := .ref (r_72 10)) (C := RX12) (T := TX12) (N := 49) hx hb hta inlX12 hown hK hP ho.1 hf_71 rfl 11 (by decide) (hta _ wk_160) (fun _ h9 => h9) rfl dX12_makesAt_194 ?_
            refine lv_iload_n hx hb dX12_makesAt_197 rfl (lv_at hl 4 rfl) ?_
            obtain ⟨g_155, hf_154, hg_156⟩ := (show tp_ai cy 55 (22) (f (r_72 10)) from hI0.at (show tp_r L K 55 22 0 (r_72 10) from hr_75 10 (by decide)))
            have hn_157 : vp_in p0 (22) := tl_in (by omega) (by omega)
            refine tp_iald (cy := cy) hx hb hK hP (show tp_r L K 55 22 0 (r_72 10) from hr_75 10 (by decide)).1 ((tp_un hfr (show tp_r L K 55 22 0 (r_72 10) from hr_75 10 (by decide)) (by decide)).trans hf_154) hn_157 dX12_makesAt_198 ?_
            refine lv_topi (fun z_158 ez_158 => ?_)
            refine lv_imul hx hb dX12_makesAt_199 ?_
            refine lv_topi (fun z_159 ez_159 => ?_)
            try have iz_159 : z_159.toInt = (2 : Int) * z_158.toInt := by rw [ez_159]; exact tl_mulN 2 z_158 rfl rfl (by omega) (by omega)
            refine lv_iload hx hb dX12_makesAt_200 (lv_at hl 0 rfl) ?_
            refine lv_imul hx hb dX12_makesAt_202 ?_
            refine lv_topi (fun z_160 ez_160 => ?_)
            try have iz_160 : z_160.toInt = z_159.toInt * z_153.toInt := by rw [ez_160]; exact tl_mulN z_159 z_153 rfl rfl (by omega) (by omega)
            refine lv_aload_n hx hb dX12_makesAt_203 rfl (lv_at hl 3 rfl) ?_
            refine tp_get (cy := cy) (ci := 12) (v := .ref (r_72 9)) (C := RX12) (T := TX12) (N := 49) hx hb hta inlX12 hown hK hP ho.1 hf_71 rfl 10 (by decide) (hta _ wk_159) (fun _ h9 => h9) rfl dX12_makesAt_204 ?_
            refine lv_iload_n hx hb dX12_makesAt_207 rfl (lv_at hl 4 rfl) ?_
            have hn_161 : vp_in p0 (22) := tl_in (by omega) (by omega)
            refine tp_iald (cy := cy) hx hb hK hP (show tp_r L K 54 22 0 (r_72 9) from hr_75 9 (by decide)).1 ((tp_un hfr (show tp_r L K 54 22 0 (r_72 9) from hr_75 9 (by decide)) (by decide)).trans hf_138) hn_161 dX12_makesAt_208 ?_
            refine lv_topi (fun z_162 ez_162 => ?_)
            obtain rfl : z_142 = z_162 := ez_142.trans ez_162.symm
            refine lv_idiv hx hb dX12_makesAt_209 (tl_ne0 (by omega)) ?_
            refine lv_topi (fun z_163 ez_163 => ?_)
            refine lv_aload_n hx hb dX12_makesAt_210 rfl (lv_at hl 3 rfl) ?_
            refine tp_get (cy := cy) (ci := 12) (v := .ref (r_72 10)) (C := RX12) (T := TX12) (N := 49) hx hb hta inlX12 hown hK hP ho.1 hf_71 rfl 11 (by decide) (hta _ wk_160) (fun _ h9 => h9) rfl dX12_makesAt_211 ?_
            refine lv_iload_n hx hb dX12_makesAt_214 rfl (lv_at hl 4 rfl) ?_
            have hn_164 : vp_in p0 (22) := tl_in (by omega) (by omega)
            refine tp_iald (cy := cy) hx hb hK hP (show tp_r L K 55 22 0 (r_72 10) from hr_75 10 (by decide)).1 ((tp_un hfr (show tp_r L K 55 22 0 (r_72 10) from hr_75 10 (by decide)) (by decide)).trans hf_154) hn_164 dX12_makesAt_215 ?_
            refine lv_topi (fun z_165 ez_165 => ?_)
            obtain rfl : z_158 = z_165 := ez_158.trans ez_165.symm
            refine lv_iconst (v := 2) hx hb dX12_makesAt_216 (by decide) ?_
            refine lv_idiv hx hb dX12_makesAt_217 (by decide) ?_
            refine lv_topi (fun z_166 ez_166 => ?_)
            refine lv_isub hx hb dX12_makesAt_218 ?_
            refine lv_topi (fun z_167 ez_167 => ?_)
            try have iz_167 : z_167.toInt = z_163.toInt - z_166.toInt := by rw [ez_167]; exact tl_subN z_163 z_166 rfl rfl (by omega) (by omega)
            refine lv_i2l (v := z_167.toInt64) hx hb dX12_makesAt_219 (by first | rfl | decide) ?_
            refine lv_ladd hx hb dX12_makesAt_220 ?_
            refine lv_topl (fun z_168 ez_168 => ?_)
            refine lv_lstore (lv' := [(6, .long z_168), (9, .int z_153), (8, .int z_146), (0, .ref o), (1, .int p0), (2, .int p1), (3, .int p2), (4, .int p3)]) hx hb dX12_makesAt_221 hl (by decide) rfl (fun ls hl => ?_)
            exact hjn223 f_70 Γ_32 z_168 H locs ls (show Γ_32 (39, 0, 0) 0 = Γ (39, 0, 0) 0 from (by omega)) (show Γ_32 (39, 0, 0) 10 = Γ (39, 0, 0) 10 from (by omega)) (show Γ_32 (39, 0, 0) 11 = Γ (39, 0, 0) 11 from (by omega)) (show Γ_32 (39, 0, 0) 12 = Γ (39, 0, 0) 12 from (by omega)) (show Γ_32 (39, 0, 0) 13 = Γ (39, 0, 0) 13 from (by omega)) (show Γ_32 (39, 0, 0) 14 = Γ (39, 0, 0) 14 from (by omega)) (show Γ_32 (39, 0, 0) 15 = Γ (39, 0, 0) 15 from (by omega)) hP hI hfr hgr hS (lv_sub hl [0, 3, 4, 5, 6, 7] rfl)
          · have c_150 : z_146.toInt < z_149.toInt := tl_nle c_150
            refine lv_iload hx hb dX12_makesAt_174 (lv_at hl 0 rfl) ?_
            refine lv_goto (tgt := 188) hx hb dX12_makesAt_176 (by decide) ?_
            refine lv_istore (lv' := [(9, .int z_146), (8, .int z_146), (6, .long v6), (0, .ref o), (1, .int p0), (2, .int p1), (3, .int p2), (4, .int p3)]) hx hb dX12_makesAt_188 hl (by decide) rfl (fun ls hl => ?_)
            refine lv_lload hx hb dX12_makesAt_190 (lv_at hl 2 rfl) ?_
            refine lv_iconst (v := 2) hx hb dX12_makesAt_192 (by decide) ?_
            refine lv_aload_n hx hb dX12_makesAt_193 rfl (lv_at hl 3 rfl) ?_
            refine tp_get (cy := cy) (ci := 12) (v := .ref (r_72 10)) (C := RX12) (T := TX12) (N := 49) hx hb hta inlX12 hown hK hP ho.1 hf_71 rfl 11 (by decide) (hta _ wk_160) (fun _ h9 => h9) rfl dX12_makesAt_194 ?_
            refine lv_iload_n hx hb dX12_makesAt_197 rfl (lv_at hl 4 rfl) ?_
            obtain ⟨g_170, hf_169, hg_171⟩ := (show tp_ai cy 55 (22) (f (r_72 10)) from hI0.at (show tp_r L K 55 22 0 (r_72 10) from hr_75 10 (by decide)))
            have hn_172 : vp_in p0 (22) := tl_in (by omega) (by omega)
            refine tp_iald (cy := cy) hx hb hK hP (show tp_r L K 55 22 0 (r_72 10) from hr_75 10 (by decide)).1 ((tp_un hfr (show tp_r L K 55 22 0 (r_72 10) from hr_75 10 (by decide)) (by decide)).trans hf_169) hn_172 dX12_makesAt_198 ?_
            refine lv_topi (fun z_173 ez_173 => ?_)
            refine lv_imul hx hb dX12_makesAt_199 ?_
            refine lv_topi (fun z_174 ez_174 => ?_)
            try have iz_174 : z_174.toInt = (2 : Int) * z_173.toInt := by rw [ez_174]; exact tl_mulN 2 z_173 rfl rfl (by omega) (by omega)
            refine lv_iload hx hb dX12_makesAt_200 (lv_at hl 0 rfl) ?_
            refine lv_imul hx hb dX12_makesAt_202 ?_
            refine lv_topi (fun z_175 ez_175 => ?_)
            try have iz_175 : z_175.toInt = z_174.toInt * z_146.toInt := by rw [ez_175]; exact tl_mulN z_174 z_146 rfl rfl (by omega) (by omega)
            refine lv_aload_n hx hb dX12_makesAt_203 rfl (lv_at hl 3 rfl) ?_
            refine tp_get (cy := cy) (ci := 12) (v := .ref (r_72 9)) (C := RX12) (T := TX12) (N := 49) hx hb hta inlX12 hown hK hP ho.1 hf_71 rfl 10 (by decide) (hta _ wk_159) (fun _ h9 => h9) rfl dX12_makesAt_204 ?_
            refine lv_iload_n hx hb dX12_makesAt_207 rfl (lv_at hl 4 rfl) ?_
            have hn_176 : vp_in p0 (22) := tl_in (by omega) (by omega)
            refine tp_iald (cy := cy) hx hb hK hP (show tp_r L K 54 22 0 (r_72 9) from hr_75 9 (by decide)).1 ((tp_un hfr (show tp_r L K 54 22 0 (r_72 9) from hr_75 9 (by decide)) (by decide)).trans hf_138) hn_176 dX12_makesAt_208 ?_
            refine lv_topi (fun z_177 ez_177 => ?_)
            obtain rfl : z_142 = z_177 := ez_142.trans ez_177.symm
            refine lv_idiv hx hb dX12_makesAt_209 (tl_ne0 (by omega)) ?_
            refine lv_topi (fun z_178 ez_178 => ?_)
            refine lv_aload_n hx hb dX12_makesAt_210 rfl (lv_at hl 3 rfl) ?_
            refine tp_get (cy := cy) (ci := 12) (v := .ref (r_72 10)) (C := RX12) (T := TX12) (N := 49) hx hb hta inlX12 hown hK hP ho.1 hf_71 rfl 11 (by decide) (hta _ wk_160) (fun _ h9 => h9) rfl dX12_makesAt_211 ?_
            refine lv_iload_n hx hb dX12_makesAt_214 rfl (lv_at hl 4 rfl) ?_
            have hn_179 : vp_in p0 (22) := tl_in (by omega) (by omega)
            refine tp_iald (cy := cy) hx hb hK hP (show tp_r L K 55 22 0 (r_72 10) from hr_75 10 (by decide)).1 ((tp_un hfr (show tp_r L K 55 22 0 (r_72 10) from hr_75 10 (by decide)) (by decide)).trans hf_169) hn_179 dX12_makesAt_215 ?_
            refine lv_topi (fun z_180 ez_180 => ?_)
            obtain rfl : z_173 = z_180 := ez_173.trans ez_180.symm
            refine lv_iconst (v := 2) hx hb dX12_makesAt_216 (by decide) ?_
            refine lv_idiv hx hb dX12_makesAt_217 (by decide) ?_
            refine lv_topi (fun z_181 ez_181 => ?_)
            refine lv_isub hx hb dX12_makesAt_218 ?_
            refine lv_topi (fun z_182 ez_182 => ?_)
            try have iz_182 : z_182.toInt = z_178.toInt - z_181.toInt := by rw [ez_182]; exact tl_subN z_178 z_181 rfl rfl (by omega) (by omega)
            refine lv_i2l (v := z_182.toInt64) hx hb dX12_makesAt_219 (by first | rfl | decide) ?_
            refine lv_ladd hx hb dX12_makesAt_220 ?_
            refine lv_topl (fun z_183 ez_183 => ?_)
            refine lv_lstore (lv' := [(6, .long z_183), (9, .int z_146), (8, .int z_146), (0, .ref o), (1, .int p0), (2, .int p1), (3, .int p2), (4, .int p3)]) hx hb dX12_makesAt_221 hl (by decide) rfl (fun ls hl => ?_)
            exact hjn223 f_70 Γ_32 z_183 H locs ls (show Γ_32 (39, 0, 0) 0 = Γ (39, 0, 0) 0 from (by omega)) (show Γ_32 (39, 0, 0) 10 = Γ (39, 0, 0) 10 from (by omega)) (show Γ_32 (39, 0, 0) 11 = Γ (39, 0, 0) 11 from (by omega)) (show Γ_32 (39, 0, 0) 12 = Γ (39, 0, 0) 12 from (by omega)) (show Γ_32 (39, 0, 0) 13 = Γ (39, 0, 0) 13 from (by omega)) (show Γ_32 (39, 0, 0) 14 = Γ (39, 0, 0) 14 from (by omega)) (show Γ_32 (39, 0, 0) 15 = Γ (39, 0, 0) 15 from (by omega)) hP hI hfr hgr hS (lv_sub hl [0, 3, 4, 5, 6, 7] rfl)
      · have c_137 : ¬ p3.toInt = (0 : Int) := tl_neq c_137
        refine lv_lload hx hb dX12_makesAt_88 (lv_at hl 1 rfl) ?_
        refine lv_aload_n hx hb dX12_makesAt_90 rfl (lv_at hl 2 rfl) ?_
        refine tp_get (cy := cy) (ci := 12) (v := .ref (r_72 7)) (C := RX12) (T := TX12) (N := 49) hx hb hta inlX12 hown hK hP ho.1 hf_71 rfl 8 (by decide) (hta _ wk_157) (fun _ h9 => h9) rfl dX12_makesAt_91 ?_
        refine lv_bipush (v := 24) hx hb dX12_makesAt_94 (by decide) ?_
        refine lv_iload_n hx hb dX12_makesAt_96 rfl (lv_at hl 3 rfl) ?_
        refine lv_imul hx hb dX12_makesAt_97 ?_
        refine lv_topi (fun z_184 ez_184 => ?_)
        try have iz_184 : z_184.toInt = (24 : Int) * p0.toInt := by rw [ez_184]; exact tl_mulN 24 p0 rfl rfl (by omega) (by omega)
        refine lv_iconst (v := 2) hx hb dX12_makesAt_98 (by decide) ?_
        refine lv_iload hx hb dX12_makesAt_99 (lv_at hl 0 rfl) ?_
        refine lv_imul hx hb dX12_makesAt_101 ?_
        refine lv_topi (fun z_185 ez_185 => ?_)
        try have iz_185 : z_185.toInt = (2 : Int) * v8.toInt := by rw [ez_185]; exact tl_mulN 2 v8 rfl rfl (by omega) (by omega)
        refine lv_iadd hx hb dX12_makesAt_102 ?_
        refine lv_topi (fun z_186 ez_186 => ?_)
        try have iz_186 : z_186.toInt = z_184.toInt + z_185.toInt := by rw [ez_186]; exact tl_addN z_184 z_185 rfl rfl (by omega) (by omega)
        refine lv_iconst (v := 1) hx hb dX12_makesAt_103 (by decide) ?_
        refine lv_iadd hx hb dX12_makesAt_104 ?_
        refine lv_topi (fun z_187 ez_187 => ?_)
        try have iz_187 : z_187.toInt = z_186.toInt + (1 : Int) := by rw [ez_187]; exact tl_addN z_186 1 rfl rfl (by omega) (by omega)
        obtain ⟨g_189, hf_188, hg_190⟩ := (show tp_ai cy 53 (144) (f (r_72 7)) from hI0.at (show tp_r L K 53 144 0 (r_72 7) from hr_75 7 (by decide)))
        have hn_191 : vp_in z_187 (144) := tl_in (by omega) (by omega)
        refine tp_iald (cy := cy) hx hb hK hP (show tp_r L K 53 144 0 (r_72 7) from hr_75 7 (by decide)).1 ((tp_un hfr (show tp_r L K 53 144 0 (r_72 7) from hr_75 7 (by decide)) (by decide)).trans hf_188) hn_191 dX12_makesAt_105 ?_
        refine lv_topi (fun z_192 ez_192 => ?_)
        refine lv_i2l (v := z_192.toInt64) hx hb dX12_makesAt_106 (by first | rfl | decide) ?_
        refine lv_aload_n hx hb dX12_makesAt_107 rfl (lv_at hl 2 rfl) ?_
        refine lv_aload_n hx hb dX12_makesAt_108 rfl (lv_at hl 2 rfl) ?_
        refine tp_get (cy := cy) (ci := 12) (v := .ref (r_72 7)) (C := RX12) (T := TX12) (N := 49) hx hb hta inlX12 hown hK hP ho.1 hf_71 rfl 8 (by decide) (hta _ wk_157) (fun _ h9 => h9) rfl dX12_makesAt_109 ?_
        refine lv_bipush (v := 24) hx hb dX12_makesAt_112 (by decide) ?_
        refine lv_iload_n hx hb dX12_makesAt_114 rfl (lv_at hl 3 rfl) ?_
        refine lv_imul hx hb dX12_makesAt_115 ?_
        refine lv_topi (fun z_193 ez_193 => ?_)
        try have iz_193 : z_193.toInt = (24 : Int) * p0.toInt := by rw [ez_193]; exact tl_mulN 24 p0 rfl rfl (by omega) (by omega)
        refine lv_iconst (v := 2) hx hb dX12_makesAt_116 (by decide) ?_
        refine lv_iload hx hb dX12_makesAt_117 (lv_at hl 0 rfl) ?_
        refine lv_imul hx hb dX12_makesAt_119 ?_
        refine lv_topi (fun z_194 ez_194 => ?_)
        try have iz_194 : z_194.toInt = (2 : Int) * v8.toInt := by rw [ez_194]; exact tl_mulN 2 v8 rfl rfl (by omega) (by omega)
        refine lv_iadd hx hb dX12_makesAt_120 ?_
        refine lv_topi (fun z_195 ez_195 => ?_)
        try have iz_195 : z_195.toInt = z_193.toInt + z_194.toInt := by rw [ez_195]; exact tl_addN z_193 z_194 rfl rfl (by omega) (by omega)
        have hn_196 : vp_in z_195 (144) := tl_in (by omega) (by omega)
        refine tp_iald (cy := cy) hx hb hK hP (show tp_r L K 53 144 0 (r_72 7) from hr_75 7 (by decide)).1 ((tp_un hfr (show tp_r L K 53 144 0 (r_72 7) from hr_75 7 (by decide)) (by decide)).trans hf_188) hn_196 dX12_makesAt_121 ?_
        refine lv_topi (fun z_197 ez_197 => ?_)
        refine lv_iload_n hx hb dX12_makesAt_122 rfl (lv_at hl 5 rfl) ?_
        refine tl_si (tq_rV (As := [.int z_197, .int p2]) (rest := [.long z_192.toInt64, .long v6]) ⟨hx, hb, hml, hown, hta⟩ (tp_P.pre hK hN hL hU hI hP) (tp_recv hK hP ho.1 hf_71 rfl) lk_X12_150 (r_X12_depthOf l D cy H.size L K Γ_32 f_70 o z_197 p2 ho (by first | omega | assumption | (rw [hgr (40, 7666, 0) (by decide)]; first | exact hs | assumption | omega))) rfl rfl ⟨Nat.le_of_ble_eq_true rfl, Nat.le_of_ble_eq_true rfl⟩ rfl hl.1 rfl (Nat.le_of_ble_eq_true rfl) dX12_makesAt_123 ⟨Nat.le_of_ble_eq_true rfl, Nat.le_of_ble_eq_true rfl⟩) (fun r_199 hw_198 => ?_)
        refine lv_i2l (v := r_199.toInt64) hx hb dX12_makesAt_126 (by first | rfl | decide) ?_
        refine lv_lmul hx hb dX12_makesAt_127 ?_
        refine lv_topl (fun z_200 ez_200 => ?_)
        refine lv_ldc2 (v := 1000) hx hb hown (hta _ wk_326) dX12_makesAt_128 ?_
        refine lv_ldiv hx hb dX12_makesAt_131 (by decide) ?_
        refine lv_topl (fun z_201 ez_201 => ?_)
        refine lv_lsub hx hb dX12_makesAt_132 ?_
        refine lv_topl (fun z_202 ez_202 => ?_)
        refine lv_lstore (lv' := [(6, .long z_202), (8, .int v8), (0, .ref o), (1, .int p0), (2, .int p1), (3, .int p2), (4, .int p3)]) hx hb dX12_makesAt_133 hl (by decide) rfl (fun ls hl => ?_)
        obtain ⟨z_203, ez_203⟩ : ∃ y : Int32, y = v8 + 1 := ⟨_, rfl⟩
        refine lv_iinc (v := z_203) (lv' := [(8, .int z_203), (6, .long z_202), (0, .ref o), (1, .int p0), (2, .int p1), (3, .int p2), (4, .int p3)]) hx hb dX12_makesAt_135 hl (k := 1) rfl (by rw [ez_203]; rfl) (by decide) rfl (fun ls hl => ?_)
        try have iz_203 : z_203.toInt = v8.toInt + 1 := by rw [ez_203]; exact tl_addL v8 1 (by decide) (by omega) (by omega)
        refine lv_goto (tgt := 72) hx hb dX12_makesAt_138 (by decide) ?_
        exact ih72 (f_70, z_203, z_202) H locs ls (by show (12 - z_203.toInt).toNat < (12 - v8.toInt).toNat; omega) ⟨(show 0 ≤ z_203.toInt from (by omega)), hP, hI, hfr, hS, lv_sub hl [0, 1, 2, 3, 4, 5, 6] rfl⟩
  refine lv_iconst (v := 0) hx hb dX12_makesAt_6 (by decide) ?_
  refine lv_istore (lv' := [(5, .int 0), (0, .ref o), (1, .int p0), (2, .int p1), (3, .int p2), (4, .int p3)]) hx hb dX12_makesAt_7 hl (by decide) rfl (fun ls hl => ?_)
  refine tl_ind (G := fun H locs ls => W p l e ((headSpec (tl_w yX12_makesAt cX12_makesAt 10 (some .int)) ({ frames := 3, cells := 0, slots := 0, locals := 77 })).room) s m #[.ref o, .int p0, .int p1, .int p2, .int p3] below meth c H locs 0 0 (MQ below (va_Qi (fun (r : Int32) (u : (Nat → va_E) × tk_G) => (-100000 ≤ r.toInt ∧ r.toInt ≤ 100000) ∧ u.2 (39, 0, 0) 0 = Γ (39, 0, 0) 0 ∧ u.2 (39, 0, 0) 10 = Γ (39, 0, 0) 10 ∧ u.2 (39, 0, 0) 11 = Γ (39, 0, 0) 11 ∧ u.2 (39, 0, 0) 12 = Γ (39, 0, 0) 12 ∧ u.2 (39, 0, 0) 13 = Γ (39, 0, 0) 13 ∧ u.2 (39, 0, 0) 14 = Γ (39, 0, 0) 14 ∧ u.2 (39, 0, 0) 15 = Γ (39, 0, 0) 15) (tp_BG D cy L K Γ f [39, 58, 57]) A) #[.ref o, .int p0, .int p1, .int p2, .int p3] s 0 0 A) (F0 m 9 ls [])) (α := (Nat → va_E) × tk_G × Int32) (fun aq => (12 - aq.2.2.toInt).toNat) (fun aq H locs ls => (0 ≤ aq.2.2.toInt ∧ aq.2.2.toInt ≤ 12) ∧ (aq.2.1 (39, 0, 0) 0 = Γ (39, 0, 0) 0) ∧ (aq.2.1 (39, 0, 0) 10 = Γ (39, 0, 0) 10) ∧ (aq.2.1 (39, 0, 0) 11 = Γ (39, 0, 0) 11) ∧ (aq.2.1 (39, 0, 0) 12 = Γ (39, 0, 0) 12) ∧ (aq.2.1 (39, 0, 0) 13 = Γ (39, 0, 0) 13) ∧ (aq.2.1 (39, 0, 0) 14 = Γ (39, 0, 0) 14) ∧ (aq.2.1 (39, 0, 0) 15 = Γ (39, 0, 0) 15) ∧ va_P D vwCl (va_pl L aq.1) H ∧ tp_I cy L K aq.2.1 aq.1 ∧ (∀ b, (K b).1 ∉ ([39, 58, 57] : List Nat) → aq.1 b = f b) ∧ (∀ κ : tk_K, κ.1 ∉ ([39, 58, 57] : List Nat) → aq.2.1 κ = Γ κ) ∧ va_S A s.heap H locs ∧ lv_has ls 10 [(5, .int aq.2.2), (0, .ref o), (1, .int p0), (2, .int p1), (3, .int p2), (4, .int p3)]) ?_ (f_17, Γ_19, (0 : Int32)) H locs ls ⟨(show 0 ≤ (0 : Int) ∧ (0 : Int) ≤ 12 from (by omega)), (show Γ_19 (39, 0, 0) 0 = Γ (39, 0, 0) 0 from (by omega)), (show Γ_19 (39, 0, 0) 10 = Γ (39, 0, 0) 10 from (by omega)), (show Γ_19 (39, 0, 0) 11 = Γ (39, 0, 0) 11 from (by omega)), (show Γ_19 (39, 0, 0) 12 = Γ (39, 0, 0) 12 from (by omega)), (show Γ_19 (39, 0, 0) 13 = Γ (39, 0, 0) 13 from (by omega)), (show Γ_19 (39, 0, 0) 14 = Γ (39, 0, 0) 14 from (by omega)), (show Γ_19 (39, 0, 0) 15 = Γ (39, 0, 0) 15 from (by omega)), hP, hI, hfr, hgr, hS, lv_sub hl [0, 1, 2, 3, 4, 5] rfl⟩
  rintro ⟨f_204, Γ_205, v5⟩ H locs ls ⟨hr5, q0, q10, q11, q12, q13, q14, q15, hP, hI, hfr, hgr, hS, hl⟩ ih9
  have hgr : ∀ κ : tk_K, κ.1 ∉ ([39, 58, 57] : List Nat) → Γ_205 κ = Γ κ := hgr
  have hP : va_P D vwCl (va_pl L f_204) H := hP
  have hI : tp_I cy L K Γ_205 f_204 := hI
  have hfr : ∀ b, (K b).1 ∉ ([39, 58, 57] : List Nat) → f_204 b = f b := hfr
  have hD : va_D A (va_pl L f_204) := tp_D hL hAL
  have hr5 : 0 ≤ v5.toInt ∧ v5.toInt ≤ 12 := hr5
  have q0 : Γ_205 (39, 0, 0) 0 = Γ (39, 0, 0) 0 := q0
  have q10 : Γ_205 (39, 0, 0) 10 = Γ (39, 0, 0) 10 := q10
  have q11 : Γ_205 (39, 0, 0) 11 = Γ (39, 0, 0) 11 := q11
  have q12 : Γ_205 (39, 0, 0) 12 = Γ (39, 0, 0) 12 := q12
  have q13 : Γ_205 (39, 0, 0) 13 = Γ (39, 0, 0) 13 := q13
  have q14 : Γ_205 (39, 0, 0) 14 = Γ (39, 0, 0) 14 := q14
  have q15 : Γ_205 (39, 0, 0) 15 = Γ (39, 0, 0) 15 := q15
  have hl : lv_has ls 10 [(5, .int v5), (0, .ref o), (1, .int p0), (2, .int p1), (3, .int p2), (4, .int p3)] := hl
  refine lv_iload hx hb dX12_makesAt_9 (lv_at hl 0 rfl) ?_
  refine lv_aload_n hx hb dX12_makesAt_11 rfl (lv_at hl 1 rfl) ?_
  obtain ⟨r_207, v_208, q_209, hf_206, hr_210, hv_211⟩ := (show tp_o_M L K 0 0 (Γ_205 (39, 0, 0)) (f_204 o) from hI.at ho)
  refine tp_get (cy := cy) (ci := 12) (v := .ref (r_207 6)) (C := RX12) (T := TX12) (N := 49) hx hb hta inlX12 hown hK hP ho.1 hf_206 rfl 7 (by decide) (hta _ wk_156) (fun _ h9 => h9) rfl dX12_makesAt_12 ?_
  refine lv_iload_n hx hb dX12_makesAt_15 rfl (lv_at hl 2 rfl) ?_
  obtain ⟨g_221, hf_220, hg_222⟩ := (show tp_gi cy (22) (Γ (46, 22, 0)) (f (r_207 6)) from hI0.at (show tp_r L K 46 22 0 (r_207 6) from hr_210 6 (by decide)))
  have hn_223 : vp_in p0 (22) := tl_in (by omega) (by omega)
  refine tp_iald (cy := cy) hx hb hK hP (show tp_r L K 46 22 0 (r_207 6) from hr_210 6 (by decide)).1 ((tp_un hfr (show tp_r L K 46 22 0 (r_207 6) from hr_210 6 (by decide)) (by decide)).trans hf_220) hn_223 dX12_makesAt_16 ?_
  refine lv_topi (fun z_224 ez_224 => ?_)
  have iz_224 : z_224.toInt = Γ (46, 22, 0) p0.toInt.toNat := by rw [ez_224]; exact hg_222 _ (tp_pin hn_223)
  have kz_224 : z_224.toInt = Γ (46, 22, 0) p0.toInt.toNat := iz_224.trans (congrArg _ (by omega))
  refine lv_icmp_ge (tgt := 36) hx hb dX12_makesAt_17 (by decide) (fun c_225 => ?_) (fun c_225 => ?_)
  · have c_225 : z_224.toInt ≤ v5.toInt := tl_le c_225
    refine lv_iload hx hb dX12_makesAt_36 (lv_at hl 0 rfl) ?_
    refine lv_aload_n hx hb dX12_makesAt_38 rfl (lv_at hl 1 rfl) ?_
    refine tp_get (cy := cy) (ci := 12) (v := .ref (r_207 6)) (C := RX12) (T := TX12) (N := 49) hx hb hta inlX12 hown hK hP ho.1 hf_206 rfl 7 (by decide) (hta _ wk_156) (fun _ h9 => h9) rfl dX12_makesAt_39 ?_
    refine lv_iload_n hx hb dX12_makesAt_42 rfl (lv_at hl 2 rfl) ?_
    have hn_226 : vp_in p0 (22) := tl_in (by omega) (by omega)
    refine tp_iald (cy := cy) hx hb hK hP (show tp_r L K 46 22 0 (r_207 6) from hr_210 6 (by decide)).1 ((tp_un hfr (show tp_r L K 46 22 0 (r_207 6) from hr_210 6 (by decide)) (by decide)).trans hf_220) hn_226 dX12_makesAt_43 ?_
    refine lv_topi (fun z_227 ez_227 => ?_)
    obtain rfl : z_224 = z_227 := ez_224.trans ez_227.symm
    refine lv_icmp_ge (tgt := 66) hx hb dX12_makesAt_44 (by decide) (fun c_228 => ?_) (fun c_228 => ?_)
    · have c_228 : z_224.toInt ≤ v5.toInt := tl_le c_228
      refine lv_lconst (v := 0) hx hb dX12_makesAt_66 (by decide) ?_
      refine lv_lstore (lv' := [(6, .long 0), (5, .int v5), (0, .ref o), (1, .int p0), (2, .int p1), (3, .int p2), (4, .int p3)]) hx hb dX12_makesAt_67 hl (by decide) rfl (fun ls hl => ?_)
      exact hjn69 f_204 Γ_205 0 H locs ls (show Γ_205 (39, 0, 0) 0 = Γ (39, 0, 0) 0 from (by omega)) (show Γ_205 (39, 0, 0) 10 = Γ (39, 0, 0) 10 from (by omega)) (show Γ_205 (39, 0, 0) 11 = Γ (39, 0, 0) 11 from (by omega)) (show Γ_205 (39, 0, 0) 12 = Γ (39, 0, 0) 12 from (by omega)) (show Γ_205 (39, 0, 0) 13 = Γ (39, 0, 0) 13 from (by omega)) (show Γ_205 (39, 0, 0) 14 = Γ (39, 0, 0) 14 from (by omega)) (show Γ_205 (39, 0, 0) 15 = Γ (39, 0, 0) 15 from (by omega)) hP hI hfr hgr hS (lv_sub hl [0, 2, 3, 4, 5, 6] rfl)
    · have c_228 : v5.toInt < z_224.toInt := tl_nle c_228
      refine lv_aload_n hx hb dX12_makesAt_47 rfl (lv_at hl 1 rfl) ?_
      refine lv_iload_n hx hb dX12_makesAt_48 rfl (lv_at hl 2 rfl) ?_
      refine lv_iload hx hb dX12_makesAt_49 (lv_at hl 0 rfl) ?_
      refine tq_clR hS (hAf _ hS.1) (tq_rV (As := [.int p0, .int v5]) (rest := []) ⟨hx, hb, hml, hown, hta⟩ (tp_P.pre hK hN hL hU hI hP) (tp_recv hK hP ho.1 hf_206 rfl) lk_X12_358 (r_X12_summed l D cy H.size L K Γ_205 f_204 o p0 v5 ho (by first | omega | (simp only [Int32.toInt_toInt64]; omega) | decide | assumption) (by first | omega | (simp only [Int32.toInt_toInt64]; omega) | decide | assumption) (by rw [hgr (45, 1056, 0) (by decide), hgr (43, 8800, 0) (by decide)]; have q9 := hsu v5.toInt.toNat (by omega); rw [show ((v5.toInt.toNat : Nat) : Int) = v5.toInt from by omega] at q9; exact q9)) rfl rfl ⟨Nat.le_of_ble_eq_true rfl, Nat.le_of_ble_eq_true rfl⟩ rfl hl.1 rfl (Nat.le_of_ble_eq_true rfl) dX12_makesAt_51 ⟨Nat.le_of_ble_eq_true rfl, Nat.le_of_ble_eq_true rfl⟩) (fun r_230 f_231 Γ_233 H locs hw_229 hP hI hc_232 hcg_234 hS => ?_)
      have hD : va_D A (va_pl L f_231) := tp_D hL hAL
      have hfr := tp_fr2 hfr hc_232 (by decide)
      have hgr : ∀ κ : tk_K, κ.1 ∉ ([39, 58, 57] : List Nat) → Γ_233 κ = Γ κ := tg_fr2 hgr hcg_234 (by decide)
      have hw_229 : Γ_233 (39, 0, 0) 0 = Γ_205 (39, 0, 0) 0 ∧ Γ_233 (39, 0, 0) 10 = Γ_205 (39, 0, 0) 10 ∧ Γ_233 (39, 0, 0) 11 = Γ_205 (39, 0, 0) 11 ∧ Γ_233 (39, 0, 0) 12 = Γ_205 (39, 0, 0) 12 ∧ Γ_233 (39, 0, 0) 13 = Γ_205 (39, 0, 0) 13 ∧ Γ_233 (39, 0, 0) 14 = Γ_205 (39, 0, 0) 14 ∧ Γ_233 (39, 0, 0) 15 = Γ_205 (39, 0, 0) 15 := hw_229
      refine lv_ldc2 (v := (-50000)) hx hb hown (hta _ wk_785) dX12_makesAt_54 ?_
      refine lv_ldc2 (v := 50000) hx hb hown (hta _ wk_786) dX12_makesAt_57 ?_
      refine tl_sl (tq_rS (As := [.long r_230, .long (-50000), .long 50000]) (rest := []) ⟨hx, hb, hml, hown, hta⟩ (tp_P.pre hK hN hL hU hI hP) lk_X12_366 (r_X12_held l D cy H.size L K Γ_233 f_231 r_230 (-50000) 50000 ) rfl rfl ⟨Nat.le_of_ble_eq_true rfl, Nat.le_of_ble_eq_true rfl⟩ rfl hl.1 rfl (Nat.le_of_ble_eq_true rfl) dX12_makesAt_60 ⟨Nat.le_of_ble_eq_true rfl, Nat.le_of_ble_eq_true rfl⟩) (fun r_236 hw_235 => ?_)
      refine lv_goto (tgt := 67) hx hb dX12_makesAt_63 (by decide) ?_
      refine lv_lstore (lv' := [(6, .long r_236), (5, .int v5), (0, .ref o), (1, .int p0), (2, .int p1), (3, .int p2), (4, .int p3)]) hx hb dX12_makesAt_67 hl (by decide) rfl (fun ls hl => ?_)
      exact hjn69 f_231 Γ_233 r_236 H locs ls (show Γ_233 (39, 0, 0) 0 = Γ (39, 0, 0) 0 from (by omega)) (show Γ_233 (39, 0, 0) 10 = Γ (39, 0, 0) 10 from (by omega)) (show Γ_233 (39, 0, 0) 11 = Γ (39, 0, 0) 11 from (by omega)) (show Γ_233 (39, 0, 0) 12 = Γ (39, 0, 0) 12 from (by omega)) (show Γ_233 (39, 0, 0) 13 = Γ (39, 0, 0) 13 from (by omega)) (show Γ_233 (39, 0, 0) 14 = Γ (39, 0, 0) 14 from (by omega)) (show Γ_233 (39, 0, 0) 15 = Γ (39, 0, 0) 15 from (by omega)) hP hI hfr hgr hS (lv_sub hl [0, 2, 3, 4, 5, 6] rfl)
  · have c_225 : v5.toInt < z_224.toInt := tl_nle c_225
    refine lv_aload_n hx hb dX12_makesAt_20 rfl (lv_at hl 1 rfl) ?_
    refine lv_iload_n hx hb dX12_makesAt_21 rfl (lv_at hl 2 rfl) ?_
    refine lv_iload hx hb dX12_makesAt_22 (lv_at hl 0 rfl) ?_
    refine tq_ciR hS (hAf _ hS.1) (tq_rV (As := [.int p0, .int v5]) (rest := []) ⟨hx, hb, hml, hown, hta⟩ (tp_P.pre hK hN hL hU hI hP) (tp_recv hK hP ho.1 hf_206 rfl) lk_X12_355 (r_X12_isHolding l D cy H.size L K Γ_205 f_204 o p0 v5 ho (by first | omega | (simp only [Int32.toInt_toInt64]; omega) | decide | assumption) (by first | omega | (simp only [Int32.toInt_toInt64]; omega) | decide | assumption) (by rw [hgr (45, 1056, 0) (by decide), hgr (43, 8800, 0) (by decide)]; have q9 := htst v5.toInt.toNat (by omega); rw [show ((v5.toInt.toNat : Nat) : Int) = v5.toInt from by omega] at q9; exact q9)) rfl rfl ⟨Nat.le_of_ble_eq_true rfl, Nat.le_of_ble_eq_true rfl⟩ rfl hl.1 rfl (Nat.le_of_ble_eq_true rfl) dX12_makesAt_24 ⟨Nat.le_of_ble_eq_true rfl, Nat.le_of_ble_eq_true rfl⟩) (fun r_238 f_239 Γ_241 H locs hw_237 hP hI hc_240 hcg_242 hS => ?_)
    have hD : va_D A (va_pl L f_239) := tp_D hL hAL
    have hfr := tp_fr2 hfr hc_240 (by decide)
    have hgr : ∀ κ : tk_K, κ.1 ∉ ([39, 58, 57] : List Nat) → Γ_241 κ = Γ κ := tg_fr2 hgr hcg_242 (by decide)
    obtain ⟨hE_243, hw_237⟩ := hw_237
    have hE_243 : tl_J r_238 (True) := hE_243
    have hw_237 : Γ_241 (39, 0, 0) 0 = Γ_205 (39, 0, 0) 0 ∧ Γ_241 (39, 0, 0) 10 = Γ_205 (39, 0, 0) 10 ∧ Γ_241 (39, 0, 0) 11 = Γ_205 (39, 0, 0) 11 ∧ Γ_241 (39, 0, 0) 12 = Γ_205 (39, 0, 0) 12 ∧ Γ_241 (39, 0, 0) 13 = Γ_205 (39, 0, 0) 13 ∧ Γ_241 (39, 0, 0) 14 = Γ_205 (39, 0, 0) 14 ∧ Γ_241 (39, 0, 0) 15 = Γ_205 (39, 0, 0) 15 := hw_237
    refine lv_if_ne (tgt := 36) hx hb dX12_makesAt_27 (by decide) (fun c_244 => ?_) (fun c_244 => ?_)
    · have c_244 := hE_243.t c_244
      refine lv_iload hx hb dX12_makesAt_36 (lv_at hl 0 rfl) ?_
      refine lv_aload_n hx hb dX12_makesAt_38 rfl (lv_at hl 1 rfl) ?_
      obtain ⟨r_246, v_247, q_248, hf_245, hr_249, hv_250⟩ := (show tp_o_M L K 0 0 (Γ_241 (39, 0, 0)) (f_239 o) from hI.at ho)
      refine tp_get (cy := cy) (ci := 12) (v := .ref (r_246 6)) (C := RX12) (T := TX12) (N := 49) hx hb hta inlX12 hown hK hP ho.1 hf_245 rfl 7 (by decide) (hta _ wk_156) (fun _ h9 => h9) rfl dX12_makesAt_39 ?_
      refine lv_iload_n hx hb dX12_makesAt_42 rfl (lv_at hl 2 rfl) ?_
      obtain ⟨g_260, hf_259, hg_261⟩ := (show tp_gi cy (22) (Γ (46, 22, 0)) (f (r_246 6)) from hI0.at (show tp_r L K 46 22 0 (r_246 6) from hr_249 6 (by decide)))
      have hn_262 : vp_in p0 (22) := tl_in (by omega) (by omega)
      refine tp_iald (cy := cy) hx hb hK hP (show tp_r L K 46 22 0 (r_246 6) from hr_249 6 (by decide)).1 ((tp_un hfr (show tp_r L K 46 22 0 (r_246 6) from hr_249 6 (by decide)) (by decide)).trans hf_259) hn_262 dX12_makesAt_43 ?_
      refine lv_topi (fun z_263 ez_263 => ?_)
      have iz_263 : z_263.toInt = Γ (46, 22, 0) p0.toInt.toNat := by rw [ez_263]; exact hg_261 _ (tp_pin hn_262)
      have kz_263 : z_263.toInt = Γ (46, 22, 0) p0.toInt.toNat := iz_263.trans (congrArg _ (by omega))
      refine lv_icmp_ge (tgt := 66) hx hb dX12_makesAt_44 (by decide) (fun c_264 => ?_) (fun c_264 => ?_)
      · have c_264 : z_263.toInt ≤ v5.toInt := tl_le c_264
        refine lv_lconst (v := 0) hx hb dX12_makesAt_66 (by decide) ?_
        refine lv_lstore (lv' := [(6, .long 0), (5, .int v5), (0, .ref o), (1, .int p0), (2, .int p1), (3, .int p2), (4, .int p3)]) hx hb dX12_makesAt_67 hl (by decide) rfl (fun ls hl => ?_)
        exact hjn69 f_239 Γ_241 0 H locs ls (show Γ_241 (39, 0, 0) 0 = Γ (39, 0, 0) 0 from (by omega)) (show Γ_241 (39, 0, 0) 10 = Γ (39, 0, 0) 10 from (by omega)) (show Γ_241 (39, 0, 0) 11 = Γ (39, 0, 0) 11 from (by omega)) (show Γ_241 (39, 0, 0) 12 = Γ (39, 0, 0) 12 from (by omega)) (show Γ_241 (39, 0, 0) 13 = Γ (39, 0, 0) 13 from (by omega)) (show Γ_241 (39, 0, 0) 14 = Γ (39, 0, 0) 14 from (by omega)) (show Γ_241 (39, 0, 0) 15 = Γ (39, 0, 0) 15 from (by omega)) hP hI hfr hgr hS (lv_sub hl [0, 2, 3, 4, 5, 6] rfl)
      · have c_264 : v5.toInt < z_263.toInt := tl_nle c_264
        refine lv_aload_n hx hb dX12_makesAt_47 rfl (lv_at hl 1 rfl) ?_
        refine lv_iload_n hx hb dX12_makesAt_48 rfl (lv_at hl 2 rfl) ?_
        refine lv_iload hx hb dX12_makesAt_49 (lv_at hl 0 rfl) ?_
        refine tq_clR hS (hAf _ hS.1) (tq_rV (As := [.int p0, .int v5]) (rest := []) ⟨hx, hb, hml, hown, hta⟩ (tp_P.pre hK hN hL hU hI hP) (tp_recv hK hP ho.1 hf_245 rfl) lk_X12_358 (r_X12_summed l D cy H.size L K Γ_241 f_239 o p0 v5 ho (by first | omega | (simp only [Int32.toInt_toInt64]; omega) | decide | assumption) (by first | omega | (simp only [Int32.toInt_toInt64]; omega) | decide | assumption) (by rw [hgr (45, 1056, 0) (by decide), hgr (43, 8800, 0) (by decide)]; have q9 := hsu v5.toInt.toNat (by omega); rw [show ((v5.toInt.toNat : Nat) : Int) = v5.toInt from by omega] at q9; exact q9)) rfl rfl ⟨Nat.le_of_ble_eq_true rfl, Nat.le_of_ble_eq_true rfl⟩ rfl hl.1 rfl (Nat.le_of_ble_eq_true rfl) dX12_makesAt_51 ⟨Nat.le_of_ble_eq_true rfl, Nat.le_of_ble_eq_true rfl⟩) (fun r_266 f_267 Γ_269 H locs hw_265 hP hI hc_268 hcg_270 hS => ?_)
        have hD : va_D A (va_pl L f_267) := tp_D hL hAL
        have hfr := tp_fr2 hfr hc_268 (by decide)
        have hgr : ∀ κ : tk_K, κ.1 ∉ ([39, 58, 57] : List Nat) → Γ_269 κ = Γ κ := tg_fr2 hgr hcg_270 (by decide)
        have hw_265 : Γ_269 (39, 0, 0) 0 = Γ_241 (39, 0, 0) 0 ∧ Γ_269 (39, 0, 0) 10 = Γ_241 (39, 0, 0) 10 ∧ Γ_269 (39, 0, 0) 11 = Γ_241 (39, 0, 0) 11 ∧ Γ_269 (39, 0, 0) 12 = Γ_241 (39, 0, 0) 12 ∧ Γ_269 (39, 0, 0) 13 = Γ_241 (39, 0, 0) 13 ∧ Γ_269 (39, 0, 0) 14 = Γ_241 (39, 0, 0) 14 ∧ Γ_269 (39, 0, 0) 15 = Γ_241 (39, 0, 0) 15 := hw_265
        refine lv_ldc2 (v := (-50000)) hx hb hown (hta _ wk_785) dX12_makesAt_54 ?_
        refine lv_ldc2 (v := 50000) hx hb hown (hta _ wk_786) dX12_makesAt_57 ?_
        refine tl_sl (tq_rS (As := [.long r_266, .long (-50000), .long 50000]) (rest := []) ⟨hx, hb, hml, hown, hta⟩ (tp_P.pre hK hN hL hU hI hP) lk_X12_366 (r_X12_held l D cy H.size L K Γ_269 f_267 r_266 (-50000) 50000 ) rfl rfl ⟨Nat.le_of_ble_eq_true rfl, Nat.le_of_ble_eq_true rfl⟩ rfl hl.1 rfl (Nat.le_of_ble_eq_true rfl) dX12_makesAt_60 ⟨Nat.le_of_ble_eq_true rfl, Nat.le_of_ble_eq_true rfl⟩) (fun r_272 hw_271 => ?_)
        refine lv_goto (tgt := 67) hx hb dX12_makesAt_63 (by decide) ?_
        refine lv_lstore (lv' := [(6, .long r_272), (5, .int v5), (0, .ref o), (1, .int p0), (2, .int p1), (3, .int p2), (4, .int p3)]) hx hb dX12_makesAt_67 hl (by decide) rfl (fun ls hl => ?_)
        exact hjn69 f_267 Γ_269 r_272 H locs ls (show Γ_269 (39, 0, 0) 0 = Γ (39, 0, 0) 0 from (by omega)) (show Γ_269 (39, 0, 0) 10 = Γ (39, 0, 0) 10 from (by omega)) (show Γ_269 (39, 0, 0) 11 = Γ (39, 0, 0) 11 from (by omega)) (show Γ_269 (39, 0, 0) 12 = Γ (39, 0, 0) 12 from (by omega)) (show Γ_269 (39, 0, 0) 13 = Γ (39, 0, 0) 13 from (by omega)) (show Γ_269 (39, 0, 0) 14 = Γ (39, 0, 0) 14 from (by omega)) (show Γ_269 (39, 0, 0) 15 = Γ (39, 0, 0) 15 from (by omega)) hP hI hfr hgr hS (lv_sub hl [0, 2, 3, 4, 5, 6] rfl)
    · have c_244 := c_244
      obtain ⟨z_273, ez_273⟩ : ∃ y : Int32, y = v5 + 1 := ⟨_, rfl⟩
      refine lv_iinc (v := z_273) (lv' := [(5, .int z_273), (0, .ref o), (1, .int p0), (2, .int p1), (3, .int p2), (4, .int p3)]) hx hb dX12_makesAt_30 hl (k := 0) rfl (by rw [ez_273]; rfl) (by decide) rfl (fun ls hl => ?_)
      try have iz_273 : z_273.toInt = v5.toInt + 1 := by rw [ez_273]; exact tl_addL v5 1 (by decide) (by omega) (by omega)
      refine lv_goto (tgt := 9) hx hb dX12_makesAt_33 (by decide) ?_
      exact ih9 (f_239, Γ_241, z_273) H locs ls (by show (12 - z_273.toInt).toNat < (12 - v5.toInt).toNat; omega) ⟨(show 0 ≤ z_273.toInt ∧ z_273.toInt ≤ 12 from (by omega)), (show Γ_241 (39, 0, 0) 0 = Γ (39, 0, 0) 0 from (by omega)), (show Γ_241 (39, 0, 0) 10 = Γ (39, 0, 0) 10 from (by omega)), (show Γ_241 (39, 0, 0) 11 = Γ (39, 0, 0) 11 from (by omega)), (show Γ_241 (39, 0, 0) 12 = Γ (39, 0, 0) 12 from (by omega)), (show Γ_241 (39, 0, 0) 13 = Γ (39, 0, 0) 13 from (by omega)), (show Γ_241 (39, 0, 0) 14 = Γ (39, 0, 0) 14 from (by omega)), (show Γ_241 (39, 0, 0) 15 = Γ (39, 0, 0) 15 from (by omega)), hP, hI, hfr, hgr, hS, lv_sub hl [0, 1, 2, 3, 4, 5] rfl⟩
set_option maxHeartbeats 4000000 in
set_option maxRecDepth 100000 in
theorem r_X12_make (l : Launch) (D : va_G) (cy : Nat → ClassId) (sz : Nat) (L : List Nat) (K : Nat → tk_K) (Γ : tk_G) (f : Nat → va_E) (o : Nat) (p0 : Int32) (p1 : Int32) (p2 : Int32) (p3 : Int32) (p4 : Int32) (ho : tp_r L K 39 (0) 0 o) (htx : tx_ok (Γ (43, 8800, 0)) (Γ (45, 1056, 0)) (Γ (46, 22, 0)) (Γ (47, 6, 0)) (Γ (48, 22, 0)) (Γ (49, 22, 0)) (Γ (50, 22, 0)) (Γ (51, 22, 0)) (Γ (42, 3, 0))) (hsd : ts_said (Γ (40, 7666, 0)) (Γ (42, 3, 0) 1)) : Met l yX12_make (tl_w yX12_make cX12_make 7 (some .int)) ({ frames := 4, cells := 0, slots := 0, locals := 106 }) (va_Pc [.ref o, .int p0, .int p1, .int p2, .int p3, .int p4] (tp_P D cy L K Γ f sz)) (va_Qi (fun (r : Int32) (u : (Nat → va_E) × tk_G) => u.2 (39, 0, 0) 0 = Γ (39, 0, 0) 0 ∧ ts_said (u.2 (40, 7666, 0)) (Γ (42, 3, 0) 1) ∧ (∀ j : Nat, (j < 441 ∨ 7641 ≤ j) → u.2 (40, 7666, 0) j = Γ (40, 7666, 0) j)) (tp_BG D cy L K Γ f [39, 58, 57, 40]) (tp_A L sz)) 0 0 (tp_A L sz) := by
  refine Met.ofW (cc := cX12_make) (maxL := 7) (ret := (some .int)) (by decide) rfl ?_
  intro p e s m args below meth c s₁ B hml hv
  obtain ⟨rfl, hsz, hP, hK, hL, hI, hN, hU⟩ := hv
  have hx := B.exec
  have hb := B.bytes
  have hr := B.returns
  have hta := tl_hta (atoms_spec (ws := tl_w yX12_make cX12_make 7 (some .int)) B.pre)
  have hown : s.vm.findClass RX12 = some m.cls := findClass_of_methodNamed B.named
  have hlocks := B.notSynchronized
  subst hsz
  have hI0 := hI
  generalize hAe : tp_A L s.heap.size = A
  have hA : ∀ q : Nat, s.heap.size ≤ q → A q := fun q h => by rw [← hAe]; exact Or.inr h
  have hAL : ∀ q ∈ L, A q := fun q h => by rw [← hAe]; exact Or.inl h
  have hAf : ∀ (H : Heap), s.heap.size ≤ H.size → ∀ q, tp_A L H.size q → A q := fun H h q hq => hq.elim (hAL q) (fun h2 => hA q (Nat.le_trans h h2))
  have hS : va_S A s.heap s.heap [] := va_S.rf
  have hD : va_D A (va_pl L f) := tp_D hL hAL
  have hfr : ∀ b, (K b).1 ∉ ([39, 58, 57, 40] : List Nat) → f b = f b := fun _ _ => rfl
  have hgr : ∀ κ : tk_K, κ.1 ∉ ([39, 58, 57, 40] : List Nat) → Γ κ = Γ κ := fun _ _ => rfl
  have hl := lv_entry ([.ref o, .int p0, .int p1, .int p2, .int p3, .int p4]) (n := 7) (Nat.le_of_ble_eq_true rfl)
  rw [lg_entry_eq]
  generalize (lg_sl ([.ref o, .int p0, .int p1, .int p2, .int p3, .int p4]) ++ List.replicate (7 - (lg_sl ([.ref o, .int p0, .int p1, .int p2, .int p3, .int p4])).length) Slot.unset).toArray = ls at hl ⊢
  have hl : lv_has ls 7 [(0, .ref o), (1, .int p0), (2, .int p1), (3, .int p2), (4, .int p3), (5, .int p4)] := hl
  have hs := ts_hs hsd
  have hraw := ts_raw hsd
  have hslp := ts_slp hsd
  have htb := htx.1
  refine lv_aload_n hx hb dX12_make_0 rfl (lv_at hl 0 rfl) ?_
  refine lv_iconst (v := 0) hx hb dX12_make_1 (by decide) ?_
  refine lv_iload_n hx hb dX12_make_2 rfl (lv_at hl 1 rfl) ?_
  obtain ⟨r_2, v_3, q_4, hf_1, hr_5, hv_6⟩ := (show tp_o_M L K 0 0 (Γ (39, 0, 0)) (f o) from hI.at ho)
  have hx_7 : (v_3 0).toInt = Γ (39, 0, 0) 0 := hv_6 0 (by decide)
  have hx_8 : (v_3 10).toInt = Γ (39, 0, 0) 10 := hv_6 10 (by decide)
  have hx_9 : (v_3 11).toInt = Γ (39, 0, 0) 11 := hv_6 11 (by decide)
  have hx_10 : (v_3 12).toInt = Γ (39, 0, 0) 12 := hv_6 12 (by decide)
  have hx_11 : (v_3 13).toInt = Γ (39, 0, 0) 13 := hv_6 13 (by decide)
  have hx_12 : (v_3 14).toInt = Γ (39, 0, 0) 14 := hv_6 14 (by decide)
  have hx_13 : (v_3 15).toInt = Γ (39, 0, 0) 15 := hv_6 15 (by decide)
  refine tl_si (tq_rV (As := [.int 0, .int p0]) (rest := []) ⟨hx, hb, hml, hown, hta⟩ (tp_P.pre hK hN hL hU hI hP) (tp_recv hK hP ho.1 hf_1 rfl) lk_X12_382 (r_isText_0 l D cy s.heap.size L K Γ f o p0 ho) rfl rfl ⟨Nat.le_of_ble_eq_true rfl, Nat.le_of_ble_eq_true rfl⟩ rfl hl.1 rfl (Nat.le_of_ble_eq_true rfl) dX12_make_3 ⟨Nat.le_of_ble_eq_true rfl, Nat.le_of_ble_eq_true rfl⟩) (fun r_15 hw_14 => ?_)
  have hw_14 : tl_E r_15 (0 ≤ p0.toInt ∧ p0.toInt < Γ (42, 3, 0) 0) 1 0 := hw_14
  refine lv_if_eq (tgt := 44) hx hb dX12_make_6 (by decide) (fun c_16 => ?_) (fun c_16 => ?_)
  · have c_16 := hw_14.f c_16
    refine lv_iconst (v := (-1)) hx hb dX12_make_44 (by decide) ?_
    have hpo9 : Γ (39, 0, 0) 0 = Γ (39, 0, 0) 0 ∧ ts_said (Γ (40, 7666, 0)) (Γ (42, 3, 0) 1) ∧ (∀ j : Nat, (j < 441 ∨ 7641 ≤ j) → Γ (40, 7666, 0) j = Γ (40, 7666, 0) j) := ⟨(by omega), hsd, (fun _ _ => rfl)⟩
    exact W.iret (v := (-1)) hx hb hr (fun t ht hW => ⟨⟨_, (f, Γ), rfl, hpo9, by rw [ht]; exact hP, hI, hfr, hgr⟩, hS.F ht⟩) hS.2.2 dX12_make_45
  · have c_16 := hw_14.t c_16
    refine lv_aload_n hx hb dX12_make_9 rfl (lv_at hl 0 rfl) ?_
    refine lv_iload_n hx hb dX12_make_10 rfl (lv_at hl 2 rfl) ?_
    refine tl_si (tq_rV (As := [.int p1]) (rest := []) ⟨hx, hb, hml, hown, hta⟩ (tp_P.pre hK hN hL hU hI hP) (tp_recv hK hP ho.1 hf_1 rfl) lk_X12_120 (r_X12_isRow l D cy s.heap.size L K Γ f o p1 ho) rfl rfl ⟨Nat.le_of_ble_eq_true rfl, Nat.le_of_ble_eq_true rfl⟩ rfl hl.1 rfl (Nat.le_of_ble_eq_true rfl) dX12_make_11 ⟨Nat.le_of_ble_eq_true rfl, Nat.le_of_ble_eq_true rfl⟩) (fun r_18 hw_17 => ?_)
    have hw_17 : tl_E r_18 (0 ≤ p1.toInt ∧ p1.toInt < Γ (40, 7666, 0) 1) 1 0 := hw_17
    refine lv_if_eq (tgt := 44) hx hb dX12_make_14 (by decide) (fun c_19 => ?_) (fun c_19 => ?_)
    · have c_19 := hw_17.f c_19
      refine lv_iconst (v := (-1)) hx hb dX12_make_44 (by decide) ?_
      have hpo9 : Γ (39, 0, 0) 0 = Γ (39, 0, 0) 0 ∧ ts_said (Γ (40, 7666, 0)) (Γ (42, 3, 0) 1) ∧ (∀ j : Nat, (j < 441 ∨ 7641 ≤ j) → Γ (40, 7666, 0) j = Γ (40, 7666, 0) j) := ⟨(by omega), hsd, (fun _ _ => rfl)⟩
      exact W.iret (v := (-1)) hx hb hr (fun t ht hW => ⟨⟨_, (f, Γ), rfl, hpo9, by rw [ht]; exact hP, hI, hfr, hgr⟩, hS.F ht⟩) hS.2.2 dX12_make_45
    · have c_19 := hw_17.t c_19
      refine lv_iload_n hx hb dX12_make_17 rfl (lv_at hl 3 rfl) ?_
      refine lv_if_lt (tgt := 44) hx hb dX12_make_18 (by decide) (fun c_20 => ?_) (fun c_20 => ?_)
      · have c_20 : p2.toInt < (0 : Int) := tl_lt c_20
        refine lv_iconst (v := (-1)) hx hb dX12_make_44 (by decide) ?_
        have hpo9 : Γ (39, 0, 0) 0 = Γ (39, 0, 0) 0 ∧ ts_said (Γ (40, 7666, 0)) (Γ (42, 3, 0) 1) ∧ (∀ j : Nat, (j < 441 ∨ 7641 ≤ j) → Γ (40, 7666, 0) j = Γ (40, 7666, 0) j) := ⟨(by omega), hsd, (fun _ _ => rfl)⟩
        exact W.iret (v := (-1)) hx hb hr (fun t ht hW => ⟨⟨_, (f, Γ), rfl, hpo9, by rw [ht]; exact hP, hI, hfr, hgr⟩, hS.F ht⟩) hS.2.2 dX12_make_45
      · have c_20 : (0 : Int) ≤ p2.toInt := tl_nlt c_20
        refine lv_iload hx hb dX12_make_21 (lv_at hl 4 rfl) ?_
        refine tl_si (tq_rS (As := [.int p3]) (rest := []) ⟨hx, hb, hml, hown, hta⟩ (tp_P.pre hK hN hL hU hI hP) lk_X12_124 (r_X12_isColour l D cy s.heap.size L K Γ f p3 ) rfl rfl ⟨Nat.le_of_ble_eq_true rfl, Nat.le_of_ble_eq_true rfl⟩ rfl hl.1 rfl (Nat.le_of_ble_eq_true rfl) dX12_make_23 ⟨Nat.le_of_ble_eq_true rfl, Nat.le_of_ble_eq_true rfl⟩) (fun r_22 hw_21 => ?_)
        have hw_21 : tl_E r_22 (0 ≤ p3.toInt ∧ p3.toInt ≤ 299) 1 0 := hw_21
        refine lv_if_eq (tgt := 44) hx hb dX12_make_26 (by decide) (fun c_23 => ?_) (fun c_23 => ?_)
        · have c_23 := hw_21.f c_23
          refine lv_iconst (v := (-1)) hx hb dX12_make_44 (by decide) ?_
          have hpo9 : Γ (39, 0, 0) 0 = Γ (39, 0, 0) 0 ∧ ts_said (Γ (40, 7666, 0)) (Γ (42, 3, 0) 1) ∧ (∀ j : Nat, (j < 441 ∨ 7641 ≤ j) → Γ (40, 7666, 0) j = Γ (40, 7666, 0) j) := ⟨(by omega), hsd, (fun _ _ => rfl)⟩
          exact W.iret (v := (-1)) hx hb hr (fun t ht hW => ⟨⟨_, (f, Γ), rfl, hpo9, by rw [ht]; exact hP, hI, hfr, hgr⟩, hS.F ht⟩) hS.2.2 dX12_make_45
        · have c_23 := hw_21.t c_23
          refine lv_iload hx hb dX12_make_29 (lv_at hl 5 rfl) ?_
          refine tl_si (tq_rS (As := [.int p4]) (rest := []) ⟨hx, hb, hml, hown, hta⟩ (tp_P.pre hK hN hL hU hI hP) lk_X12_124 (r_X12_isColour l D cy s.heap.size L K Γ f p4 ) rfl rfl ⟨Nat.le_of_ble_eq_true rfl, Nat.le_of_ble_eq_true rfl⟩ rfl hl.1 rfl (Nat.le_of_ble_eq_true rfl) dX12_make_31 ⟨Nat.le_of_ble_eq_true rfl, Nat.le_of_ble_eq_true rfl⟩) (fun r_25 hw_24 => ?_)
          have hw_24 : tl_E r_25 (0 ≤ p4.toInt ∧ p4.toInt ≤ 299) 1 0 := hw_24
          refine lv_if_eq (tgt := 44) hx hb dX12_make_34 (by decide) (fun c_26 => ?_) (fun c_26 => ?_)
          · have c_26 := hw_24.f c_26
            refine lv_iconst (v := (-1)) hx hb dX12_make_44 (by decide) ?_
            have hpo9 : Γ (39, 0, 0) 0 = Γ (39, 0, 0) 0 ∧ ts_said (Γ (40, 7666, 0)) (Γ (42, 3, 0) 1) ∧ (∀ j : Nat, (j < 441 ∨ 7641 ≤ j) → Γ (40, 7666, 0) j = Γ (40, 7666, 0) j) := ⟨(by omega), hsd, (fun _ _ => rfl)⟩
            exact W.iret (v := (-1)) hx hb hr (fun t ht hW => ⟨⟨_, (f, Γ), rfl, hpo9, by rw [ht]; exact hP, hI, hfr, hgr⟩, hS.F ht⟩) hS.2.2 dX12_make_45
          · have c_26 := hw_24.t c_26
            refine lv_iload hx hb dX12_make_37 (lv_at hl 5 rfl) ?_
            refine lv_iload hx hb dX12_make_39 (lv_at hl 4 rfl) ?_
            refine lv_icmp_ge (tgt := 46) hx hb dX12_make_41 (by decide) (fun c_27 => ?_) (fun c_27 => ?_)
            · have c_27 : p3.toInt ≤ p4.toInt := tl_le c_27
              refine lv_aload_n hx hb dX12_make_46 rfl (lv_at hl 0 rfl) ?_
              refine lv_iload_n hx hb dX12_make_47 rfl (lv_at hl 3 rfl) ?_
              refine lv_i2l (v := p2.toInt64) hx hb dX12_make_48 (by first | rfl | decide) ?_
              have hI9 : tp_I cy L K Γ (va_up f o (.inr (12, [.ref (r_2 0), .ref (r_2 1), .int (v_3 0), .ref (r_2 2), .ref (r_2 3), .ref (r_2 4), .ref (r_2 5), .ref (r_2 6), .ref (r_2 7), .ref (r_2 8), .ref (r_2 9), .ref (r_2 10), .ref (r_2 11), .ref (r_2 12), .ref (r_2 13), .ref (r_2 14), .ref (r_2 15), .int (v_3 1), .int (v_3 2), .int (v_3 3), .int (v_3 4), .int (v_3 5), .int (v_3 6), .int (v_3 7), .ref (r_2 16), .int (v_3 8), .ref (r_2 17), .int (v_3 9), .ref (r_2 18), .long p2.toInt64, .ref (r_2 19), .ref (r_2 20), .int (v_3 10), .int (v_3 11), .int (v_3 12), .ref (r_2 21), .ref (r_2 22), .int (v_3 13), .ref (r_2 23), .int (v_3 14), .int (v_3 15), .ref (r_2 24), .ref (r_2 25), .ref (r_2 26), .ref (r_2 27), .ref (r_2 28), .ref (r_2 29), .ref (r_2 30), .ref (r_2 31)]))) := hI.set ho (show tp_o_M L K 0 0 (Γ (39, 0, 0)) _ from ⟨r_2, v_3, p2.toInt64, rfl, hr_5, hv_6⟩)
              have hfr9 : ∀ b, (K b).1 ∉ ([39, 58, 57, 40] : List Nat) → va_up f o (.inr (12, [.ref (r_2 0), .ref (r_2 1), .int (v_3 0), .ref (r_2 2), .ref (r_2 3), .ref (r_2 4), .ref (r_2 5), .ref (r_2 6), .ref (r_2 7), .ref (r_2 8), .ref (r_2 9), .ref (r_2 10), .ref (r_2 11), .ref (r_2 12), .ref (r_2 13), .ref (r_2 14), .ref (r_2 15), .int (v_3 1), .int (v_3 2), .int (v_3 3), .int (v_3 4), .int (v_3 5), .int (v_3 6), .int (v_3 7), .ref (r_2 16), .int (v_3 8), .ref (r_2 17), .int (v_3 9), .ref (r_2 18), .long p2.toInt64, .ref (r_2 19), .ref (r_2 20), .int (v_3 10), .int (v_3 11), .int (v_3 12), .ref (r_2 21), .ref (r_2 22), .int (v_3 13), .ref (r_2 23), .int (v_3 14), .int (v_3 15), .ref (r_2 24), .ref (r_2 25), .ref (r_2 26), .ref (r_2 27), .ref (r_2 28), .ref (r_2 29), .ref (r_2 30), .ref (r_2 31)])) b = f b := tp_fr hfr ho (by decide)
              refine tp_put (cy := cy) (ci := 12) (v := .long p2.toInt64) (ty := tyX12 29) (C := RX12) (T := TX12) (N := 49) hx hb hta inlX12 tyX12 tyX12_ok nmX12 hown hK hP hD hS ho.1 hf_1 rfl 29 (by decide) (hta _ wk_776) (fun _ h9 => h9) rfl (tyX12_ok 29 (by decide)) rfl rfl (Nat.le_of_ble_eq_true rfl) dX12_make_49 (fun H locs hP hD hS => ?_)
              have hP : va_P D vwCl (va_pl L (va_up f o (.inr (12, [.ref (r_2 0), .ref (r_2 1), .int (v_3 0), .ref (r_2 2), .ref (r_2 3), .ref (r_2 4), .ref (r_2 5), .ref (r_2 6), .ref (r_2 7), .ref (r_2 8), .ref (r_2 9), .ref (r_2 10), .ref (r_2 11), .ref (r_2 12), .ref (r_2 13), .ref (r_2 14), .ref (r_2 15), .int (v_3 1), .int (v_3 2), .int (v_3 3), .int (v_3 4), .int (v_3 5), .int (v_3 6), .int (v_3 7), .ref (r_2 16), .int (v_3 8), .ref (r_2 17), .int (v_3 9), .ref (r_2 18), .long p2.toInt64, .ref (r_2 19), .ref (r_2 20), .int (v_3 10), .int (v_3 11), .int (v_3 12), .ref (r_2 21), .ref (r_2 22), .int (v_3 13), .ref (r_2 23), .int (v_3 14), .int (v_3 15), .ref (r_2 24), .ref (r_2 25), .ref (r_2 26), .ref (r_2 27), .ref (r_2 28), .ref (r_2 29), .ref (r_2 30), .ref (r_2 31)])))) H := hP
              generalize hfe : va_up f o (.inr (12, [.ref (r_2 0), .ref (r_2 1), .int (v_3 0), .ref (r_2 2), .ref (r_2 3), .ref (r_2 4), .ref (r_2 5), .ref (r_2 6), .ref (r_2 7), .ref (r_2 8), .ref (r_2 9), .ref (r_2 10), .ref (r_2 11), .ref (r_2 12), .ref (r_2 13), .ref (r_2 14), .ref (r_2 15), .int (v_3 1), .int (v_3 2), .int (v_3 3), .int (v_3 4), .int (v_3 5), .int (v_3 6), .int (v_3 7), .ref (r_2 16), .int (v_3 8), .ref (r_2 17), .int (v_3 9), .ref (r_2 18), .long p2.toInt64, .ref (r_2 19), .ref (r_2 20), .int (v_3 10), .int (v_3 11), .int (v_3 12), .ref (r_2 21), .ref (r_2 22), .int (v_3 13), .ref (r_2 23), .int (v_3 14), .int (v_3 15), .ref (r_2 24), .ref (r_2 25), .ref (r_2 26), .ref (r_2 27), .ref (r_2 28), .ref (r_2 29), .ref (r_2 30), .ref (r_2 31)])) = f_28 at hP hI9 hfr9
              have hD : va_D A (va_pl L f_28) := tp_D hL hAL
              have hf_29 : f_28 o = .inr (12, [.ref (r_2 0), .ref (r_2 1), .int (v_3 0), .ref (r_2 2), .ref (r_2 3), .ref (r_2 4), .ref (r_2 5), .ref (r_2 6), .ref (r_2 7), .ref (r_2 8), .ref (r_2 9), .ref (r_2 10), .ref (r_2 11), .ref (r_2 12), .ref (r_2 13), .ref (r_2 14), .ref (r_2 15), .int (v_3 1), .int (v_3 2), .int (v_3 3), .int (v_3 4), .int (v_3 5), .int (v_3 6), .int (v_3 7), .ref (r_2 16), .int (v_3 8), .ref (r_2 17), .int (v_3 9), .ref (r_2 18), .long p2.toInt64, .ref (r_2 19), .ref (r_2 20), .int (v_3 10), .int (v_3 11), .int (v_3 12), .ref (r_2 21), .ref (r_2 22), .int (v_3 13), .ref (r_2 23), .int (v_3 14), .int (v_3 15), .ref (r_2 24), .ref (r_2 25), .ref (r_2 26), .ref (r_2 27), .ref (r_2 28), .ref (r_2 29), .ref (r_2 30), .ref (r_2 31)]) := by rw [← hfe]; exact va_up_self _ _ _
              clear hfe
              have hI := hI9
              have hfr := hfr9
              clear hI9 hfr9
              refine lv_iload hx hb dX12_make_52 (lv_at hl 4 rfl) ?_
              refine lv_istore (lv' := [(6, .int p3), (0, .ref o), (1, .int p0), (2, .int p1), (3, .int p2), (4, .int p3), (5, .int p4)]) hx hb dX12_make_54 hl (by decide) rfl (fun ls hl => ?_)
              refine tl_ind (G := fun H locs ls => W p l e ((headSpec (tl_w yX12_make cX12_make 7 (some .int)) ({ frames := 4, cells := 0, slots := 0, locals := 106 })).room) s m #[.ref o, .int p0, .int p1, .int p2, .int p3, .int p4] below meth c H locs 0 0 (MQ below (va_Qi (fun (r : Int32) (u : (Nat → va_E) × tk_G) => u.2 (39, 0, 0) 0 = Γ (39, 0, 0) 0 ∧ ts_said (u.2 (40, 7666, 0)) (Γ (42, 3, 0) 1) ∧ (∀ j : Nat, (j < 441 ∨ 7641 ≤ j) → u.2 (40, 7666, 0) j = Γ (40, 7666, 0) j)) (tp_BG D cy L K Γ f [39, 58, 57, 40]) A) #[.ref o, .int p0, .int p1, .int p2, .int p3, .int p4] s 0 0 A) (F0 m 56 ls [])) (α := (Nat → va_E) × tk_G × Int32) (fun aq => (300 - aq.2.2.toInt).toNat) (fun aq H locs ls => (0 ≤ aq.2.2.toInt ∧ aq.2.2.toInt ≤ 300) ∧ (ts_said (aq.2.1 (40, 7666, 0)) (Γ (42, 3, 0) 1)) ∧ (∀ j : Nat, (j < 441 ∨ 7641 ≤ j) → aq.2.1 (40, 7666, 0) j = Γ (40, 7666, 0) j) ∧ (aq.2.1 (39, 0, 0) 0 = Γ (39, 0, 0) 0) ∧ va_P D vwCl (va_pl L aq.1) H ∧ tp_I cy L K aq.2.1 aq.1 ∧ (∀ b, (K b).1 ∉ ([39, 58, 57, 40] : List Nat) → aq.1 b = f b) ∧ (∀ κ : tk_K, κ.1 ∉ ([39, 58, 57, 40] : List Nat) → aq.2.1 κ = Γ κ) ∧ va_S A s.heap H locs ∧ lv_has ls 7 [(6, .int aq.2.2), (0, .ref o), (1, .int p0), (2, .int p1), (3, .int p2), (4, .int p3), (5, .int p4)]) ?_ (f_28, Γ, p3) H locs ls ⟨(show 0 ≤ p3.toInt ∧ p3.toInt ≤ 300 from (by omega)), (show ts_said (Γ (40, 7666, 0)) (Γ (42, 3, 0) 1) from hsd), (show ∀ j : Nat, (j < 441 ∨ 7641 ≤ j) → Γ (40, 7666, 0) j = Γ (40, 7666, 0) j from (fun _ _ => rfl)), (show Γ (39, 0, 0) 0 = Γ (39, 0, 0) 0 from (by omega)), hP, hI, hfr, hgr, hS, lv_sub hl [0, 1, 2, 3, 4, 5, 6] rfl⟩
              rintro ⟨f_30, Γ_31, v6⟩ H locs ls ⟨hr6, hsd9, hfr9, q0, hP, hI, hfr, hgr, hS, hl⟩ ih56
              have hgr : ∀ κ : tk_K, κ.1 ∉ ([39, 58, 57, 40] : List Nat) → Γ_31 κ = Γ κ := hgr
              have hP : va_P D vwCl (va_pl L f_30) H := hP
              have hI : tp_I cy L K Γ_31 f_30 := hI
              have hfr : ∀ b, (K b).1 ∉ ([39, 58, 57, 40] : List Nat) → f_30 b = f b := hfr
              have hD : va_D A (va_pl L f_30) := tp_D hL hAL
              have hr6 : 0 ≤ v6.toInt ∧ v6.toInt ≤ 300 := hr6
              have hsd9 : ts_said (Γ_31 (40, 7666, 0)) (Γ (42, 3, 0) 1) := hsd9
              have hfr9 : ∀ j : Nat, (j < 441 ∨ 7641 ≤ j) → Γ_31 (40, 7666, 0) j = Γ (40, 7666, 0) j := hfr9
              have q0 : Γ_31 (39, 0, 0) 0 = Γ (39, 0, 0) 0 := q0
              have hl : lv_has ls 7 [(6, .int v6), (0, .ref o), (1, .int p0), (2, .int p1), (3, .int p2), (4, .int p3), (5, .int p4)] := hl
              refine lv_iload hx hb dX12_make_56 (lv_at hl 0 rfl) ?_
              refine lv_iload hx hb dX12_make_58 (lv_at hl 6 rfl) ?_
              refine lv_icmp_gt (tgt := 95) hx hb dX12_make_60 (by decide) (fun c_32 => ?_) (fun c_32 => ?_)
              · have c_32 : p4.toInt < v6.toInt := tl_lt c_32
                refine lv_iload hx hb dX12_make_95 (lv_at hl 6 rfl) ?_
                refine lv_iload hx hb dX12_make_97 (lv_at hl 5 rfl) ?_
                refine lv_isub hx hb dX12_make_99 ?_
                refine lv_topi (fun z_33 ez_33 => ?_)
                try have iz_33 : z_33.toInt = p4.toInt - p3.toInt := by rw [ez_33]; exact tl_subN p4 p3 rfl rfl (by omega) (by omega)
                refine lv_iconst (v := 1) hx hb dX12_make_100 (by decide) ?_
                refine lv_iadd hx hb dX12_make_101 ?_
                refine lv_topi (fun z_34 ez_34 => ?_)
                try have iz_34 : z_34.toInt = z_33.toInt + (1 : Int) := by rw [ez_34]; exact tl_addN z_33 1 rfl rfl (by omega) (by omega)
                have hpo9 : Γ_31 (39, 0, 0) 0 = Γ (39, 0, 0) 0 ∧ ts_said (Γ_31 (40, 7666, 0)) (Γ (42, 3, 0) 1) ∧ (∀ j : Nat, (j < 441 ∨ 7641 ≤ j) → Γ_31 (40, 7666, 0) j = Γ (40, 7666, 0) j) := ⟨(by omega), hsd9, hfr9⟩
                exact W.iret (v := z_34) hx hb hr (fun t ht hW => ⟨⟨_, (f_30, Γ_31), rfl, hpo9, by rw [ht]; exact hP, hI, hfr, hgr⟩, hS.F ht⟩) hS.2.2 dX12_make_102
              · have c_32 : v6.toInt ≤ p4.toInt := tl_nlt c_32
                refine lv_aload_n hx hb dX12_make_63 rfl (lv_at hl 1 rfl) ?_
                obtain ⟨r_36, v_37, q_38, hf_35, hr_39, hv_40⟩ := (show tp_o_M L K 0 0 (Γ_31 (39, 0, 0)) (f_30 o) from hI.at ho)
                refine tp_get (cy := cy) (ci := 12) (v := .ref (r_36 0)) (C := RX12) (T := TX12) (N := 49) hx hb hta inlX12 hown hK hP ho.1 hf_35 rfl 0 (by decide) (hta _ wk_149) (fun _ h9 => h9) rfl dX12_make_64 ?_
                refine lv_sipush (v := 441) hx hb dX12_make_67 (by decide) ?_
                refine lv_sipush (v := 300) hx hb dX12_make_70 (by decide) ?_
                refine lv_iload_n hx hb dX12_make_73 rfl (lv_at hl 3 rfl) ?_
                refine lv_imul hx hb dX12_make_74 ?_
                refine lv_topi (fun z_48 ez_48 => ?_)
                try have iz_48 : z_48.toInt = (300 : Int) * p1.toInt := by rw [ez_48]; exact tl_mulN 300 p1 rfl rfl (by omega) (by omega)
                refine lv_iadd hx hb dX12_make_75 ?_
                refine lv_topi (fun z_49 ez_49 => ?_)
                try have iz_49 : z_49.toInt = (441 : Int) + z_48.toInt := by rw [ez_49]; exact tl_addN 441 z_48 rfl rfl (by omega) (by omega)
                refine lv_iload hx hb dX12_make_76 (lv_at hl 0 rfl) ?_
                refine lv_iadd hx hb dX12_make_78 ?_
                refine lv_topi (fun z_50 ez_50 => ?_)
                try have iz_50 : z_50.toInt = z_49.toInt + v6.toInt := by rw [ez_50]; exact tl_addN z_49 v6 rfl rfl (by omega) (by omega)
                refine lv_aload_n hx hb dX12_make_79 rfl (lv_at hl 1 rfl) ?_
                refine lv_iload_n hx hb dX12_make_80 rfl (lv_at hl 2 rfl) ?_
                refine lv_iload_n hx hb dX12_make_81 rfl (lv_at hl 3 rfl) ?_
                refine lv_iload hx hb dX12_make_82 (lv_at hl 0 rfl) ?_
                refine lv_iconst (v := 1) hx hb dX12_make_84 (by decide) ?_
                refine tq_ciR hS (hAf _ hS.1) (tq_rV (As := [.int p0, .int p1, .int v6, .int 1]) (rest := [.int z_50, .ref (r_36 0)]) ⟨hx, hb, hml, hown, hta⟩ (tp_P.pre hK hN hL hU hI hP) (tp_recv hK hP ho.1 hf_35 rfl) lk_X12_385 (r_X12_makesAt l D cy H.size L K Γ_31 f_30 o p0 p1 v6 1 ho (by rw [hgr (43, 8800, 0) (by decide), hgr (45, 1056, 0) (by decide), hgr (46, 22, 0) (by decide), hgr (47, 6, 0) (by decide), hgr (48, 22, 0) (by decide), hgr (49, 22, 0) (by decide), hgr (50, 22, 0) (by decide), hgr (51, 22, 0) (by decide), hgr (42, 3, 0) (by decide)]; exact htx) (ts_hs hsd9) (by first | omega | assumption | (rw [hgr (42, 3, 0) (by decide)]; first | assumption | omega)) (by first | omega | (simp only [Int32.toInt_toInt64]; omega) | decide | assumption)) rfl rfl ⟨Nat.le_of_ble_eq_true rfl, Nat.le_of_ble_eq_true rfl⟩ rfl hl.1 rfl (Nat.le_of_ble_eq_true rfl) dX12_make_85 ⟨Nat.le_of_ble_eq_true rfl, Nat.le_of_ble_eq_true rfl⟩) (fun r_52 f_53 Γ_55 H locs hw_51 hP hI hc_54 hcg_56 hS => ?_)
                have hD : va_D A (va_pl L f_53) := tp_D hL hAL
                have hfr := tp_fr2 hfr hc_54 (by decide)
                have hgr : ∀ κ : tk_K, κ.1 ∉ ([39, 58, 57, 40] : List Nat) → Γ_55 κ = Γ κ := tg_fr2 hgr hcg_56 (by decide)
                have hw_51 : (-100000 ≤ r_52.toInt ∧ r_52.toInt ≤ 100000) ∧ Γ_55 (39, 0, 0) 0 = Γ_31 (39, 0, 0) 0 ∧ Γ_55 (39, 0, 0) 10 = Γ_31 (39, 0, 0) 10 ∧ Γ_55 (39, 0, 0) 11 = Γ_31 (39, 0, 0) 11 ∧ Γ_55 (39, 0, 0) 12 = Γ_31 (39, 0, 0) 12 ∧ Γ_55 (39, 0, 0) 13 = Γ_31 (39, 0, 0) 13 ∧ Γ_55 (39, 0, 0) 14 = Γ_31 (39, 0, 0) 14 ∧ Γ_55 (39, 0, 0) 15 = Γ_31 (39, 0, 0) 15 := hw_51
                have hsd9 : ts_said (Γ_55 (40, 7666, 0)) (Γ (42, 3, 0) 1) := by rw [hcg_56 (40, 7666, 0) (by decide)]; exact hsd9
                have hfr9 : ∀ j : Nat, (j < 441 ∨ 7641 ≤ j) → Γ_55 (40, 7666, 0) j = Γ (40, 7666, 0) j := fun j9 q9 => by rw [hcg_56 (40, 7666, 0) (by decide)]; exact hfr9 j9 q9
                obtain ⟨g_58, hf_57, hg_59⟩ := (show tp_gi cy (7666) (Γ_55 (40, 7666, 0)) (f_53 (r_36 0)) from hI.at (show tp_r L K 40 7666 0 (r_36 0) from hr_39 0 (by decide)))
                have hn_60 : vp_in z_50 (7666) := tl_in (by omega) (by omega)
                have hj_61 : z_50.toNatClampNeg = (441 + 300 * p1.toInt + v6.toInt).toNat := by show z_50.toInt.toNat = _; omega
                have hv_62 : r_52.toInt = r_52.toInt := rfl
                obtain ⟨Γ_63, eΓ_63⟩ : ∃ y : tk_G, y = tg Γ_55 (40, 7666, 0) ((441 + 300 * p1.toInt + v6.toInt).toNat) r_52.toInt := ⟨_, rfl⟩
                have hI9 : tp_I cy L K Γ_63 (va_up f_53 (r_36 0) (.inl (cy 0, 7666, .inl (upd g_58 z_50.toNatClampNeg r_52)))) := by have q9 : tg Γ_55 (40, 7666, 0) ((441 + 300 * p1.toInt + v6.toInt).toNat) r_52.toInt = tg Γ_55 (40, 7666, 0) z_50.toNatClampNeg r_52.toInt := (by rw [hj_61, hv_62]); rw [eΓ_63, q9]; exact hI.setg hU rfl (show tp_r L K 40 7666 0 (r_36 0) from hr_39 0 (by decide)) (show tp_gi cy (7666) (tgu (Γ_55 (40, 7666, 0)) _ _) _ from ⟨_, rfl, tp_gi_upd hg_59⟩)
                have hfr9 : ∀ b, (K b).1 ∉ ([39, 58, 57, 40] : List Nat) → va_up f_53 (r_36 0) (.inl (cy 0, 7666, .inl (upd g_58 z_50.toNatClampNeg r_52))) b = f b := tp_fr hfr (show tp_r L K 40 7666 0 (r_36 0) from hr_39 0 (by decide)) (by decide)
                refine tp_iast (cy := cy) hx hb hK hP hD hS (show tp_r L K 40 7666 0 (r_36 0) from hr_39 0 (by decide)).1 hf_57 hn_60 dX12_make_88 (fun H locs hP hD hS => ?_)
                have hP : va_P D vwCl (va_pl L (va_up f_53 (r_36 0) (.inl (cy 0, 7666, .inl (upd g_58 z_50.toNatClampNeg r_52))))) H := hP
                generalize hfe : va_up f_53 (r_36 0) (.inl (cy 0, 7666, .inl (upd g_58 z_50.toNatClampNeg r_52))) = f_64 at hP hI9 hfr9
                have hD : va_D A (va_pl L f_64) := tp_D hL hAL
                have hf_65 : f_64 (r_36 0) = .inl (cy 0, 7666, .inl (upd g_58 z_50.toNatClampNeg r_52)) := by rw [← hfe]; exact va_up_self _ _ _
                clear hfe
                have hI := hI9
                have hfr := hfr9
                clear hI9 hfr9
                have wsΓ_63 : Γ_63 (40, 7666, 0) ((441 + 300 * p1.toInt + v6.toInt).toNat) = r_52.toInt := by rw [eΓ_63]; exact tg_s
                have mt_63_0 : Γ_63 (39, 0, 0) 0 = Γ_55 (39, 0, 0) 0 := by rw [eΓ_63, tg_r (by decide)]
                have hgr : ∀ κ : tk_K, κ.1 ∉ ([39, 58, 57, 40] : List Nat) → Γ_63 κ = Γ κ := tg_fr hgr eΓ_63 (by decide)
                obtain ⟨z_66, ez_66⟩ : ∃ y : Int32, y = v6 + 1 := ⟨_, rfl⟩
                refine lv_iinc (v := z_66) (lv' := [(6, .int z_66), (0, .ref o), (1, .int p0), (2, .int p1), (3, .int p2), (4, .int p3), (5, .int p4)]) hx hb dX12_make_89 hl (k := 0) rfl (by rw [ez_66]; rfl) (by decide) rfl (fun ls hl => ?_)
                try have iz_66 : z_66.toInt = v6.toInt + 1 := by rw [ez_66]; exact tl_addL v6 1 (by decide) (by omega) (by omega)
                refine lv_goto (tgt := 56) hx hb dX12_make_92 (by decide) ?_
                exact ih56 (f_64, Γ_63, z_66) H locs ls (by show (300 - z_66.toInt).toNat < (300 - v6.toInt).toNat; omega) ⟨(show 0 ≤ z_66.toInt ∧ z_66.toInt ≤ 300 from (by omega)), (show ts_said (Γ_63 (40, 7666, 0)) (Γ (42, 3, 0) 1) from (by rw [eΓ_63, tg_f]; exact hsd9.put (fun q => by omega) (fun q => by omega) (fun q => by omega) (fun q => by omega) (fun q => by omega) (fun q => by omega) (fun _ _ q => by omega) (fun _ _ => ⟨fun q => by omega, fun q => by omega⟩) (fun _ _ => ⟨fun q => by omega, fun q => by omega⟩) (fun _ _ q => by omega) (fun _ _ _ => Or.inr (by omega)) (fun _ _ q => by omega))), (show ∀ j : Nat, (j < 441 ∨ 7641 ≤ j) → Γ_63 (40, 7666, 0) j = Γ (40, 7666, 0) j from (fun j9 q9 => by rw [eΓ_63, tg_i (by omega)]; exact hfr9 j9 q9)), (show Γ_63 (39, 0, 0) 0 = Γ (39, 0, 0) 0 from (by omega)), hP, hI, hfr, hgr, hS, lv_sub hl [0, 1, 2, 3, 4, 5, 6] rfl⟩
            · have c_27 : p4.toInt < p3.toInt := tl_nle c_27
              refine lv_iconst (v := (-1)) hx hb dX12_make_44 (by decide) ?_
              have hpo9 : Γ (39, 0, 0) 0 = Γ (39, 0, 0) 0 ∧ ts_said (Γ (40, 7666, 0)) (Γ (42, 3, 0) 1) ∧ (∀ j : Nat, (j < 441 ∨ 7641 ≤ j) → Γ (40, 7666, 0) j = Γ (40, 7666, 0) j) := ⟨(by omega), hsd, (fun _ _ => rfl)⟩
              exact W.iret (v := (-1)) hx hb hr (fun t ht hW => ⟨⟨_, (f, Γ), rfl, hpo9, by rw [ht]; exact hP, hI, hfr, hgr⟩, hS.F ht⟩) hS.2.2 dX12_make_45
set_option maxHeartbeats 4000000 in
set_option maxRecDepth 100000 in
theorem r_X12_drawn (l : Launch) (D : va_G) (cy : Nat → ClassId) (sz : Nat) (L : List Nat) (K : Nat → tk_K) (Γ : tk_G) (f : Nat → va_E) (o : Nat) (p0 : Int32) (p1 : Int32) (p2 : Int32) (p3 : Int32) (p4 : Int32) (ho : tp_r L K 39 (0) 0 o) (htx : tx_ok (Γ (43, 8800, 0)) (Γ (45, 1056, 0)) (Γ (46, 22, 0)) (Γ (47, 6, 0)) (Γ (48, 22, 0)) (Γ (49, 22, 0)) (Γ (50, 22, 0)) (Γ (51, 22, 0)) (Γ (42, 3, 0))) (hsd : ts_said (Γ (40, 7666, 0)) (Γ (42, 3, 0) 1)) : Met l yX12_drawn (tl_w yX12_drawn cX12_drawn 12 (some .int)) ({ frames := 7, cells := 0, slots := 0, locals := 177 }) (va_Pc [.ref o, .int p0, .int p1, .int p2, .int p3, .int p4] (tp_P D cy L K Γ f sz)) (va_Qi (fun (r : Int32) (u : (Nat → va_E) × tk_G) => u.2 (39, 0, 0) 0 = Γ (39, 0, 0) 0) (tp_BG D cy L K Γ f [39, 58, 57, 60, 61, 62, 63, 59]) (tp_A L sz)) 0 0 (tp_A L sz) := by
  refine Met.ofW (cc := cX12_drawn) (maxL := 12) (ret := (some .int)) (by decide) rfl ?_
  intro p e s m args below meth c s₁ B hml hv
  obtain ⟨rfl, hsz, hP, hK, hL, hI, hN, hU⟩ := hv
  have hx := B.exec
  have hb := B.bytes
  have hr := B.returns
  have hta := tl_hta (atoms_spec (ws := tl_w yX12_drawn cX12_drawn 12 (some .int)) B.pre)
  have hown : s.vm.findClass RX12 = some m.cls := findClass_of_methodNamed B.named
  have hlocks := B.notSynchronized
  subst hsz
  have hI0 := hI
  generalize hAe : tp_A L s.heap.size = A
  have hA : ∀ q : Nat, s.heap.size ≤ q → A q := fun q h => by rw [← hAe]; exact Or.inr h
  have hAL : ∀ q ∈ L, A q := fun q h => by rw [← hAe]; exact Or.inl h
  have hAf : ∀ (H : Heap), s.heap.size ≤ H.size → ∀ q, tp_A L H.size q → A q := fun H h q hq => hq.elim (hAL q) (fun h2 => hA q (Nat.le_trans h h2))
  have hS : va_S A s.heap s.heap [] := va_S.rf
  have hD : va_D A (va_pl L f) := tp_D hL hAL
  have hfr : ∀ b, (K b).1 ∉ ([39, 58, 57, 60, 61, 62, 63, 59] : List Nat) → f b = f b := fun _ _ => rfl
  have hgr : ∀ κ : tk_K, κ.1 ∉ ([39, 58, 57, 60, 61, 62, 63, 59] : List Nat) → Γ κ = Γ κ := fun _ _ => rfl
  have hl := lv_entry ([.ref o, .int p0, .int p1, .int p2, .int p3, .int p4]) (n := 12) (Nat.le_of_ble_eq_true rfl)
  rw [lg_entry_eq]
  generalize (lg_sl ([.ref o, .int p0, .int p1, .int p2, .int p3, .int p4]) ++ List.replicate (12 - (lg_sl ([.ref o, .int p0, .int p1, .int p2, .int p3, .int p4])).length) Slot.unset).toArray = ls at hl ⊢
  have hl : lv_has ls 12 [(0, .ref o), (1, .int p0), (2, .int p1), (3, .int p2), (4, .int p3), (5, .int p4)] := hl
  have hs := ts_hs hsd
  have hraw := ts_raw hsd
  have hslp := ts_slp hsd
  have htb := htx.1
  refine lv_aload_n hx hb dX12_drawn_0 rfl (lv_at hl 0 rfl) ?_
  refine lv_iconst (v := 0) hx hb dX12_drawn_1 (by decide) ?_
  refine lv_iload_n hx hb dX12_drawn_2 rfl (lv_at hl 1 rfl) ?_
  obtain ⟨r_2, v_3, q_4, hf_1, hr_5, hv_6⟩ := (show tp_o_M L K 0 0 (Γ (39, 0, 0)) (f o) from hI.at ho)
  refine tl_si (tq_rV (As := [.int 0, .int p0]) (rest := []) ⟨hx, hb, hml, hown, hta⟩ (tp_P.pre hK hN hL hU hI hP) (tp_recv hK hP ho.1 hf_1 rfl) lk_X12_382 (r_isText_0 l D cy s.heap.size L K Γ f o p0 ho) rfl rfl ⟨Nat.le_of_ble_eq_true rfl, Nat.le_of_ble_eq_true rfl⟩ rfl hl.1 rfl (Nat.le_of_ble_eq_true rfl) dX12_drawn_3 ⟨Nat.le_of_ble_eq_true rfl, Nat.le_of_ble_eq_true rfl⟩) (fun r_15 hw_14 => ?_)
  have hw_14 : tl_E r_15 (0 ≤ p0.toInt ∧ p0.toInt < Γ (42, 3, 0) 0) 1 0 := hw_14
  refine lv_if_eq (tgt := 36) hx hb dX12_drawn_6 (by decide) (fun c_16 => ?_) (fun c_16 => ?_)
  · have c_16 := hw_14.f c_16
    refine lv_iconst (v := (-1)) hx hb dX12_drawn_36 (by decide) ?_
    have hpo9 : Γ (39, 0, 0) 0 = Γ (39, 0, 0) 0 := (by omega)
    exact W.iret (v := (-1)) hx hb hr (fun t ht hW => ⟨⟨_, (f, Γ), rfl, hpo9, by rw [ht]; exact hP, hI, hfr, hgr⟩, hS.F ht⟩) hS.2.2 dX12_drawn_37
  · have c_16 := hw_14.t c_16
    refine lv_aload_n hx hb dX12_drawn_9 rfl (lv_at hl 0 rfl) ?_
    refine lv_iload_n hx hb dX12_drawn_10 rfl (lv_at hl 2 rfl) ?_
    refine lv_iload_n hx hb dX12_drawn_11 rfl (lv_at hl 3 rfl) ?_
    refine tl_si (tq_rV (As := [.int p1, .int p2]) (rest := []) ⟨hx, hb, hml, hown, hta⟩ (tp_P.pre hK hN hL hU hI hP) (tp_recv hK hP ho.1 hf_1 rfl) lk_X12_447 (r_X12_canAsk l D cy s.heap.size L K Γ f o p1 p2 ho) rfl rfl ⟨Nat.le_of_ble_eq_true rfl, Nat.le_of_ble_eq_true rfl⟩ rfl hl.1 rfl (Nat.le_of_ble_eq_true rfl) dX12_drawn_12 ⟨Nat.le_of_ble_eq_true rfl, Nat.le_of_ble_eq_true rfl⟩) (fun r_18 hw_17 => ?_)
    have hw_17 : tl_E r_18 ((0 ≤ p1.toInt ∧ p1.toInt < Γ (42, 3, 0) 1) ∧ 0 ≤ p2.toInt ∧ p2.toInt < Γ (40, 7666, 0) 1) 1 0 := hw_17
    refine lv_if_eq (tgt := 36) hx hb dX12_drawn_15 (by decide) (fun c_19 => ?_) (fun c_19 => ?_)
    · have c_19 := hw_17.f c_19
      refine lv_iconst (v := (-1)) hx hb dX12_drawn_36 (by decide) ?_
      have hpo9 : Γ (39, 0, 0) 0 = Γ (39, 0, 0) 0 := (by omega)
      exact W.iret (v := (-1)) hx hb hr (fun t ht hW => ⟨⟨_, (f, Γ), rfl, hpo9, by rw [ht]; exact hP, hI, hfr, hgr⟩, hS.F ht⟩) hS.2.2 dX12_drawn_37
    · have c_19 := hw_17.t c_19
      refine lv_iload hx hb dX12_drawn_18 (lv_at hl 4 rfl) ?_
      refine lv_if_lt (tgt := 36) hx hb dX12_drawn_20 (by decide) (fun c_20 => ?_) (fun c_20 => ?_)
      · have c_20 : p3.toInt < (0 : Int) := tl_lt c_20
        refine lv_iconst (v := (-1)) hx hb dX12_drawn_36 (by decide) ?_
        have hpo9 : Γ (39, 0, 0) 0 = Γ (39, 0, 0) 0 := (by omega)
        exact W.iret (v := (-1)) hx hb hr (fun t ht hW => ⟨⟨_, (f, Γ), rfl, hpo9, by rw [ht]; exact hP, hI, hfr, hgr⟩, hS.F ht⟩) hS.2.2 dX12_drawn_37
      · have c_20 : (0 : Int) ≤ p3.toInt := tl_nlt c_20
        refine lv_iload hx hb dX12_drawn_23 (lv_at hl 5 rfl) ?_
        refine lv_i2l (v := p4.toInt64) hx hb dX12_drawn_25 (by first | rfl | decide) ?_
        refine lv_lconst (v := 1) hx hb dX12_drawn_26 (by decide) ?_
        refine lv_ldc2 (v := 50) hx hb hown (hta _ wk_1036) dX12_drawn_27 ?_
        refine tl_si (tq_rS (As := [.long p4.toInt64, .long 1, .long 50]) (rest := []) ⟨hx, hb, hml, hown, hta⟩ (tp_P.pre hK hN hL hU hI hP) lk_X12_112 (r_X12_in l D cy s.heap.size L K Γ f p4.toInt64 1 50 ) rfl rfl ⟨Nat.le_of_ble_eq_true rfl, Nat.le_of_ble_eq_true rfl⟩ rfl hl.1 rfl (Nat.le_of_ble_eq_true rfl) dX12_drawn_30 ⟨Nat.le_of_ble_eq_true rfl, Nat.le_of_ble_eq_true rfl⟩) (fun r_22 hw_21 => ?_)
        simp only [Int32.toInt_toInt64] at hw_21
        have hw_21 : tl_E r_22 ((1 : Int) ≤ p4.toInt ∧ p4.toInt ≤ (50 : Int)) 1 0 := hw_21
        refine lv_if_ne (tgt := 38) hx hb dX12_drawn_33 (by decide) (fun c_23 => ?_) (fun c_23 => ?_)
        · have c_23 := hw_21.t c_23
          refine lv_aload_n hx hb dX12_drawn_38 rfl (lv_at hl 0 rfl) ?_
          refine lv_iload_n hx hb dX12_drawn_39 rfl (lv_at hl 2 rfl) ?_
          refine lv_iload_n hx hb dX12_drawn_40 rfl (lv_at hl 3 rfl) ?_
          refine tq_clR hS (hAf _ hS.1) (tq_rV (As := [.int p1, .int p2]) (rest := []) ⟨hx, hb, hml, hown, hta⟩ (tp_P.pre hK hN hL hU hI hP) (tp_recv hK hP ho.1 hf_1 rfl) lk_X12_450 (r_X12_scoreOf l D cy s.heap.size L K Γ f o p1 p2 ho (by first | omega | (simp only [Int32.toInt_toInt64]; omega) | decide | assumption) (by first | omega | (simp only [Int32.toInt_toInt64]; omega) | decide | assumption) (by first | omega | (simp only [Int32.toInt_toInt64]; omega) | decide | assumption) (by first | omega | (simp only [Int32.toInt_toInt64]; omega) | decide | assumption)) rfl rfl ⟨Nat.le_of_ble_eq_true rfl, Nat.le_of_ble_eq_true rfl⟩ rfl hl.1 rfl (Nat.le_of_ble_eq_true rfl) dX12_drawn_41 ⟨Nat.le_of_ble_eq_true rfl, Nat.le_of_ble_eq_true rfl⟩) (fun r_25 f_26 Γ_28 H locs hw_24 hP hI hc_27 hcg_29 hS => ?_)
          have hD : va_D A (va_pl L f_26) := tp_D hL hAL
          have hfr := tp_fr2 hfr hc_27 (by decide)
          have hgr : ∀ κ : tk_K, κ.1 ∉ ([39, 58, 57, 60, 61, 62, 63, 59] : List Nat) → Γ_28 κ = Γ κ := tg_fr2 hgr hcg_29 (by decide)
          have hw_24 : Γ_28 (39, 0, 0) 0 = Γ (39, 0, 0) 0 ∧ (0 ≤ Γ_28 (39, 0, 0) 11 ∧ Γ_28 (39, 0, 0) 12 ≤ 299) ∧ (Γ_28 (39, 0, 0) 11 = Γ (49, 22, 0) (6 + p1.toInt).toNat ∧ Γ_28 (39, 0, 0) 12 = Γ (50, 22, 0) (6 + p1.toInt).toNat) ∧ (Γ_28 (39, 0, 0) 15 = 0 ∨ Γ_28 (39, 0, 0) 15 = 1) ∧ (0 ≤ Γ_28 (39, 0, 0) 13 ∧ Γ_28 (39, 0, 0) 13 ≤ 42) ∧ (0 < Γ_28 (39, 0, 0) 13 → 0 < Γ_28 (39, 0, 0) 10) ∧ (Γ_28 (39, 0, 0) 15 = 1 → 0 < Γ_28 (39, 0, 0) 13 ∧ 0 < Γ_28 (39, 0, 0) 14) ∧ (Γ_28 (39, 0, 0) 15 = 1 → gex (Γ_28 (59, 300, 0)) (Γ (49, 22, 0) (6 + p1.toInt).toNat) (Γ (50, 22, 0) (6 + p1.toInt).toNat + 1)) ∧ (∀ j : Nat, (j : Int) < Γ_28 (39, 0, 0) 13 → 0 ≤ Γ_28 (61, 42, 0) j ∧ Γ_28 (61, 42, 0) j ≤ 299) ∧ (∀ j : Nat, (j : Int) + 1 < Γ_28 (39, 0, 0) 13 → Γ_28 (61, 42, 0) j < Γ_28 (61, 42, 0) (j + 1)) ∧ (∀ j : Nat, j < 300 → (Γ_28 (59, 300, 0) j = -1000000 ∨ (-500000 ≤ Γ_28 (59, 300, 0) j ∧ Γ_28 (59, 300, 0) j ≤ 500000))) := hw_24
          obtain ⟨hq0, hqb, hq11, hq15, hq13, hq10, hqd, hqg, hqk, hqr, hql⟩ := hw_24
          refine lv_lstore (lv' := [(6, .long r_25), (0, .ref o), (1, .int p0), (2, .int p1), (3, .int p2), (4, .int p3), (5, .int p4)]) hx hb dX12_drawn_44 hl (by decide) rfl (fun ls hl => ?_)
          refine lv_aload_n hx hb dX12_drawn_46 rfl (lv_at hl 1 rfl) ?_
          obtain ⟨r_31, v_32, q_33, hf_30, hr_34, hv_35⟩ := (show tp_o_M L K 0 0 (Γ_28 (39, 0, 0)) (f_26 o) from hI.at ho)
          have hx_36 : (v_32 0).toInt = Γ_28 (39, 0, 0) 0 := hv_35 0 (by decide)
          have hx_37 : (v_32 10).toInt = Γ_28 (39, 0, 0) 10 := hv_35 10 (by decide)
          have hx_38 : (v_32 11).toInt = Γ_28 (39, 0, 0) 11 := hv_35 11 (by decide)
          have hx_39 : (v_32 12).toInt = Γ_28 (39, 0, 0) 12 := hv_35 12 (by decide)
          have hx_40 : (v_32 13).toInt = Γ_28 (39, 0, 0) 13 := hv_35 13 (by decide)
          have hx_41 : (v_32 14).toInt = Γ_28 (39, 0, 0) 14 := hv_35 14 (by decide)
          have hx_42 : (v_32 15).toInt = Γ_28 (39, 0, 0) 15 := hv_35 15 (by decide)
          refine tp_get (cy := cy) (ci := 12) (v := .int (v_32 15)) (C := RX12) (T := TX12) (N := 49) hx hb hta inlX12 hown hK hP ho.1 hf_30 rfl 40 (by decide) (hta _ wk_924) (fun _ h9 => h9) rfl dX12_drawn_47 ?_
          refine lv_if_ne (tgt := 56) hx hb dX12_drawn_50 (by decide) (fun c_43 => ?_) (fun c_43 => ?_)
          · have c_43 : ¬ (v_32 15).toInt = (0 : Int) := tl_neq c_43
            refine lv_iconst (v := 0) hx hb dX12_drawn_56 (by decide) ?_
            refine lv_istore (lv' := [(8, .int 0), (6, .long r_25), (0, .ref o), (1, .int p0), (2, .int p1), (3, .int p2), (4, .int p3), (5, .int p4)]) hx hb dX12_drawn_57 hl (by decide) rfl (fun ls hl => ?_)
            refine lv_aload_n hx hb dX12_drawn_59 rfl (lv_at hl 2 rfl) ?_
            refine lv_iload hx hb dX12_drawn_60 (lv_at hl 6 rfl) ?_
            refine lv_i2l (v := p3.toInt64) hx hb dX12_drawn_62 (by first | rfl | decide) ?_
            have hI9 : tp_I cy L K Γ_28 (va_up f_26 o (.inr (12, [.ref (r_31 0), .ref (r_31 1), .int (v_32 0), .ref (r_31 2), .ref (r_31 3), .ref (r_31 4), .ref (r_31 5), .ref (r_31 6), .ref (r_31 7), .ref (r_31 8), .ref (r_31 9), .ref (r_31 10), .ref (r_31 11), .ref (r_31 12), .ref (r_31 13), .ref (r_31 14), .ref (r_31 15), .int (v_32 1), .int (v_32 2), .int (v_32 3), .int (v_32 4), .int (v_32 5), .int (v_32 6), .int (v_32 7), .ref (r_31 16), .int (v_32 8), .ref (r_31 17), .int (v_32 9), .ref (r_31 18), .long p3.toInt64, .ref (r_31 19), .ref (r_31 20), .int (v_32 10), .int (v_32 11), .int (v_32 12), .ref (r_31 21), .ref (r_31 22), .int (v_32 13), .ref (r_31 23), .int (v_32 14), .int (v_32 15), .ref (r_31 24), .ref (r_31 25), .ref (r_31 26), .ref (r_31 27), .ref (r_31 28), .ref (r_31 29), .ref (r_31 30), .ref (r_31 31)]))) := hI.set ho (show tp_o_M L K 0 0 (Γ_28 (39, 0, 0)) _ from ⟨r_31, v_32, p3.toInt64, rfl, hr_34, hv_35⟩)
            have hfr9 : ∀ b, (K b).1 ∉ ([39, 58, 57, 60, 61, 62, 63, 59] : List Nat) → va_up f_26 o (.inr (12, [.ref (r_31 0), .ref (r_31 1), .int (v_32 0), .ref (r_31 2), .ref (r_31 3), .ref (r_31 4), .ref (r_31 5), .ref (r_31 6), .ref (r_31 7), .ref (r_31 8), .ref (r_31 9), .ref (r_31 10), .ref (r_31 11), .ref (r_31 12), .ref (r_31 13), .ref (r_31 14), .ref (r_31 15), .int (v_32 1), .int (v_32 2), .int (v_32 3), .int (v_32 4), .int (v_32 5), .int (v_32 6), .int (v_32 7), .ref (r_31 16), .int (v_32 8), .ref (r_31 17), .int (v_32 9), .ref (r_31 18), .long p3.toInt64, .ref (r_31 19), .ref (r_31 20), .int (v_32 10), .int (v_32 11), .int (v_32 12), .ref (r_31 21), .ref (r_31 22), .int (v_32 13), .ref (r_31 23), .int (v_32 14), .int (v_32 15), .ref (r_31 24), .ref (r_31 25), .ref (r_31 26), .ref (r_31 27), .ref (r_31 28), .ref (r_31 29), .ref (r_31 30), .ref (r_31 31)])) b = f b := tp_fr hfr ho (by decide)
            refine tp_put (cy := cy) (ci := 12) (v := .long p3.toInt64) (ty := tyX12 29) (C := RX12) (T := TX12) (N := 49) hx hb hta inlX12 tyX12 tyX12_ok nmX12 hown hK hP hD hS ho.1 hf_30 rfl 29 (by decide) (hta _ wk_776) (fun _ h9 => h9) rfl (tyX12_ok 29 (by decide)) rfl rfl (Nat.le_of_ble_eq_true rfl) dX12_drawn_63 (fun H locs hP hD hS => ?_)
            have hP : va_P D vwCl (va_pl L (va_up f_26 o (.inr (12, [.ref (r_31 0), .ref (r_31 1), .int (v_32 0), .ref (r_31 2), .ref (r_31 3), .ref (r_31 4), .ref (r_31 5), .ref (r_31 6), .ref (r_31 7), .ref (r_31 8), .ref (r_31 9), .ref (r_31 10), .ref (r_31 11), .ref (r_31 12), .ref (r_31 13), .ref (r_31 14), .ref (r_31 15), .int (v_32 1), .int (v_32 2), .int (v_32 3), .int (v_32 4), .int (v_32 5), .int (v_32 6), .int (v_32 7), .ref (r_31 16), .int (v_32 8), .ref (r_31 17), .int (v_32 9), .ref (r_31 18), .long p3.toInt64, .ref (r_31 19), .ref (r_31 20), .int (v_32 10), .int (v_32 11), .int (v_32 12), .ref (r_31 21), .ref (r_31 22), .int (v_32 13), .ref (r_31 23), .int (v_32 14), .int (v_32 15), .ref (r_31 24), .ref (r_31 25), .ref (r_31 26), .ref (r_31 27), .ref (r_31 28), .ref (r_31 29), .ref (r_31 30), .ref (r_31 31)])))) H := hP
            generalize hfe : va_up f_26 o (.inr (12, [.ref (r_31 0), .ref (r_31 1), .int (v_32 0), .ref (r_31 2), .ref (r_31 3), .ref (r_31 4), .ref (r_31 5), .ref (r_31 6), .ref (r_31 7), .ref (r_31 8), .ref (r_31 9), .ref (r_31 10), .ref (r_31 11), .ref (r_31 12), .ref (r_31 13), .ref (r_31 14), .ref (r_31 15), .int (v_32 1), .int (v_32 2), .int (v_32 3), .int (v_32 4), .int (v_32 5), .int (v_32 6), .int (v_32 7), .ref (r_31 16), .int (v_32 8), .ref (r_31 17), .int (v_32 9), .ref (r_31 18), .long p3.toInt64, .ref (r_31 19), .ref (r_31 20), .int (v_32 10), .int (v_32 11), .int (v_32 12), .ref (r_31 21), .ref (r_31 22), .int (v_32 13), .ref (r_31 23), .int (v_32 14), .int (v_32 15), .ref (r_31 24), .ref (r_31 25), .ref (r_31 26), .ref (r_31 27), .ref (r_31 28), .ref (r_31 29), .ref (r_31 30), .ref (r_31 31)])) = f_44 at hP hI9 hfr9
            have hD : va_D A (va_pl L f_44) := tp_D hL hAL
            have hf_45 : f_44 o = .inr (12, [.ref (r_31 0), .ref (r_31 1), .int (v_32 0), .ref (r_31 2), .ref (r_31 3), .ref (r_31 4), .ref (r_31 5), .ref (r_31 6), .ref (r_31 7), .ref (r_31 8), .ref (r_31 9), .ref (r_31 10), .ref (r_31 11), .ref (r_31 12), .ref (r_31 13), .ref (r_31 14), .ref (r_31 15), .int (v_32 1), .int (v_32 2), .int (v_32 3), .int (v_32 4), .int (v_32 5), .int (v_32 6), .int (v_32 7), .ref (r_31 16), .int (v_32 8), .ref (r_31 17), .int (v_32 9), .ref (r_31 18), .long p3.toInt64, .ref (r_31 19), .ref (r_31 20), .int (v_32 10), .int (v_32 11), .int (v_32 12), .ref (r_31 21), .ref (r_31 22), .int (v_32 13), .ref (r_31 23), .int (v_32 14), .int (v_32 15), .ref (r_31 24), .ref (r_31 25), .ref (r_31 26), .ref (r_31 27), .ref (r_31 28), .ref (r_31 29), .ref (r_31 30), .ref (r_31 31)]) := by rw [← hfe]; exact va_up_self _ _ _
            clear hfe
            have hI := hI9
            have hfr := hfr9
            clear hI9 hfr9
            refine lv_iconst (v := 0) hx hb dX12_drawn_66 (by decide) ?_
            refine lv_istore (lv' := [(9, .int 0), (8, .int 0), (6, .long r_25), (0, .ref o), (1, .int p0), (2, .int p1), (3, .int p2), (4, .int p3), (5, .int p4)]) hx hb dX12_drawn_67 hl (by decide) rfl (fun ls hl => ?_)
            refine tl_ind (G := fun H locs ls => W p l e ((headSpec (tl_w yX12_drawn cX12_drawn 12 (some .int)) ({ frames := 7, cells := 0, slots := 0, locals := 177 })).room) s m #[.ref o, .int p0, .int p1, .int p2, .int p3, .int p4] below meth c H locs 0 0 (MQ below (va_Qi (fun (r : Int32) (u : (Nat → va_E) × tk_G) => u.2 (39, 0, 0) 0 = Γ (39, 0, 0) 0) (tp_BG D cy L K Γ f [39, 58, 57, 60, 61, 62, 63, 59]) A) #[.ref o, .int p0, .int p1, .int p2, .int p3, .int p4] s 0 0 A) (F0 m 69 ls [])) (α := (Nat → va_E) × tk_G × Int32 × Int32) (fun aq => (50 - aq.2.2.1.toInt).toNat) (fun aq H locs ls => (0 ≤ aq.2.2.1.toInt ∧ aq.2.2.1.toInt ≤ 50) ∧ (aq.2.1 (39, 0, 0) 0 = Γ (39, 0, 0) 0) ∧ va_P D vwCl (va_pl L aq.1) H ∧ tp_I cy L K aq.2.1 aq.1 ∧ (∀ b, (K b).1 ∉ ([39, 58, 57, 60, 61, 62, 63, 59] : List Nat) → aq.1 b = f b) ∧ (∀ κ : tk_K, κ.1 ∉ ([39, 58, 57, 60, 61, 62, 63, 59] : List Nat) → aq.2.1 κ = Γ κ) ∧ va_S A s.heap H locs ∧ lv_has ls 12 [(9, .int aq.2.2.1), (8, .int aq.2.2.2), (6, .long r_25), (0, .ref o), (1, .int p0), (2, .int p1), (3, .int p2), (4, .int p3), (5, .int p4)]) ?_ (f_44, Γ_28, (0 : Int32), (0 : Int32)) H locs ls ⟨(show 0 ≤ (0 : Int) ∧ (0 : Int) ≤ 50 from (by omega)), (show Γ_28 (39, 0, 0) 0 = Γ (39, 0, 0) 0 from (by omega)), hP, hI, hfr, hgr, hS, lv_sub hl [0, 1, 2, 3, 4, 5, 6, 7, 8] rfl⟩
            rintro ⟨f_46, Γ_47, v9, v8⟩ H locs ls ⟨hr9, q0, hP, hI, hfr, hgr, hS, hl⟩ ih69
            have hgr : ∀ κ : tk_K, κ.1 ∉ ([39, 58, 57, 60, 61, 62, 63, 59] : List Nat) → Γ_47 κ = Γ κ := hgr
            have hP : va_P D vwCl (va_pl L f_46) H := hP
            have hI : tp_I cy L K Γ_47 f_46 := hI
            have hfr : ∀ b, (K b).1 ∉ ([39, 58, 57, 60, 61, 62, 63, 59] : List Nat) → f_46 b = f b := hfr
            have hD : va_D A (va_pl L f_46) := tp_D hL hAL
            have hr9 : 0 ≤ v9.toInt ∧ v9.toInt ≤ 50 := hr9
            have q0 : Γ_47 (39, 0, 0) 0 = Γ (39, 0, 0) 0 := q0
            have hl : lv_has ls 12 [(9, .int v9), (8, .int v8), (6, .long r_25), (0, .ref o), (1, .int p0), (2, .int p1), (3, .int p2), (4, .int p3), (5, .int p4)] := hl
            refine lv_iload hx hb dX12_drawn_69 (lv_at hl 0 rfl) ?_
            refine lv_iload hx hb dX12_drawn_71 (lv_at hl 8 rfl) ?_
            refine lv_icmp_ge (tgt := 148) hx hb dX12_drawn_73 (by decide) (fun c_48 => ?_) (fun c_48 => ?_)
            · have c_48 : p4.toInt ≤ v9.toInt := tl_le c_48
              refine lv_iload hx hb dX12_drawn_148 (lv_at hl 1 rfl) ?_
              have hpo9 : Γ_47 (39, 0, 0) 0 = Γ (39, 0, 0) 0 := (by omega)
              exact W.iret (v := v8) hx hb hr (fun t ht hW => ⟨⟨_, (f_46, Γ_47), rfl, hpo9, by rw [ht]; exact hP, hI, hfr, hgr⟩, hS.F ht⟩) hS.2.2 dX12_drawn_150
            · have c_48 : v9.toInt < p4.toInt := tl_nle c_48
              refine lv_iconst (v := 0) hx hb dX12_drawn_76 (by decide) ?_
              refine lv_istore (lv' := [(10, .int 0), (9, .int v9), (8, .int v8), (6, .long r_25), (0, .ref o), (1, .int p0), (2, .int p1), (3, .int p2), (4, .int p3), (5, .int p4)]) hx hb dX12_drawn_77 hl (by decide) rfl (fun ls hl => ?_)
              refine tl_ind (G := fun H locs ls => W p l e ((headSpec (tl_w yX12_drawn cX12_drawn 12 (some .int)) ({ frames := 7, cells := 0, slots := 0, locals := 177 })).room) s m #[.ref o, .int p0, .int p1, .int p2, .int p3, .int p4] below meth c H locs 0 0 (MQ below (va_Qi (fun (r : Int32) (u : (Nat → va_E) × tk_G) => u.2 (39, 0, 0) 0 = Γ (39, 0, 0) 0) (tp_BG D cy L K Γ f [39, 58, 57, 60, 61, 62, 63, 59]) A) #[.ref o, .int p0, .int p1, .int p2, .int p3, .int p4] s 0 0 A) (F0 m 79 ls [])) (α := (Nat → va_E) × tk_G × Int32) (fun aq => (300 - aq.2.2.toInt).toNat) (fun aq H locs ls => (0 ≤ aq.2.2.toInt) ∧ (aq.2.2.toInt ≤ 300) ∧ (aq.2.1 (39, 0, 0) 0 = Γ (39, 0, 0) 0) ∧ va_P D vwCl (va_pl L aq.1) H ∧ tp_I cy L K aq.2.1 aq.1 ∧ (∀ b, (K b).1 ∉ ([39, 58, 57, 60, 61, 62, 63, 59] : List Nat) → aq.1 b = f b) ∧ (∀ κ : tk_K, κ.1 ∉ ([39, 58, 57, 60, 61, 62, 63, 59] : List Nat) → aq.2.1 κ = Γ κ) ∧ va_S A s.heap H locs ∧ lv_has ls 12 [(10, .int aq.2.2), (9, .int v9), (8, .int v8), (6, .long r_25), (0, .ref o), (1, .int p0), (2, .int p1), (3, .int p2), (4, .int p3), (5, .int p4)]) ?_ (f_46, Γ_47, (0 : Int32)) H locs ls ⟨(show 0 ≤ (0 : Int) from (by omega)), (show (0 : Int) ≤ 300 from (by omega)), (show Γ_47 (39, 0, 0) 0 = Γ (39, 0, 0) 0 from (by omega)), hP, hI, hfr, hgr, hS, lv_sub hl [0, 1, 2, 3, 4, 5, 6, 7, 8, 9] rfl⟩
              rintro ⟨f_49, Γ_50, v10⟩ H locs ls ⟨h0, h1, j0, hP, hI, hfr, hgr, hS, hl⟩ ih79
              have hgr : ∀ κ : tk_K, κ.1 ∉ ([39, 58, 57, 60, 61, 62, 63, 59] : List Nat) → Γ_50 κ = Γ κ := hgr
              have hP : va_P D vwCl (va_pl L f_49) H := hP
              have hI : tp_I cy L K Γ_50 f_49 := hI
              have hfr : ∀ b, (K b).1 ∉ ([39, 58, 57, 60, 61, 62, 63, 59] : List Nat) → f_49 b = f b := hfr
              have hD : va_D A (va_pl L f_49) := tp_D hL hAL
              have h0 : 0 ≤ v10.toInt := h0
              have h1 : v10.toInt ≤ 300 := h1
              have j0 : Γ_50 (39, 0, 0) 0 = Γ (39, 0, 0) 0 := j0
              have hl : lv_has ls 12 [(10, .int v10), (9, .int v9), (8, .int v8), (6, .long r_25), (0, .ref o), (1, .int p0), (2, .int p1), (3, .int p2), (4, .int p3), (5, .int p4)] := hl
              refine lv_iload hx hb dX12_drawn_79 (lv_at hl 0 rfl) ?_
              refine lv_sipush (v := 300) hx hb dX12_drawn_81 (by decide) ?_
              refine lv_icmp_ge (tgt := 109) hx hb dX12_drawn_84 (by decide) (fun c_51 => ?_) (fun c_51 => ?_)
              · have c_51 : (300 : Int) ≤ v10.toInt := tl_le c_51
                refine lv_aload_n hx hb dX12_drawn_109 rfl (lv_at hl 4 rfl) ?_
                refine lv_iload_n hx hb dX12_drawn_110 rfl (lv_at hl 6 rfl) ?_
                refine lv_iload_n hx hb dX12_drawn_111 rfl (lv_at hl 7 rfl) ?_
                obtain ⟨r_53, v_54, q_55, hf_52, hr_56, hv_57⟩ := (show tp_o_M L K 0 0 (Γ_50 (39, 0, 0)) (f_49 o) from hI.at ho)
                refine tq_clR hS (hAf _ hS.1) (tq_rV (As := [.int p1, .int p2]) (rest := []) ⟨hx, hb, hml, hown, hta⟩ (tp_P.pre hK hN hL hU hI hP) (tp_recv hK hP ho.1 hf_52 rfl) lk_X12_444 (r_X12_own l D cy H.size L K Γ_50 f_49 o p1 p2 ho (by first | omega | assumption | (rw [hgr (42, 3, 0) (by decide), hgr (43, 8800, 0) (by decide), hgr (45, 1056, 0) (by decide), hgr (46, 22, 0) (by decide), hgr (47, 6, 0) (by decide), hgr (48, 22, 0) (by decide), hgr (49, 22, 0) (by decide), hgr (50, 22, 0) (by decide), hgr (51, 22, 0) (by decide)]; first | exact htx | assumption | omega)) (by first | omega | assumption | (rw [hgr (42, 3, 0) (by decide)]; first | assumption | omega)) (by first | omega | (simp only [Int32.toInt_toInt64]; omega) | decide | assumption)) rfl rfl ⟨Nat.le_of_ble_eq_true rfl, Nat.le_of_ble_eq_true rfl⟩ rfl hl.1 rfl (Nat.le_of_ble_eq_true rfl) dX12_drawn_112 ⟨Nat.le_of_ble_eq_true rfl, Nat.le_of_ble_eq_true rfl⟩) (fun r_66 f_67 Γ_69 H locs hw_65 hP hI hc_68 hcg_70 hS => ?_)
                have hD : va_D A (va_pl L f_67) := tp_D hL hAL
                have hfr := tp_fr2 hfr hc_68 (by decide)
                have hgr : ∀ κ : tk_K, κ.1 ∉ ([39, 58, 57, 60, 61, 62, 63, 59] : List Nat) → Γ_69 κ = Γ κ := tg_fr2 hgr hcg_70 (by decide)
                have hw_65 : Γ_69 (39, 0, 0) 0 = Γ_50 (39, 0, 0) 0 ∧ (gex (Γ_50 (59, 300, 0)) (Γ_50 (49, 22, 0) (6 + p1.toInt).toNat) (Γ_50 (50, 22, 0) (6 + p1.toInt).toNat + 1) → 0 < Γ_50 (39, 0, 0) 14 → 0 < Γ_69 (39, 0, 0) 14) ∧ (Γ_69 (39, 0, 0) 11 = Γ_50 (49, 22, 0) (6 + p1.toInt).toNat ∧ Γ_69 (39, 0, 0) 12 = Γ_50 (50, 22, 0) (6 + p1.toInt).toNat) ∧ (Γ_69 (39, 0, 0) 15 = 0 ∨ Γ_69 (39, 0, 0) 15 = 1) ∧ (0 ≤ Γ_69 (39, 0, 0) 13 ∧ Γ_69 (39, 0, 0) 13 ≤ 42) ∧ (0 < Γ_69 (39, 0, 0) 13 → 0 < Γ_69 (39, 0, 0) 10) ∧ (Γ_69 (39, 0, 0) 15 = 1 → 0 < Γ_69 (39, 0, 0) 13 ∧ 0 < Γ_69 (39, 0, 0) 14) ∧ (Γ_69 (39, 0, 0) 15 = 1 → gex (Γ_50 (59, 300, 0)) (Γ_50 (49, 22, 0) (6 + p1.toInt).toNat) (Γ_50 (50, 22, 0) (6 + p1.toInt).toNat + 1)) ∧ (∀ j : Nat, (j : Int) < Γ_69 (39, 0, 0) 13 → 0 ≤ Γ_69 (61, 42, 0) j ∧ Γ_69 (61, 42, 0) j ≤ 299) ∧ (∀ j : Nat, (j : Int) + 1 < Γ_69 (39, 0, 0) 13 → Γ_69 (61, 42, 0) j < Γ_69 (61, 42, 0) (j + 1)) := hw_65
                refine lv_lstore (lv' := [(10, .long r_66), (9, .int v9), (8, .int v8), (6, .long r_25), (0, .ref o), (1, .int p0), (2, .int p1), (3, .int p2), (4, .int p3), (5, .int p4)]) hx hb dX12_drawn_115 hl (by decide) rfl (fun ls hl => ?_)
                refine lv_iload hx hb dX12_drawn_117 (lv_at hl 2 rfl) ?_
                refine lv_aload_n hx hb dX12_drawn_119 rfl (lv_at hl 4 rfl) ?_
                obtain ⟨r_72, v_73, q_74, hf_71, hr_75, hv_76⟩ := (show tp_o_M L K 0 0 (Γ_69 (39, 0, 0)) (f_67 o) from hI.at ho)
                have hx_83 : (v_73 15).toInt = Γ_69 (39, 0, 0) 15 := hv_76 15 (by decide)
                refine tp_get (cy := cy) (ci := 12) (v := .int (v_73 15)) (C := RX12) (T := TX12) (N := 49) hx hb hta inlX12 hown hK hP ho.1 hf_71 rfl 40 (by decide) (hta _ wk_924) (fun _ h9 => h9) rfl dX12_drawn_120 ?_
                refine lv_if_eq (tgt := 138) hx hb dX12_drawn_123 (by decide) (fun c_84 => ?_) (fun c_84 => ?_)
                · have c_84 : (v_73 15).toInt = (0 : Int) := tl_eq c_84
                  refine lv_iconst (v := 0) hx hb dX12_drawn_138 (by decide) ?_
                  refine lv_iadd hx hb dX12_drawn_139 ?_
                  refine lv_topi (fun z_85 ez_85 => ?_)
                  try have iz_85 : z_85.toInt = v8.toInt + (0 : Int) := by rw [ez_85]; exact tl_addN v8 0 rfl rfl (by omega) (by omega)
                  refine lv_istore (lv' := [(8, .int z_85), (10, .long r_66), (9, .int v9), (6, .long r_25), (0, .ref o), (1, .int p0), (2, .int p1), (3, .int p2), (4, .int p3), (5, .int p4)]) hx hb dX12_drawn_140 hl (by decide) rfl (fun ls hl => ?_)
                  obtain ⟨z_86, ez_86⟩ : ∃ y : Int32, y = v9 + 1 := ⟨_, rfl⟩
                  refine lv_iinc (v := z_86) (lv' := [(9, .int z_86), (8, .int z_85), (10, .long r_66), (6, .long r_25), (0, .ref o), (1, .int p0), (2, .int p1), (3, .int p2), (4, .int p3), (5, .int p4)]) hx hb dX12_drawn_142 hl (k := 2) rfl (by rw [ez_86]; rfl) (by decide) rfl (fun ls hl => ?_)
                  try have iz_86 : z_86.toInt = v9.toInt + 1 := by rw [ez_86]; exact tl_addL v9 1 (by decide) (by omega) (by omega)
                  refine lv_goto (tgt := 69) hx hb dX12_drawn_145 (by decide) ?_
                  exact ih69 (f_67, Γ_69, z_86, z_85) H locs ls (by show (50 - z_86.toInt).toNat < (50 - v9.toInt).toNat; omega) ⟨(show 0 ≤ z_86.toInt ∧ z_86.toInt ≤ 50 from (by omega)), (show Γ_69 (39, 0, 0) 0 = Γ (39, 0, 0) 0 from (by omega)), hP, hI, hfr, hgr, hS, lv_sub hl [0, 1, 3, 4, 5, 6, 7, 8, 9] rfl⟩
                · have c_84 : ¬ (v_73 15).toInt = (0 : Int) := tl_neq c_84
                  refine lv_lload hx hb dX12_drawn_126 (lv_at hl 0 rfl) ?_
                  refine lv_lload hx hb dX12_drawn_128 (lv_at hl 3 rfl) ?_
                  refine W.lcmp hx hb dX12_drawn_130 ?_
                  refine lv_if_lt (tgt := 138) hx hb dX12_drawn_131 (by decide) (fun c_87 => ?_) (fun c_87 => ?_)
                  · have c_87 : r_66.toInt < r_25.toInt := tl_cmp_lt c_87
                    refine lv_iconst (v := 0) hx hb dX12_drawn_138 (by decide) ?_
                    refine lv_iadd hx hb dX12_drawn_139 ?_
                    refine lv_topi (fun z_88 ez_88 => ?_)
                    try have iz_88 : z_88.toInt = v8.toInt + (0 : Int) := by rw [ez_88]; exact tl_addN v8 0 rfl rfl (by omega) (by omega)
                    refine lv_istore (lv' := [(8, .int z_88), (10, .long r_66), (9, .int v9), (6, .long r_25), (0, .ref o), (1, .int p0), (2, .int p1), (3, .int p2), (4, .int p3), (5, .int p4)]) hx hb dX12_drawn_140 hl (by decide) rfl (fun ls hl => ?_)
                    obtain ⟨z_89, ez_89⟩ : ∃ y : Int32, y = v9 + 1 := ⟨_, rfl⟩
                    refine lv_iinc (v := z_89) (lv' := [(9, .int z_89), (8, .int z_88), (10, .long r_66), (6, .long r_25), (0, .ref o), (1, .int p0), (2, .int p1), (3, .int p2), (4, .int p3), (5, .int p4)]) hx hb dX12_drawn_142 hl (k := 2) rfl (by rw [ez_89]; rfl) (by decide) rfl (fun ls hl => ?_)
                    try have iz_89 : z_89.toInt = v9.toInt + 1 := by rw [ez_89]; exact tl_addL v9 1 (by decide) (by omega) (by omega)
                    refine lv_goto (tgt := 69) hx hb dX12_drawn_145 (by decide) ?_
                    exact ih69 (f_67, Γ_69, z_89, z_88) H locs ls (by show (50 - z_89.toInt).toNat < (50 - v9.toInt).toNat; omega) ⟨(show 0 ≤ z_89.toInt ∧ z_89.toInt ≤ 50 from (by omega)), (show Γ_69 (39, 0, 0) 0 = Γ (39, 0, 0) 0 from (by omega)), hP, hI, hfr, hgr, hS, lv_sub hl [0, 1, 3, 4, 5, 6, 7, 8, 9] rfl⟩
                  · have c_87 : r_66.toInt ≥ r_25.toInt := tl_cmp_nlt c_87
                    refine lv_iconst (v := 1) hx hb dX12_drawn_134 (by decide) ?_
                    refine lv_goto (tgt := 139) hx hb dX12_drawn_135 (by decide) ?_
                    refine lv_iadd hx hb dX12_drawn_139 ?_
                    refine lv_topi (fun z_90 ez_90 => ?_)
                    try have iz_90 : z_90.toInt = v8.toInt + (1 : Int) := by rw [ez_90]; exact tl_addN v8 1 rfl rfl (by omega) (by omega)
                    refine lv_istore (lv' := [(8, .int z_90), (10, .long r_66), (9, .int v9), (6, .long r_25), (0, .ref o), (1, .int p0), (2, .int p1), (3, .int p2), (4, .int p3), (5, .int p4)]) hx hb dX12_drawn_140 hl (by decide) rfl (fun ls hl => ?_)
                    obtain ⟨z_91, ez_91⟩ : ∃ y : Int32, y = v9 + 1 := ⟨_, rfl⟩
                    refine lv_iinc (v := z_91) (lv' := [(9, .int z_91), (8, .int z_90), (10, .long r_66), (6, .long r_25), (0, .ref o), (1, .int p0), (2, .int p1), (3, .int p2), (4, .int p3), (5, .int p4)]) hx hb dX12_drawn_142 hl (k := 2) rfl (by rw [ez_91]; rfl) (by decide) rfl (fun ls hl => ?_)
                    try have iz_91 : z_91.toInt = v9.toInt + 1 := by rw [ez_91]; exact tl_addL v9 1 (by decide) (by omega) (by omega)
                    refine lv_goto (tgt := 69) hx hb dX12_drawn_145 (by decide) ?_
                    exact ih69 (f_67, Γ_69, z_91, z_90) H locs ls (by show (50 - z_91.toInt).toNat < (50 - v9.toInt).toNat; omega) ⟨(show 0 ≤ z_91.toInt ∧ z_91.toInt ≤ 50 from (by omega)), (show Γ_69 (39, 0, 0) 0 = Γ (39, 0, 0) 0 from (by omega)), hP, hI, hfr, hgr, hS, lv_sub hl [0, 1, 3, 4, 5, 6, 7, 8, 9] rfl⟩
              · have c_51 : v10.toInt < (300 : Int) := tl_nle c_51
                refine lv_aload_n hx hb dX12_drawn_87 rfl (lv_at hl 4 rfl) ?_
                obtain ⟨r_93, v_94, q_95, hf_92, hr_96, hv_97⟩ := (show tp_o_M L K 0 0 (Γ_50 (39, 0, 0)) (f_49 o) from hI.at ho)
                refine tp_get (cy := cy) (ci := 12) (v := .ref (r_93 19)) (C := RX12) (T := TX12) (N := 49) hx hb hta inlX12 hown hK hP ho.1 hf_92 rfl 30 (by decide) (hta _ wk_169) (fun _ h9 => h9) rfl dX12_drawn_88 ?_
                refine lv_iload hx hb dX12_drawn_91 (lv_at hl 0 rfl) ?_
                refine lv_aload_n hx hb dX12_drawn_93 rfl (lv_at hl 4 rfl) ?_
                refine lv_iload_n hx hb dX12_drawn_94 rfl (lv_at hl 5 rfl) ?_
                refine lv_iload_n hx hb dX12_drawn_95 rfl (lv_at hl 7 rfl) ?_
                refine lv_iload hx hb dX12_drawn_96 (lv_at hl 0 rfl) ?_
                refine lv_iconst (v := 0) hx hb dX12_drawn_98 (by decide) ?_
                refine tq_ciR hS (hAf _ hS.1) (tq_rV (As := [.int p0, .int p2, .int v10, .int 0]) (rest := [.int v10, .ref (r_93 19)]) ⟨hx, hb, hml, hown, hta⟩ (tp_P.pre hK hN hL hU hI hP) (tp_recv hK hP ho.1 hf_92 rfl) lk_X12_385 (r_X12_makesAt l D cy H.size L K Γ_50 f_49 o p0 p2 v10 0 ho (by first | omega | assumption | (rw [hgr (42, 3, 0) (by decide), hgr (43, 8800, 0) (by decide), hgr (45, 1056, 0) (by decide), hgr (46, 22, 0) (by decide), hgr (47, 6, 0) (by decide), hgr (48, 22, 0) (by decide), hgr (49, 22, 0) (by decide), hgr (50, 22, 0) (by decide), hgr (51, 22, 0) (by decide)]; first | exact htx | assumption | omega)) (by first | omega | assumption | (rw [hgr (40, 7666, 0) (by decide)]; first | assumption | omega)) (by first | omega | assumption | (rw [hgr (42, 3, 0) (by decide)]; first | assumption | omega)) (by first | omega | (simp only [Int32.toInt_toInt64]; omega) | decide | assumption)) rfl rfl ⟨Nat.le_of_ble_eq_true rfl, Nat.le_of_ble_eq_true rfl⟩ rfl hl.1 rfl (Nat.le_of_ble_eq_true rfl) dX12_drawn_99 ⟨Nat.le_of_ble_eq_true rfl, Nat.le_of_ble_eq_true rfl⟩) (fun r_106 f_107 Γ_109 H locs hw_105 hP hI hc_108 hcg_110 hS => ?_)
                have hD : va_D A (va_pl L f_107) := tp_D hL hAL
                have hfr := tp_fr2 hfr hc_108 (by decide)
                have hgr : ∀ κ : tk_K, κ.1 ∉ ([39, 58, 57, 60, 61, 62, 63, 59] : List Nat) → Γ_109 κ = Γ κ := tg_fr2 hgr hcg_110 (by decide)
                have hw_105 : (-100000 ≤ r_106.toInt ∧ r_106.toInt ≤ 100000) ∧ Γ_109 (39, 0, 0) 0 = Γ_50 (39, 0, 0) 0 ∧ Γ_109 (39, 0, 0) 10 = Γ_50 (39, 0, 0) 10 ∧ Γ_109 (39, 0, 0) 11 = Γ_50 (39, 0, 0) 11 ∧ Γ_109 (39, 0, 0) 12 = Γ_50 (39, 0, 0) 12 ∧ Γ_109 (39, 0, 0) 13 = Γ_50 (39, 0, 0) 13 ∧ Γ_109 (39, 0, 0) 14 = Γ_50 (39, 0, 0) 14 ∧ Γ_109 (39, 0, 0) 15 = Γ_50 (39, 0, 0) 15 := hw_105
                obtain ⟨g_112, hf_111, hg_113⟩ := (show tp_gi cy (300) (Γ_109 (59, 300, 0)) (f_107 (r_93 19)) from hI.at (show tp_r L K 59 300 0 (r_93 19) from hr_96 19 (by decide)))
                have hn_114 : vp_in v10 (300) := tl_in (by omega) (by omega)
                have hj_115 : v10.toNatClampNeg = v10.toInt.toNat := rfl
                have hv_116 : r_106.toInt = r_106.toInt := rfl
                obtain ⟨Γ_117, eΓ_117⟩ : ∃ y : tk_G, y = tg Γ_109 (59, 300, 0) v10.toInt.toNat r_106.toInt := ⟨_, rfl⟩
                have hI9 : tp_I cy L K Γ_117 (va_up f_107 (r_93 19) (.inl (cy 0, 300, .inl (upd g_112 v10.toNatClampNeg r_106)))) := by have q9 : tg Γ_109 (59, 300, 0) v10.toInt.toNat r_106.toInt = tg Γ_109 (59, 300, 0) v10.toNatClampNeg r_106.toInt := (by rw [hj_115, hv_116]); rw [eΓ_117, q9]; exact hI.setg hU rfl (show tp_r L K 59 300 0 (r_93 19) from hr_96 19 (by decide)) (show tp_gi cy (300) (tgu (Γ_109 (59, 300, 0)) _ _) _ from ⟨_, rfl, tp_gi_upd hg_113⟩)
                have hfr9 : ∀ b, (K b).1 ∉ ([39, 58, 57, 60, 61, 62, 63, 59] : List Nat) → va_up f_107 (r_93 19) (.inl (cy 0, 300, .inl (upd g_112 v10.toNatClampNeg r_106))) b = f b := tp_fr hfr (show tp_r L K 59 300 0 (r_93 19) from hr_96 19 (by decide)) (by decide)
                refine tp_iast (cy := cy) hx hb hK hP hD hS (show tp_r L K 59 300 0 (r_93 19) from hr_96 19 (by decide)).1 hf_111 hn_114 dX12_drawn_102 (fun H locs hP hD hS => ?_)
                have hP : va_P D vwCl (va_pl L (va_up f_107 (r_93 19) (.inl (cy 0, 300, .inl (upd g_112 v10.toNatClampNeg r_106))))) H := hP
                generalize hfe : va_up f_107 (r_93 19) (.inl (cy 0, 300, .inl (upd g_112 v10.toNatClampNeg r_106))) = f_118 at hP hI9 hfr9
                have hD : va_D A (va_pl L f_118) := tp_D hL hAL
                have hf_119 : f_118 (r_93 19) = .inl (cy 0, 300, .inl (upd g_112 v10.toNatClampNeg r_106)) := by rw [← hfe]; exact va_up_self _ _ _
                clear hfe
                have hI := hI9
                have hfr := hfr9
                clear hI9 hfr9
                have wsΓ_117 : Γ_117 (59, 300, 0) v10.toInt.toNat = r_106.toInt := by rw [eΓ_117]; exact tg_s
                have mt_117_0 : Γ_117 (39, 0, 0) 0 = Γ_109 (39, 0, 0) 0 := by rw [eΓ_117, tg_r (by decide)]
                have hgr : ∀ κ : tk_K, κ.1 ∉ ([39, 58, 57, 60, 61, 62, 63, 59] : List Nat) → Γ_117 κ = Γ κ := tg_fr hgr eΓ_117 (by decide)
                obtain ⟨z_120, ez_120⟩ : ∃ y : Int32, y = v10 + 1 := ⟨_, rfl⟩
                refine lv_iinc (v := z_120) (lv' := [(10, .int z_120), (9, .int v9), (8, .int v8), (6, .long r_25), (0, .ref o), (1, .int p0), (2, .int p1), (3, .int p2), (4, .int p3), (5, .int p4)]) hx hb dX12_drawn_103 hl (k := 0) rfl (by rw [ez_120]; rfl) (by decide) rfl (fun ls hl => ?_)
                try have iz_120 : z_120.toInt = v10.toInt + 1 := by rw [ez_120]; exact tl_addL v10 1 (by decide) (by omega) (by omega)
                refine lv_goto (tgt := 79) hx hb dX12_drawn_106 (by decide) ?_
                exact ih79 (f_118, Γ_117, z_120) H locs ls (by show (300 - z_120.toInt).toNat < (300 - v10.toInt).toNat; omega) ⟨(show 0 ≤ z_120.toInt from (by omega)), (show z_120.toInt ≤ 300 from (by omega)), (show Γ_117 (39, 0, 0) 0 = Γ (39, 0, 0) 0 from (by omega)), hP, hI, hfr, hgr, hS, lv_sub hl [0, 1, 2, 3, 4, 5, 6, 7, 8, 9] rfl⟩
          · have c_43 : (v_32 15).toInt = (0 : Int) := tl_eq c_43
            refine lv_bipush (v := (-2)) hx hb dX12_drawn_53 (by decide) ?_
            have hpo9 : Γ_28 (39, 0, 0) 0 = Γ (39, 0, 0) 0 := (by omega)
            exact W.iret (v := (-2)) hx hb hr (fun t ht hW => ⟨⟨_, (f_26, Γ_28), rfl, hpo9, by rw [ht]; exact hP, hI, hfr, hgr⟩, hS.F ht⟩) hS.2.2 dX12_drawn_55
        · have c_23 := hw_21.f c_23
          refine lv_iconst (v := (-1)) hx hb dX12_drawn_36 (by decide) ?_
          have hpo9 : Γ (39, 0, 0) 0 = Γ (39, 0, 0) 0 := (by omega)
          exact W.iret (v := (-1)) hx hb hr (fun t ht hW => ⟨⟨_, (f, Γ), rfl, hpo9, by rw [ht]; exact hP, hI, hfr, hgr⟩, hS.F ht⟩) hS.2.2 dX12_drawn_37
theorem tl_takB {d f w x q : Int32} (ex : x = d * f) (eq : q = x / w) (hd : 1 ≤ d.toInt ∧ d.toInt ≤ 9999) (hf : 1 ≤ f.toInt ∧ f.toInt ≤ w.toInt) (hw : w.toInt ≤ 99) : 0 ≤ q.toInt ∧ q.toInt ≤ 9999 := by
  have h1 : 0 ≤ d.toInt * f.toInt := Int.mul_nonneg (by omega) (by omega)
  have h2 : d.toInt * f.toInt ≤ 9999 * w.toInt := Int.mul_le_mul hd.2 hf.2 (by omega) (by omega)
  have h3 : x.toInt = d.toInt * f.toInt := by rw [ex]; exact tl_mulN d f rfl rfl (by omega) (by omega)
  have h4 := tl_idivE eq h3 rfl h1 (by omega)
  rw [h4]
  refine ⟨Int.ediv_nonneg h1 (by omega), ?_⟩
  have h5 := Int.ediv_le_ediv (c := w.toInt) (by omega) h2
  rwa [Int.mul_ediv_cancel _ (by omega)] at h5
set_option maxHeartbeats 4000000 in
set_option maxRecDepth 100000 in
theorem r_X12_taken (l : Launch) (D : va_G) (cy : Nat → ClassId) (sz : Nat) (L : List Nat) (K : Nat → tk_K) (Γ : tk_G) (f : Nat → va_E) (o : Nat) (p0 : Int32) (p1 : Int32) (p2 : Int32) (p3 : Int32) (ho : tp_r L K 39 (0) 0 o) (htx : tx_ok (Γ (43, 8800, 0)) (Γ (45, 1056, 0)) (Γ (46, 22, 0)) (Γ (47, 6, 0)) (Γ (48, 22, 0)) (Γ (49, 22, 0)) (Γ (50, 22, 0)) (Γ (51, 22, 0)) (Γ (42, 3, 0))) (hsd : ts_said (Γ (40, 7666, 0)) (Γ (42, 3, 0) 1)) : Met l yX12_taken (tl_w yX12_taken cX12_taken 12 (some .int)) ({ frames := 7, cells := 0, slots := 0, locals := 177 }) (va_Pc [.ref o, .int p0, .int p1, .int p2, .int p3] (tp_P D cy L K Γ f sz)) (va_Qi (fun (r : Int32) (u : (Nat → va_E) × tk_G) => u.2 (39, 0, 0) 0 = Γ (39, 0, 0) 0) (tp_BG D cy L K Γ f [39, 58, 57, 60, 61, 62, 63, 59]) (tp_A L sz)) 0 0 (tp_A L sz) := by
  refine Met.ofW (cc := cX12_taken) (maxL := 12) (ret := (some .int)) (by decide) rfl ?_
  intro p e s m args below meth c s₁ B hml hv
  obtain ⟨rfl, hsz, hP, hK, hL, hI, hN, hU⟩ := hv
  have hx := B.exec
  have hb := B.bytes
  have hr := B.returns
  have hta := tl_hta (atoms_spec (ws := tl_w yX12_taken cX12_taken 12 (some .int)) B.pre)
  have hown : s.vm.findClass RX12 = some m.cls := findClass_of_methodNamed B.named
  have hlocks := B.notSynchronized
  subst hsz
  have hI0 := hI
  generalize hAe : tp_A L s.heap.size = A
  have hA : ∀ q : Nat, s.heap.size ≤ q → A q := fun q h => by rw [← hAe]; exact Or.inr h
  have hAL : ∀ q ∈ L, A q := fun q h => by rw [← hAe]; exact Or.inl h
  have hAf : ∀ (H : Heap), s.heap.size ≤ H.size → ∀ q, tp_A L H.size q → A q := fun H h q hq => hq.elim (hAL q) (fun h2 => hA q (Nat.le_trans h h2))
  have hS : va_S A s.heap s.heap [] := va_S.rf
  have hD : va_D A (va_pl L f) := tp_D hL hAL
  have hfr : ∀ b, (K b).1 ∉ ([39, 58, 57, 60, 61, 62, 63, 59] : List Nat) → f b = f b := fun _ _ => rfl
  have hgr : ∀ κ : tk_K, κ.1 ∉ ([39, 58, 57, 60, 61, 62, 63, 59] : List Nat) → Γ κ = Γ κ := fun _ _ => rfl
  have hl := lv_entry ([.ref o, .int p0, .int p1, .int p2, .int p3]) (n := 12) (Nat.le_of_ble_eq_true rfl)
  rw [lg_entry_eq]
  generalize (lg_sl ([.ref o, .int p0, .int p1, .int p2, .int p3]) ++ List.replicate (12 - (lg_sl ([.ref o, .int p0, .int p1, .int p2, .int p3])).length) Slot.unset).toArray = ls at hl ⊢
  have hl : lv_has ls 12 [(0, .ref o), (1, .int p0), (2, .int p1), (3, .int p2), (4, .int p3)] := hl
  have hs := ts_hs hsd
  have hraw := ts_raw hsd
  have hslp := ts_slp hsd
  have htb := htx.1
  refine lv_aload_n hx hb dX12_taken_0 rfl (lv_at hl 0 rfl) ?_
  refine lv_iload_n hx hb dX12_taken_1 rfl (lv_at hl 1 rfl) ?_
  refine lv_iload_n hx hb dX12_taken_2 rfl (lv_at hl 2 rfl) ?_
  obtain ⟨r_2, v_3, q_4, hf_1, hr_5, hv_6⟩ := (show tp_o_M L K 0 0 (Γ (39, 0, 0)) (f o) from hI.at ho)
  refine tl_si (tq_rV (As := [.int p0, .int p1]) (rest := []) ⟨hx, hb, hml, hown, hta⟩ (tp_P.pre hK hN hL hU hI hP) (tp_recv hK hP ho.1 hf_1 rfl) lk_X12_447 (r_X12_canAsk l D cy s.heap.size L K Γ f o p0 p1 ho) rfl rfl ⟨Nat.le_of_ble_eq_true rfl, Nat.le_of_ble_eq_true rfl⟩ rfl hl.1 rfl (Nat.le_of_ble_eq_true rfl) dX12_taken_3 ⟨Nat.le_of_ble_eq_true rfl, Nat.le_of_ble_eq_true rfl⟩) (fun r_15 hw_14 => ?_)
  have hw_14 : tl_E r_15 ((0 ≤ p0.toInt ∧ p0.toInt < Γ (42, 3, 0) 1) ∧ 0 ≤ p1.toInt ∧ p1.toInt < Γ (40, 7666, 0) 1) 1 0 := hw_14
  refine lv_if_eq (tgt := 34) hx hb dX12_taken_6 (by decide) (fun c_16 => ?_) (fun c_16 => ?_)
  · have c_16 := hw_14.f c_16
    refine lv_ldc (v := (-2000000)) hx hb hown (hta _ wk_248) dX12_taken_34 ?_
    have hpo9 : Γ (39, 0, 0) 0 = Γ (39, 0, 0) 0 := (by omega)
    exact W.iret (v := (-2000000)) hx hb hr (fun t ht hW => ⟨⟨_, (f, Γ), rfl, hpo9, by rw [ht]; exact hP, hI, hfr, hgr⟩, hS.F ht⟩) hS.2.2 dX12_taken_36
  · have c_16 := hw_14.t c_16
    refine lv_iload_n hx hb dX12_taken_9 rfl (lv_at hl 3 rfl) ?_
    refine lv_i2l (v := p2.toInt64) hx hb dX12_taken_10 (by first | rfl | decide) ?_
    refine lv_lconst (v := 1) hx hb dX12_taken_11 (by decide) ?_
    refine lv_ldc2 (v := 9999) hx hb hown (hta _ wk_302) dX12_taken_12 ?_
    refine tl_si (tq_rS (As := [.long p2.toInt64, .long 1, .long 9999]) (rest := []) ⟨hx, hb, hml, hown, hta⟩ (tp_P.pre hK hN hL hU hI hP) lk_X12_112 (r_X12_in l D cy s.heap.size L K Γ f p2.toInt64 1 9999 ) rfl rfl ⟨Nat.le_of_ble_eq_true rfl, Nat.le_of_ble_eq_true rfl⟩ rfl hl.1 rfl (Nat.le_of_ble_eq_true rfl) dX12_taken_15 ⟨Nat.le_of_ble_eq_true rfl, Nat.le_of_ble_eq_true rfl⟩) (fun r_18 hw_17 => ?_)
    simp only [Int32.toInt_toInt64] at hw_17
    have hw_17 : tl_E r_18 ((1 : Int) ≤ p2.toInt ∧ p2.toInt ≤ (9999 : Int)) 1 0 := hw_17
    refine lv_if_eq (tgt := 34) hx hb dX12_taken_18 (by decide) (fun c_19 => ?_) (fun c_19 => ?_)
    · have c_19 := hw_17.f c_19
      refine lv_ldc (v := (-2000000)) hx hb hown (hta _ wk_248) dX12_taken_34 ?_
      have hpo9 : Γ (39, 0, 0) 0 = Γ (39, 0, 0) 0 := (by omega)
      exact W.iret (v := (-2000000)) hx hb hr (fun t ht hW => ⟨⟨_, (f, Γ), rfl, hpo9, by rw [ht]; exact hP, hI, hfr, hgr⟩, hS.F ht⟩) hS.2.2 dX12_taken_36
    · have c_19 := hw_17.t c_19
      refine lv_iload hx hb dX12_taken_21 (lv_at hl 4 rfl) ?_
      refine lv_i2l (v := p3.toInt64) hx hb dX12_taken_23 (by first | rfl | decide) ?_
      refine lv_lconst (v := 1) hx hb dX12_taken_24 (by decide) ?_
      refine lv_ldc2 (v := 99) hx hb hown (hta _ wk_1077) dX12_taken_25 ?_
      refine tl_si (tq_rS (As := [.long p3.toInt64, .long 1, .long 99]) (rest := []) ⟨hx, hb, hml, hown, hta⟩ (tp_P.pre hK hN hL hU hI hP) lk_X12_112 (r_X12_in l D cy s.heap.size L K Γ f p3.toInt64 1 99 ) rfl rfl ⟨Nat.le_of_ble_eq_true rfl, Nat.le_of_ble_eq_true rfl⟩ rfl hl.1 rfl (Nat.le_of_ble_eq_true rfl) dX12_taken_28 ⟨Nat.le_of_ble_eq_true rfl, Nat.le_of_ble_eq_true rfl⟩) (fun r_21 hw_20 => ?_)
      simp only [Int32.toInt_toInt64] at hw_20
      have hw_20 : tl_E r_21 ((1 : Int) ≤ p3.toInt ∧ p3.toInt ≤ (99 : Int)) 1 0 := hw_20
      refine lv_if_ne (tgt := 37) hx hb dX12_taken_31 (by decide) (fun c_22 => ?_) (fun c_22 => ?_)
      · have c_22 := hw_20.t c_22
        obtain ⟨hnc, htst, _, _, hbd, hgp, hwi⟩ := htx.2 (6 + p0.toInt) (by omega)
        refine lv_aload_n hx hb dX12_taken_37 rfl (lv_at hl 0 rfl) ?_
        refine lv_iload_n hx hb dX12_taken_38 rfl (lv_at hl 1 rfl) ?_
        refine lv_iload_n hx hb dX12_taken_39 rfl (lv_at hl 2 rfl) ?_
        refine tq_clR hS (hAf _ hS.1) (tq_rV (As := [.int p0, .int p1]) (rest := []) ⟨hx, hb, hml, hown, hta⟩ (tp_P.pre hK hN hL hU hI hP) (tp_recv hK hP ho.1 hf_1 rfl) lk_X12_450 (r_X12_scoreOf l D cy s.heap.size L K Γ f o p0 p1 ho (by first | omega | (simp only [Int32.toInt_toInt64]; omega) | decide | assumption) (by first | omega | (simp only [Int32.toInt_toInt64]; omega) | decide | assumption) (by first | omega | (simp only [Int32.toInt_toInt64]; omega) | decide | assumption) (by first | omega | (simp only [Int32.toInt_toInt64]; omega) | decide | assumption)) rfl rfl ⟨Nat.le_of_ble_eq_true rfl, Nat.le_of_ble_eq_true rfl⟩ rfl hl.1 rfl (Nat.le_of_ble_eq_true rfl) dX12_taken_40 ⟨Nat.le_of_ble_eq_true rfl, Nat.le_of_ble_eq_true rfl⟩) (fun r_24 f_25 Γ_27 H locs hw_23 hP hI hc_26 hcg_28 hS => ?_)
        have hD : va_D A (va_pl L f_25) := tp_D hL hAL
        have hfr := tp_fr2 hfr hc_26 (by decide)
        have hgr : ∀ κ : tk_K, κ.1 ∉ ([39, 58, 57, 60, 61, 62, 63, 59] : List Nat) → Γ_27 κ = Γ κ := tg_fr2 hgr hcg_28 (by decide)
        have hw_23 : Γ_27 (39, 0, 0) 0 = Γ (39, 0, 0) 0 ∧ (0 ≤ Γ_27 (39, 0, 0) 11 ∧ Γ_27 (39, 0, 0) 12 ≤ 299) ∧ (Γ_27 (39, 0, 0) 11 = Γ (49, 22, 0) (6 + p0.toInt).toNat ∧ Γ_27 (39, 0, 0) 12 = Γ (50, 22, 0) (6 + p0.toInt).toNat) ∧ (Γ_27 (39, 0, 0) 15 = 0 ∨ Γ_27 (39, 0, 0) 15 = 1) ∧ (0 ≤ Γ_27 (39, 0, 0) 13 ∧ Γ_27 (39, 0, 0) 13 ≤ 42) ∧ (0 < Γ_27 (39, 0, 0) 13 → 0 < Γ_27 (39, 0, 0) 10) ∧ (Γ_27 (39, 0, 0) 15 = 1 → 0 < Γ_27 (39, 0, 0) 13 ∧ 0 < Γ_27 (39, 0, 0) 14) ∧ (Γ_27 (39, 0, 0) 15 = 1 → gex (Γ_27 (59, 300, 0)) (Γ (49, 22, 0) (6 + p0.toInt).toNat) (Γ (50, 22, 0) (6 + p0.toInt).toNat + 1)) ∧ (∀ j : Nat, (j : Int) < Γ_27 (39, 0, 0) 13 → 0 ≤ Γ_27 (61, 42, 0) j ∧ Γ_27 (61, 42, 0) j ≤ 299) ∧ (∀ j : Nat, (j : Int) + 1 < Γ_27 (39, 0, 0) 13 → Γ_27 (61, 42, 0) j < Γ_27 (61, 42, 0) (j + 1)) ∧ (∀ j : Nat, j < 300 → (Γ_27 (59, 300, 0) j = -1000000 ∨ (-500000 ≤ Γ_27 (59, 300, 0) j ∧ Γ_27 (59, 300, 0) j ≤ 500000))) := hw_23
        obtain ⟨hq0, hqb, hq11, hq15, hq13, hq10, hqd, hqg, hqk, hqr, hql⟩ := hw_23
        refine lv_pop2_2 hx hb dX12_taken_43 rfl ?_
        refine lv_aload_n hx hb dX12_taken_44 rfl (lv_at hl 0 rfl) ?_
        obtain ⟨r_30, v_31, q_32, hf_29, hr_33, hv_34⟩ := (show tp_o_M L K 0 0 (Γ_27 (39, 0, 0)) (f_25 o) from hI.at ho)
        have hx_41 : (v_31 15).toInt = Γ_27 (39, 0, 0) 15 := hv_34 15 (by decide)
        refine tp_get (cy := cy) (ci := 12) (v := .int (v_31 15)) (C := RX12) (T := TX12) (N := 49) hx hb hta inlX12 hown hK hP ho.1 hf_29 rfl 40 (by decide) (hta _ wk_924) (fun _ h9 => h9) rfl dX12_taken_45 ?_
        refine lv_if_ne (tgt := 54) hx hb dX12_taken_48 (by decide) (fun c_42 => ?_) (fun c_42 => ?_)
        · have c_42 : ¬ (v_31 15).toInt = (0 : Int) := tl_neq c_42
          refine lv_aload_n hx hb dX12_taken_54 rfl (lv_at hl 0 rfl) ?_
          refine tq_clR hS (hAf _ hS.1) (tq_rV (As := []) (rest := []) ⟨hx, hb, hml, hown, hta⟩ (tp_P.pre hK hN hL hU hI hP) (tp_recv hK hP ho.1 hf_29 rfl) lk_X12_431 (r_X12_deepNow l D cy H.size L K Γ_27 f_25 o ho (by first | omega | (simp only [Int32.toInt_toInt64]; omega) | decide | assumption)) rfl rfl ⟨Nat.le_of_ble_eq_true rfl, Nat.le_of_ble_eq_true rfl⟩ rfl hl.1 rfl (Nat.le_of_ble_eq_true rfl) dX12_taken_55 ⟨Nat.le_of_ble_eq_true rfl, Nat.le_of_ble_eq_true rfl⟩) (fun r_44 f_45 Γ_47 H locs hw_43 hP hI hc_46 hcg_48 hS => ?_)
          have hD : va_D A (va_pl L f_45) := tp_D hL hAL
          have hfr := tp_fr2 hfr hc_46 (by decide)
          have hgr : ∀ κ : tk_K, κ.1 ∉ ([39, 58, 57, 60, 61, 62, 63, 59] : List Nat) → Γ_47 κ = Γ κ := tg_fr2 hgr hcg_48 (by decide)
          have hw_43 : 0 ≤ Γ_47 (39, 0, 0) 14 ∧ (0 < Γ_47 (39, 0, 0) 14 ↔ gex (Γ_27 (59, 300, 0)) (Γ_27 (39, 0, 0) 11) (Γ_27 (39, 0, 0) 12 + 1)) ∧ Γ_47 (39, 0, 0) 0 = Γ_27 (39, 0, 0) 0 ∧ Γ_47 (39, 0, 0) 10 = Γ_27 (39, 0, 0) 10 ∧ Γ_47 (39, 0, 0) 11 = Γ_27 (39, 0, 0) 11 ∧ Γ_47 (39, 0, 0) 12 = Γ_27 (39, 0, 0) 12 ∧ Γ_47 (39, 0, 0) 13 = Γ_27 (39, 0, 0) 13 ∧ Γ_47 (39, 0, 0) 15 = Γ_27 (39, 0, 0) 15 := hw_43
          have hdn := hw_43
          have htg : 0 < Γ_47 (39, 0, 0) 14 := hdn.2.1.mpr (by have q9 := hqg (by omega); rw [show Γ_27 (39, 0, 0) 11 = Γ (49, 22, 0) (6 + p0.toInt).toNat from by omega, show Γ_27 (39, 0, 0) 12 = Γ (50, 22, 0) (6 + p0.toInt).toNat from by omega]; exact q9)
          have hge9 : gex (Γ_47 (59, 300, 0)) (Γ (49, 22, 0) (6 + p0.toInt).toNat) (Γ (50, 22, 0) (6 + p0.toInt).toNat + 1) := by rw [hcg_48 (59, 300, 0) (by decide)]; exact hqg (by omega)
          have hlb9 : ∀ j : Nat, j < 300 → (Γ_47 (59, 300, 0) j = -1000000 ∨ (-500000 ≤ Γ_47 (59, 300, 0) j ∧ Γ_47 (59, 300, 0) j ≤ 500000)) := fun j q => by rw [hcg_48 (59, 300, 0) (by decide)]; exact hql j q
          refine lv_lstore (lv' := [(5, .long r_44), (0, .ref o), (1, .int p0), (2, .int p1), (3, .int p2), (4, .int p3)]) hx hb dX12_taken_58 hl (by decide) rfl (fun ls hl => ?_)
          refine lv_lconst (v := 0) hx hb dX12_taken_60 (by decide) ?_
          refine lv_lstore (lv' := [(7, .long 0), (5, .long r_44), (0, .ref o), (1, .int p0), (2, .int p1), (3, .int p2), (4, .int p3)]) hx hb dX12_taken_61 hl (by decide) rfl (fun ls hl => ?_)
          refine lv_aload_n hx hb dX12_taken_63 rfl (lv_at hl 2 rfl) ?_
          obtain ⟨r_50, v_51, q_52, hf_49, hr_53, hv_54⟩ := (show tp_o_M L K 0 0 (Γ_47 (39, 0, 0)) (f_45 o) from hI.at ho)
          have hx_57 : (v_51 11).toInt = Γ_47 (39, 0, 0) 11 := hv_54 11 (by decide)
          have hx_58 : (v_51 12).toInt = Γ_47 (39, 0, 0) 12 := hv_54 12 (by decide)
          refine tp_get (cy := cy) (ci := 12) (v := .int (v_51 11)) (C := RX12) (T := TX12) (N := 49) hx hb hta inlX12 hown hK hP ho.1 hf_49 rfl 33 (by decide) (hta _ wk_931) (fun _ h9 => h9) rfl dX12_taken_64 ?_
          refine lv_aload_n hx hb dX12_taken_67 rfl (lv_at hl 2 rfl) ?_
          refine tp_get (cy := cy) (ci := 12) (v := .int (v_51 12)) (C := RX12) (T := TX12) (N := 49) hx hb hta inlX12 hown hK hP ho.1 hf_49 rfl 34 (by decide) (hta _ wk_932) (fun _ h9 => h9) rfl dX12_taken_68 ?_
          refine lv_iadd hx hb dX12_taken_71 ?_
          refine lv_topi (fun z_62 ez_62 => ?_)
          try have iz_62 : z_62.toInt = (v_51 11).toInt + (v_51 12).toInt := by rw [ez_62]; exact tl_addN (v_51 11) (v_51 12) rfl rfl (by omega) (by omega)
          refine lv_iconst (v := 2) hx hb dX12_taken_72 (by decide) ?_
          refine lv_idiv hx hb dX12_taken_73 (by decide) ?_
          refine lv_topi (fun z_63 ez_63 => ?_)
          have iz_63 := tl_idivB (B := 299) ez_63 (by omega) (by decide) (by have l9 : (2 : Int32).toInt = 2 := rfl; omega)
          refine lv_istore (lv' := [(9, .int z_63), (7, .long 0), (5, .long r_44), (0, .ref o), (1, .int p0), (2, .int p1), (3, .int p2), (4, .int p3)]) hx hb dX12_taken_74 hl (by decide) rfl (fun ls hl => ?_)
          refine lv_iconst (v := 0) hx hb dX12_taken_76 (by decide) ?_
          refine lv_istore (lv' := [(10, .int 0), (9, .int z_63), (7, .long 0), (5, .long r_44), (0, .ref o), (1, .int p0), (2, .int p1), (3, .int p2), (4, .int p3)]) hx hb dX12_taken_77 hl (by decide) rfl (fun ls hl => ?_)
          refine tl_ind (G := fun H locs ls => W p l e ((headSpec (tl_w yX12_taken cX12_taken 12 (some .int)) ({ frames := 7, cells := 0, slots := 0, locals := 177 })).room) s m #[.ref o, .int p0, .int p1, .int p2, .int p3] below meth c H locs 0 0 (MQ below (va_Qi (fun (r : Int32) (u : (Nat → va_E) × tk_G) => u.2 (39, 0, 0) 0 = Γ (39, 0, 0) 0) (tp_BG D cy L K Γ f [39, 58, 57, 60, 61, 62, 63, 59]) A) #[.ref o, .int p0, .int p1, .int p2, .int p3] s 0 0 A) (F0 m 79 ls [])) (α := (Nat → va_E) × tk_G × Int32 × Int64) (fun aq => (300 - aq.2.2.1.toInt).toNat) (fun aq H locs ls => (0 ≤ aq.2.2.1.toInt) ∧ (aq.2.2.1.toInt ≤ 300) ∧ (∀ j : Nat, j < 300 → ¬ Γ_47 (59, 300, 0) j = -1000000 → ¬ aq.2.1 (59, 300, 0) j = -1000000) ∧ (∀ j : Nat, aq.2.2.1.toInt ≤ (j : Int) → aq.2.1 (59, 300, 0) j = Γ_47 (59, 300, 0) j) ∧ (aq.2.1 (39, 0, 0) 0 = Γ_47 (39, 0, 0) 0) ∧ (aq.2.1 (39, 0, 0) 11 = Γ_47 (39, 0, 0) 11) ∧ (aq.2.1 (39, 0, 0) 12 = Γ_47 (39, 0, 0) 12) ∧ (aq.2.1 (39, 0, 0) 14 = Γ_47 (39, 0, 0) 14) ∧ va_P D vwCl (va_pl L aq.1) H ∧ tp_I cy L K aq.2.1 aq.1 ∧ (∀ b, (K b).1 ∉ ([39, 58, 57, 60, 61, 62, 63, 59] : List Nat) → aq.1 b = f b) ∧ (∀ κ : tk_K, κ.1 ∉ ([39, 58, 57, 60, 61, 62, 63, 59] : List Nat) → aq.2.1 κ = Γ κ) ∧ va_S A s.heap H locs ∧ lv_has ls 12 [(10, .int aq.2.2.1), (9, .int z_63), (7, .long aq.2.2.2), (5, .long r_44), (0, .ref o), (1, .int p0), (2, .int p1), (3, .int p2), (4, .int p3)]) ?_ (f_45, Γ_47, (0 : Int32), (0 : Int64)) H locs ls ⟨(show 0 ≤ (0 : Int) from (by omega)), (show (0 : Int) ≤ 300 from (by omega)), (show ∀ j : Nat, j < 300 → ¬ Γ_47 (59, 300, 0) j = -1000000 → ¬ Γ_47 (59, 300, 0) j = -1000000 from (fun _ _ q => q)), (show ∀ j : Nat, (0 : Int) ≤ (j : Int) → Γ_47 (59, 300, 0) j = Γ_47 (59, 300, 0) j from (fun _ _ => rfl)), (show Γ_47 (39, 0, 0) 0 = Γ_47 (39, 0, 0) 0 from (by omega)), (show Γ_47 (39, 0, 0) 11 = Γ_47 (39, 0, 0) 11 from (by omega)), (show Γ_47 (39, 0, 0) 12 = Γ_47 (39, 0, 0) 12 from (by omega)), (show Γ_47 (39, 0, 0) 14 = Γ_47 (39, 0, 0) 14 from (by omega)), hP, hI, hfr, hgr, hS, lv_sub hl [0, 1, 2, 3, 4, 5, 6, 7, 8] rfl⟩
          rintro ⟨f_64, Γ_65, v10, v7⟩ H locs ls ⟨h0, h1, hl1, hl2, j0, j11, j12, j14, hP, hI, hfr, hgr, hS, hl⟩ ih79
          have hgr : ∀ κ : tk_K, κ.1 ∉ ([39, 58, 57, 60, 61, 62, 63, 59] : List Nat) → Γ_65 κ = Γ κ := hgr
          have hP : va_P D vwCl (va_pl L f_64) H := hP
          have hI : tp_I cy L K Γ_65 f_64 := hI
          have hfr : ∀ b, (K b).1 ∉ ([39, 58, 57, 60, 61, 62, 63, 59] : List Nat) → f_64 b = f b := hfr
          have hD : va_D A (va_pl L f_64) := tp_D hL hAL
          have h0 : 0 ≤ v10.toInt := h0
          have h1 : v10.toInt ≤ 300 := h1
          have hl1 : ∀ j : Nat, j < 300 → ¬ Γ_47 (59, 300, 0) j = -1000000 → ¬ Γ_65 (59, 300, 0) j = -1000000 := hl1
          have hl2 : ∀ j : Nat, v10.toInt ≤ (j : Int) → Γ_65 (59, 300, 0) j = Γ_47 (59, 300, 0) j := hl2
          have j0 : Γ_65 (39, 0, 0) 0 = Γ_47 (39, 0, 0) 0 := j0
          have j11 : Γ_65 (39, 0, 0) 11 = Γ_47 (39, 0, 0) 11 := j11
          have j12 : Γ_65 (39, 0, 0) 12 = Γ_47 (39, 0, 0) 12 := j12
          have j14 : Γ_65 (39, 0, 0) 14 = Γ_47 (39, 0, 0) 14 := j14
          have hl : lv_has ls 12 [(10, .int v10), (9, .int z_63), (7, .long v7), (5, .long r_44), (0, .ref o), (1, .int p0), (2, .int p1), (3, .int p2), (4, .int p3)] := hl
          refine lv_iload hx hb dX12_taken_79 (lv_at hl 0 rfl) ?_
          refine lv_sipush (v := 300) hx hb dX12_taken_81 (by decide) ?_
          refine lv_icmp_ge (tgt := 195) hx hb dX12_taken_84 (by decide) (fun c_66 => ?_) (fun c_66 => ?_)
          · have c_66 : (300 : Int) ≤ v10.toInt := tl_le c_66
            refine lv_aload_n hx hb dX12_taken_195 rfl (lv_at hl 4 rfl) ?_
            refine lv_iload_n hx hb dX12_taken_196 rfl (lv_at hl 5 rfl) ?_
            refine lv_iload_n hx hb dX12_taken_197 rfl (lv_at hl 6 rfl) ?_
            have hgrA := hgr
            obtain ⟨r_68, v_69, q_70, hf_67, hr_71, hv_72⟩ := (show tp_o_M L K 0 0 (Γ_65 (39, 0, 0)) (f_64 o) from hI.at ho)
            refine tq_clR hS (hAf _ hS.1) (tq_rV (As := [.int p0, .int p1]) (rest := []) ⟨hx, hb, hml, hown, hta⟩ (tp_P.pre hK hN hL hU hI hP) (tp_recv hK hP ho.1 hf_67 rfl) lk_X12_444 (r_X12_own l D cy H.size L K Γ_65 f_64 o p0 p1 ho (by first | omega | assumption | (rw [hgr (42, 3, 0) (by decide), hgr (43, 8800, 0) (by decide), hgr (45, 1056, 0) (by decide), hgr (46, 22, 0) (by decide), hgr (47, 6, 0) (by decide), hgr (48, 22, 0) (by decide), hgr (49, 22, 0) (by decide), hgr (50, 22, 0) (by decide), hgr (51, 22, 0) (by decide)]; first | exact htx | assumption | omega)) (by first | omega | assumption | (rw [hgr (42, 3, 0) (by decide)]; first | assumption | omega)) (by first | omega | (simp only [Int32.toInt_toInt64]; omega) | decide | assumption)) rfl rfl ⟨Nat.le_of_ble_eq_true rfl, Nat.le_of_ble_eq_true rfl⟩ rfl hl.1 rfl (Nat.le_of_ble_eq_true rfl) dX12_taken_198 ⟨Nat.le_of_ble_eq_true rfl, Nat.le_of_ble_eq_true rfl⟩) (fun r_81 f_82 Γ_84 H locs hw_80 hP hI hc_83 hcg_85 hS => ?_)
            have hD : va_D A (va_pl L f_82) := tp_D hL hAL
            have hfr := tp_fr2 hfr hc_83 (by decide)
            have hgr : ∀ κ : tk_K, κ.1 ∉ ([39, 58, 57, 60, 61, 62, 63, 59] : List Nat) → Γ_84 κ = Γ κ := tg_fr2 hgr hcg_85 (by decide)
            have hw_80 : Γ_84 (39, 0, 0) 0 = Γ_65 (39, 0, 0) 0 ∧ (gex (Γ_65 (59, 300, 0)) (Γ_65 (49, 22, 0) (6 + p0.toInt).toNat) (Γ_65 (50, 22, 0) (6 + p0.toInt).toNat + 1) → 0 < Γ_65 (39, 0, 0) 14 → 0 < Γ_84 (39, 0, 0) 14) ∧ (Γ_84 (39, 0, 0) 11 = Γ_65 (49, 22, 0) (6 + p0.toInt).toNat ∧ Γ_84 (39, 0, 0) 12 = Γ_65 (50, 22, 0) (6 + p0.toInt).toNat) ∧ (Γ_84 (39, 0, 0) 15 = 0 ∨ Γ_84 (39, 0, 0) 15 = 1) ∧ (0 ≤ Γ_84 (39, 0, 0) 13 ∧ Γ_84 (39, 0, 0) 13 ≤ 42) ∧ (0 < Γ_84 (39, 0, 0) 13 → 0 < Γ_84 (39, 0, 0) 10) ∧ (Γ_84 (39, 0, 0) 15 = 1 → 0 < Γ_84 (39, 0, 0) 13 ∧ 0 < Γ_84 (39, 0, 0) 14) ∧ (Γ_84 (39, 0, 0) 15 = 1 → gex (Γ_65 (59, 300, 0)) (Γ_65 (49, 22, 0) (6 + p0.toInt).toNat) (Γ_65 (50, 22, 0) (6 + p0.toInt).toNat + 1)) ∧ (∀ j : Nat, (j : Int) < Γ_84 (39, 0, 0) 13 → 0 ≤ Γ_84 (61, 42, 0) j ∧ Γ_84 (61, 42, 0) j ≤ 299) ∧ (∀ j : Nat, (j : Int) + 1 < Γ_84 (39, 0, 0) 13 → Γ_84 (61, 42, 0) j < Γ_84 (61, 42, 0) (j + 1)) := hw_80
            have how := hw_80
            have htg2 : 0 < Γ_84 (39, 0, 0) 14 := how.2.1 (by rw [hgrA (49, 22, 0) (by decide), hgrA (50, 22, 0) (by decide)]; obtain ⟨c9, q9, q8, q7⟩ := hge9; exact ⟨c9, q9, q8, hl1 c9 (by omega) q7⟩) (by omega)
            have hq11 := how.2.2.1; rw [hgrA (49, 22, 0) (by decide), hgrA (50, 22, 0) (by decide)] at hq11
            refine lv_pop2_2 hx hb dX12_taken_201 rfl ?_
            refine lv_lload hx hb dX12_taken_202 (lv_at hl 2 rfl) ?_
            refine lv_aload_n hx hb dX12_taken_204 rfl (lv_at hl 4 rfl) ?_
            obtain ⟨r_87, v_88, q_89, hf_86, hr_90, hv_91⟩ := (show tp_o_M L K 0 0 (Γ_84 (39, 0, 0)) (f_82 o) from hI.at ho)
            have hx_97 : (v_88 14).toInt = Γ_84 (39, 0, 0) 14 := hv_91 14 (by decide)
            refine tp_get (cy := cy) (ci := 12) (v := .int (v_88 14)) (C := RX12) (T := TX12) (N := 49) hx hb hta inlX12 hown hK hP ho.1 hf_86 rfl 39 (by decide) (hta _ wk_926) (fun _ h9 => h9) rfl dX12_taken_205 ?_
            refine lv_i2l (v := (v_88 14).toInt64) hx hb dX12_taken_208 (by first | rfl | decide) ?_
            refine lv_ldiv hx hb dX12_taken_209 (tl_ne0LI (by omega)) ?_
            refine lv_topl (fun z_99 ez_99 => ?_)
            refine lv_aload_n hx hb dX12_taken_210 rfl (lv_at hl 4 rfl) ?_
            refine tq_clR hS (hAf _ hS.1) (tq_rV (As := []) (rest := [.long z_99]) ⟨hx, hb, hml, hown, hta⟩ (tp_P.pre hK hN hL hU hI hP) (tp_recv hK hP ho.1 hf_86 rfl) lk_X12_431 (r_X12_deepNow l D cy H.size L K Γ_84 f_82 o ho (by first | omega | (simp only [Int32.toInt_toInt64]; omega) | decide | assumption)) rfl rfl ⟨Nat.le_of_ble_eq_true rfl, Nat.le_of_ble_eq_true rfl⟩ rfl hl.1 rfl (Nat.le_of_ble_eq_true rfl) dX12_taken_211 ⟨Nat.le_of_ble_eq_true rfl, Nat.le_of_ble_eq_true rfl⟩) (fun r_101 f_102 Γ_104 H locs hw_100 hP hI hc_103 hcg_105 hS => ?_)
            have hD : va_D A (va_pl L f_102) := tp_D hL hAL
            have hfr := tp_fr2 hfr hc_103 (by decide)
            have hgr : ∀ κ : tk_K, κ.1 ∉ ([39, 58, 57, 60, 61, 62, 63, 59] : List Nat) → Γ_104 κ = Γ κ := tg_fr2 hgr hcg_105 (by decide)
            have hw_100 : 0 ≤ Γ_104 (39, 0, 0) 14 ∧ (0 < Γ_104 (39, 0, 0) 14 ↔ gex (Γ_84 (59, 300, 0)) (Γ_84 (39, 0, 0) 11) (Γ_84 (39, 0, 0) 12 + 1)) ∧ Γ_104 (39, 0, 0) 0 = Γ_84 (39, 0, 0) 0 ∧ Γ_104 (39, 0, 0) 10 = Γ_84 (39, 0, 0) 10 ∧ Γ_104 (39, 0, 0) 11 = Γ_84 (39, 0, 0) 11 ∧ Γ_104 (39, 0, 0) 12 = Γ_84 (39, 0, 0) 12 ∧ Γ_104 (39, 0, 0) 13 = Γ_84 (39, 0, 0) 13 ∧ Γ_104 (39, 0, 0) 15 = Γ_84 (39, 0, 0) 15 := hw_100
            refine lv_lload hx hb dX12_taken_214 (lv_at hl 3 rfl) ?_
            refine lv_lsub hx hb dX12_taken_216 ?_
            refine lv_topl (fun z_106 ez_106 => ?_)
            refine lv_lsub hx hb dX12_taken_217 ?_
            refine lv_topl (fun z_107 ez_107 => ?_)
            refine lv_l2i hx hb dX12_taken_218 rfl ?_
            refine lv_topi (fun z_108 ez_108 => ?_)
            have hpo9 : Γ_104 (39, 0, 0) 0 = Γ (39, 0, 0) 0 := (by omega)
            exact W.iret (v := z_108) hx hb hr (fun t ht hW => ⟨⟨_, (f_102, Γ_104), rfl, hpo9, by rw [ht]; exact hP, hI, hfr, hgr⟩, hS.F ht⟩) hS.2.2 dX12_taken_219
          · have c_66 : v10.toInt < (300 : Int) := tl_nle c_66
            refine lv_iload hx hb dX12_taken_87 (lv_at hl 0 rfl) ?_
            refine lv_iload hx hb dX12_taken_89 (lv_at hl 1 rfl) ?_
            refine lv_icmp_ge (tgt := 102) hx hb dX12_taken_91 (by decide) (fun c_109 => ?_) (fun c_109 => ?_)
            · have c_109 : z_63.toInt ≤ v10.toInt := tl_le c_109
              refine lv_iload hx hb dX12_taken_102 (lv_at hl 0 rfl) ?_
              refine lv_iload hx hb dX12_taken_104 (lv_at hl 1 rfl) ?_
              refine lv_isub hx hb dX12_taken_106 ?_
              refine lv_topi (fun z_110 ez_110 => ?_)
              try have iz_110 : z_110.toInt = v10.toInt - z_63.toInt := by rw [ez_110]; exact tl_subN v10 z_63 rfl rfl (by omega) (by omega)
              refine lv_istore (lv' := [(11, .int z_110), (10, .int v10), (9, .int z_63), (7, .long v7), (5, .long r_44), (0, .ref o), (1, .int p0), (2, .int p1), (3, .int p2), (4, .int p3)]) hx hb dX12_taken_107 hl (by decide) rfl (fun ls hl => ?_)
              refine lv_aload_n hx hb dX12_taken_109 rfl (lv_at hl 5 rfl) ?_
              obtain ⟨r_112, v_113, q_114, hf_111, hr_115, hv_116⟩ := (show tp_o_M L K 0 0 (Γ_65 (39, 0, 0)) (f_64 o) from hI.at ho)
              have hx_117 : (v_113 0).toInt = Γ_65 (39, 0, 0) 0 := hv_116 0 (by decide)
              have hx_118 : (v_113 10).toInt = Γ_65 (39, 0, 0) 10 := hv_116 10 (by decide)
              have hx_119 : (v_113 11).toInt = Γ_65 (39, 0, 0) 11 := hv_116 11 (by decide)
              have hx_120 : (v_113 12).toInt = Γ_65 (39, 0, 0) 12 := hv_116 12 (by decide)
              have hx_121 : (v_113 13).toInt = Γ_65 (39, 0, 0) 13 := hv_116 13 (by decide)
              have hx_122 : (v_113 14).toInt = Γ_65 (39, 0, 0) 14 := hv_116 14 (by decide)
              have hx_123 : (v_113 15).toInt = Γ_65 (39, 0, 0) 15 := hv_116 15 (by decide)
              refine tp_get (cy := cy) (ci := 12) (v := .ref (r_112 19)) (C := RX12) (T := TX12) (N := 49) hx hb hta inlX12 hown hK hP ho.1 hf_111 rfl 30 (by decide) (hta _ wk_169) (fun _ h9 => h9) rfl dX12_taken_110 ?_
              refine lv_iload hx hb dX12_taken_113 (lv_at hl 1 rfl) ?_
              obtain ⟨g_125, hf_124, hg_126⟩ := (show tp_gi cy (300) (Γ_65 (59, 300, 0)) (f_64 (r_112 19)) from hI.at (show tp_r L K 59 300 0 (r_112 19) from hr_115 19 (by decide)))
              have hn_127 : vp_in v10 (300) := tl_in (by omega) (by omega)
              refine tp_iald (cy := cy) hx hb hK hP (show tp_r L K 59 300 0 (r_112 19) from hr_115 19 (by decide)).1 hf_124 hn_127 dX12_taken_115 ?_
              refine lv_topi (fun z_128 ez_128 => ?_)
              have iz_128 : z_128.toInt = Γ_65 (59, 300, 0) v10.toInt.toNat := by rw [ez_128]; exact hg_126 _ (tp_pin hn_127)
              refine lv_ldc (v := (-1000000)) hx hb hown (hta _ wk_182) dX12_taken_116 ?_
              refine lv_icmp_eq (tgt := 189) hx hb dX12_taken_118 (by decide) (fun c_129 => ?_) (fun c_129 => ?_)
              · have c_129 : z_128.toInt = (-1000000 : Int) := tl_eq c_129
                obtain ⟨z_130, ez_130⟩ : ∃ y : Int32, y = v10 + 1 := ⟨_, rfl⟩
                refine lv_iinc (v := z_130) (lv' := [(10, .int z_130), (11, .int z_110), (9, .int z_63), (7, .long v7), (5, .long r_44), (0, .ref o), (1, .int p0), (2, .int p1), (3, .int p2), (4, .int p3)]) hx hb dX12_taken_189 hl (k := 1) rfl (by rw [ez_130]; rfl) (by decide) rfl (fun ls hl => ?_)
                try have iz_130 : z_130.toInt = v10.toInt + 1 := by rw [ez_130]; exact tl_addL v10 1 (by decide) (by omega) (by omega)
                refine lv_goto (tgt := 79) hx hb dX12_taken_192 (by decide) ?_
                exact ih79 (f_64, Γ_65, z_130, v7) H locs ls (by show (300 - z_130.toInt).toNat < (300 - v10.toInt).toNat; omega) ⟨(show 0 ≤ z_130.toInt from (by omega)), (show z_130.toInt ≤ 300 from (by omega)), (show ∀ j : Nat, j < 300 → ¬ Γ_47 (59, 300, 0) j = -1000000 → ¬ Γ_65 (59, 300, 0) j = -1000000 from hl1), (show ∀ j : Nat, z_130.toInt ≤ (j : Int) → Γ_65 (59, 300, 0) j = Γ_47 (59, 300, 0) j from (fun j9 q9 => hl2 j9 (by omega))), (show Γ_65 (39, 0, 0) 0 = Γ_47 (39, 0, 0) 0 from (by omega)), (show Γ_65 (39, 0, 0) 11 = Γ_47 (39, 0, 0) 11 from (by omega)), (show Γ_65 (39, 0, 0) 12 = Γ_47 (39, 0, 0) 12 from (by omega)), (show Γ_65 (39, 0, 0) 14 = Γ_47 (39, 0, 0) 14 from (by omega)), hP, hI, hfr, hgr, hS, lv_sub hl [0, 2, 3, 4, 5, 6, 7, 8, 9] rfl⟩
              · have c_129 : ¬ z_128.toInt = (-1000000 : Int) := tl_neq c_129
                refine lv_iload hx hb dX12_taken_121 (lv_at hl 0 rfl) ?_
                refine lv_iload hx hb dX12_taken_123 (lv_at hl 9 rfl) ?_
                refine lv_icmp_lt (tgt := 131) hx hb dX12_taken_125 (by decide) (fun c_131 => ?_) (fun c_131 => ?_)
                · have c_131 : z_110.toInt < p3.toInt := tl_lt c_131
                  refine lv_aload_n hx hb dX12_taken_131 rfl (lv_at hl 5 rfl) ?_
                  refine tp_get (cy := cy) (ci := 12) (v := .ref (r_112 19)) (C := RX12) (T := TX12) (N := 49) hx hb hta inlX12 hown hK hP ho.1 hf_111 rfl 30 (by decide) (hta _ wk_169) (fun _ h9 => h9) rfl dX12_taken_132 ?_
                  refine lv_iload hx hb dX12_taken_135 (lv_at hl 1 rfl) ?_
                  refine lv_dup2_11 hx hb dX12_taken_137 rfl rfl ?_
                  have hn_132 : vp_in v10 (300) := tl_in (by omega) (by omega)
                  refine tp_iald (cy := cy) hx hb hK hP (show tp_r L K 59 300 0 (r_112 19) from hr_115 19 (by decide)).1 hf_124 hn_132 dX12_taken_138 ?_
                  refine lv_topi (fun z_133 ez_133 => ?_)
                  obtain rfl : z_128 = z_133 := ez_128.trans ez_133.symm
                  refine lv_iload_n hx hb dX12_taken_139 rfl (lv_at hl 8 rfl) ?_
                  refine lv_iload hx hb dX12_taken_140 (lv_at hl 9 rfl) ?_
                  refine lv_iload hx hb dX12_taken_142 (lv_at hl 0 rfl) ?_
                  refine lv_isub hx hb dX12_taken_144 ?_
                  refine lv_topi (fun z_134 ez_134 => ?_)
                  try have iz_134 : z_134.toInt = p3.toInt - z_110.toInt := by rw [ez_134]; exact tl_subN p3 z_110 rfl rfl (by omega) (by omega)
                  refine lv_imul hx hb dX12_taken_145 ?_
                  refine lv_topi (fun z_135 ez_135 => ?_)
                  try have iz_135 : z_135.toInt = p2.toInt * z_134.toInt := by rw [ez_135]; exact tl_mulN p2 z_134 rfl rfl (by omega) (by omega)
                  refine lv_iload hx hb dX12_taken_146 (lv_at hl 9 rfl) ?_
                  refine lv_idiv hx hb dX12_taken_148 (tl_ne0 (by omega)) ?_
                  refine lv_topi (fun z_136 ez_136 => ?_)
                  have hqz_136 := tl_takB ez_135 ez_136 (by omega) (by omega) (by omega)
                  have hq6 := hlb9 v10.toInt.toNat (by omega)
                  have hq5 := hl2 v10.toInt.toNat (by omega)
                  refine lv_isub hx hb dX12_taken_149 ?_
                  refine lv_topi (fun z_137 ez_137 => ?_)
                  try have iz_137 : z_137.toInt = z_128.toInt - z_136.toInt := by rw [ez_137]; exact tl_subN z_128 z_136 rfl rfl (by omega) (by omega)
                  have hn_138 : vp_in v10 (300) := tl_in (by omega) (by omega)
                  have hj_139 : v10.toNatClampNeg = v10.toInt.toNat := by show v10.toInt.toNat = _; omega
                  have hv_140 : z_137.toInt = z_137.toInt := rfl
                  obtain ⟨Γ_141, eΓ_141⟩ : ∃ y : tk_G, y = tg Γ_65 (59, 300, 0) v10.toInt.toNat z_137.toInt := ⟨_, rfl⟩
                  have hI9 : tp_I cy L K Γ_141 (va_up f_64 (r_112 19) (.inl (cy 0, 300, .inl (upd g_125 v10.toNatClampNeg z_137)))) := by have q9 : tg Γ_65 (59, 300, 0) v10.toInt.toNat z_137.toInt = tg Γ_65 (59, 300, 0) v10.toNatClampNeg z_137.toInt := (by rw [hj_139, hv_140]); rw [eΓ_141, q9]; exact hI.setg hU rfl (show tp_r L K 59 300 0 (r_112 19) from hr_115 19 (by decide)) (show tp_gi cy (300) (tgu (Γ_65 (59, 300, 0)) _ _) _ from ⟨_, rfl, tp_gi_upd hg_126⟩)
                  have hfr9 : ∀ b, (K b).1 ∉ ([39, 58, 57, 60, 61, 62, 63, 59] : List Nat) → va_up f_64 (r_112 19) (.inl (cy 0, 300, .inl (upd g_125 v10.toNatClampNeg z_137))) b = f b := tp_fr hfr (show tp_r L K 59 300 0 (r_112 19) from hr_115 19 (by decide)) (by decide)
                  refine tp_iast (cy := cy) hx hb hK hP hD hS (show tp_r L K 59 300 0 (r_112 19) from hr_115 19 (by decide)).1 hf_124 hn_138 dX12_taken_150 (fun H locs hP hD hS => ?_)
                  have hP : va_P D vwCl (va_pl L (va_up f_64 (r_112 19) (.inl (cy 0, 300, .inl (upd g_125 v10.toNatClampNeg z_137))))) H := hP
                  generalize hfe : va_up f_64 (r_112 19) (.inl (cy 0, 300, .inl (upd g_125 v10.toNatClampNeg z_137))) = f_142 at hP hI9 hfr9
                  have hD : va_D A (va_pl L f_142) := tp_D hL hAL
                  have hf_143 := (show f_142 o = _ from by rw [← hfe, va_up_ne _ _ (tp_ne ho (show tp_r L K 59 300 0 (r_112 19) from hr_115 19 (by decide)) (by decide))]).trans hf_111
                  have hf_144 : f_142 (r_112 19) = .inl (cy 0, 300, .inl (upd g_125 v10.toNatClampNeg z_137)) := by rw [← hfe]; exact va_up_self _ _ _
                  clear hfe
                  have hI := hI9
                  have hfr := hfr9
                  clear hI9 hfr9
                  have wsΓ_141 : Γ_141 (59, 300, 0) v10.toInt.toNat = z_137.toInt := by rw [eΓ_141]; exact tg_s
                  have mt_141_0 : Γ_141 (39, 0, 0) 0 = Γ_65 (39, 0, 0) 0 := by rw [eΓ_141, tg_r (by decide)]
                  have mt_141_10 : Γ_141 (39, 0, 0) 10 = Γ_65 (39, 0, 0) 10 := by rw [eΓ_141, tg_r (by decide)]
                  have mt_141_11 : Γ_141 (39, 0, 0) 11 = Γ_65 (39, 0, 0) 11 := by rw [eΓ_141, tg_r (by decide)]
                  have mt_141_12 : Γ_141 (39, 0, 0) 12 = Γ_65 (39, 0, 0) 12 := by rw [eΓ_141, tg_r (by decide)]
                  have mt_141_13 : Γ_141 (39, 0, 0) 13 = Γ_65 (39, 0, 0) 13 := by rw [eΓ_141, tg_r (by decide)]
                  have mt_141_14 : Γ_141 (39, 0, 0) 14 = Γ_65 (39, 0, 0) 14 := by rw [eΓ_141, tg_r (by decide)]
                  have mt_141_15 : Γ_141 (39, 0, 0) 15 = Γ_65 (39, 0, 0) 15 := by rw [eΓ_141, tg_r (by decide)]
                  have hgr : ∀ κ : tk_K, κ.1 ∉ ([39, 58, 57, 60, 61, 62, 63, 59] : List Nat) → Γ_141 κ = Γ κ := tg_fr hgr eΓ_141 (by decide)
                  have hv_145 : ∀ i : Nat, i < 16 → (v_113 i).toInt = Γ_141 (39, 0, 0) i := fun i hi => by rw [eΓ_141, tg_r (by decide)]; exact hv_116 i hi
                  have hx_146 : (v_113 0).toInt = Γ_141 (39, 0, 0) 0 := hv_145 0 (by decide)
                  have hx_147 : (v_113 10).toInt = Γ_141 (39, 0, 0) 10 := hv_145 10 (by decide)
                  have hx_148 : (v_113 11).toInt = Γ_141 (39, 0, 0) 11 := hv_145 11 (by decide)
                  have hx_149 : (v_113 12).toInt = Γ_141 (39, 0, 0) 12 := hv_145 12 (by decide)
                  have hx_150 : (v_113 13).toInt = Γ_141 (39, 0, 0) 13 := hv_145 13 (by decide)
                  have hx_151 : (v_113 14).toInt = Γ_141 (39, 0, 0) 14 := hv_145 14 (by decide)
                  have hx_152 : (v_113 15).toInt = Γ_141 (39, 0, 0) 15 := hv_145 15 (by decide)
                  refine lv_lload hx hb dX12_taken_151 (lv_at hl 3 rfl) ?_
                  refine lv_iload hx hb dX12_taken_153 (lv_at hl 1 rfl) ?_
                  refine lv_aload_n hx hb dX12_taken_155 rfl (lv_at hl 5 rfl) ?_
                  refine tp_get (cy := cy) (ci := 12) (v := .int (v_113 11)) (C := RX12) (T := TX12) (N := 49) hx hb hta inlX12 hown hK hP ho.1 hf_143 rfl 33 (by decide) (hta _ wk_931) (fun _ h9 => h9) rfl dX12_taken_156 ?_
                  refine lv_icmp_lt (tgt := 171) hx hb dX12_taken_159 (by decide) (fun c_153 => ?_) (fun c_153 => ?_)
                  · have c_153 : v10.toInt < (v_113 11).toInt := tl_lt c_153
                    refine lv_lconst (v := 0) hx hb dX12_taken_171 (by decide) ?_
                    refine lv_goto (tgt := 186) hx hb dX12_taken_172 (by decide) ?_
                    refine lv_ladd hx hb dX12_taken_186 ?_
                    refine lv_topl (fun z_154 ez_154 => ?_)
                    refine lv_lstore (lv' := [(7, .long z_154), (11, .int z_110), (10, .int v10), (9, .int z_63), (5, .long r_44), (0, .ref o), (1, .int p0), (2, .int p1), (3, .int p2), (4, .int p3)]) hx hb dX12_taken_187 hl (by decide) rfl (fun ls hl => ?_)
                    obtain ⟨z_155, ez_155⟩ : ∃ y : Int32, y = v10 + 1 := ⟨_, rfl⟩
                    refine lv_iinc (v := z_155) (lv' := [(10, .int z_155), (7, .long z_154), (11, .int z_110), (9, .int z_63), (5, .long r_44), (0, .ref o), (1, .int p0), (2, .int p1), (3, .int p2), (4, .int p3)]) hx hb dX12_taken_189 hl (k := 2) rfl (by rw [ez_155]; rfl) (by decide) rfl (fun ls hl => ?_)
                    try have iz_155 : z_155.toInt = v10.toInt + 1 := by rw [ez_155]; exact tl_addL v10 1 (by decide) (by omega) (by omega)
                    refine lv_goto (tgt := 79) hx hb dX12_taken_192 (by decide) ?_
                    exact ih79 (f_142, Γ_141, z_155, z_154) H locs ls (by show (300 - z_155.toInt).toNat < (300 - v10.toInt).toNat; omega) ⟨(show 0 ≤ z_155.toInt from (by omega)), (show z_155.toInt ≤ 300 from (by omega)), (show ∀ j : Nat, j < 300 → ¬ Γ_47 (59, 300, 0) j = -1000000 → ¬ Γ_141 (59, 300, 0) j = -1000000 from (fun j9 q9 q8 => by rw [eΓ_141]; by_cases q7 : j9 = v10.toInt.toNat; (rw [q7, tg_s]; rw [q7] at q8; have q6 := hlb9 v10.toInt.toNat (by omega); have q5 := hl2 v10.toInt.toNat (by omega); omega); (rw [tg_i q7]; exact hl1 j9 q9 q8))), (show ∀ j : Nat, z_155.toInt ≤ (j : Int) → Γ_141 (59, 300, 0) j = Γ_47 (59, 300, 0) j from (fun j9 q9 => by rw [eΓ_141, tg_i (by omega)]; exact hl2 j9 (by omega))), (show Γ_141 (39, 0, 0) 0 = Γ_47 (39, 0, 0) 0 from (by omega)), (show Γ_141 (39, 0, 0) 11 = Γ_47 (39, 0, 0) 11 from (by omega)), (show Γ_141 (39, 0, 0) 12 = Γ_47 (39, 0, 0) 12 from (by omega)), (show Γ_141 (39, 0, 0) 14 = Γ_47 (39, 0, 0) 14 from (by omega)), hP, hI, hfr, hgr, hS, lv_sub hl [0, 3, 1, 4, 5, 6, 7, 8, 9] rfl⟩
                  · have c_153 : (v_113 11).toInt ≤ v10.toInt := tl_nlt c_153
                    refine lv_iload hx hb dX12_taken_162 (lv_at hl 1 rfl) ?_
                    refine lv_aload_n hx hb dX12_taken_164 rfl (lv_at hl 5 rfl) ?_
                    refine tp_get (cy := cy) (ci := 12) (v := .int (v_113 12)) (C := RX12) (T := TX12) (N := 49) hx hb hta inlX12 hown hK hP ho.1 hf_143 rfl 34 (by decide) (hta _ wk_932) (fun _ h9 => h9) rfl dX12_taken_165 ?_
                    refine lv_icmp_le (tgt := 175) hx hb dX12_taken_168 (by decide) (fun c_156 => ?_) (fun c_156 => ?_)
                    · have c_156 : v10.toInt ≤ (v_113 12).toInt := tl_le c_156
                      refine lv_iload_n hx hb dX12_taken_175 rfl (lv_at hl 8 rfl) ?_
                      refine lv_iload hx hb dX12_taken_176 (lv_at hl 9 rfl) ?_
                      refine lv_iload hx hb dX12_taken_178 (lv_at hl 0 rfl) ?_
                      refine lv_isub hx hb dX12_taken_180 ?_
                      refine lv_topi (fun z_157 ez_157 => ?_)
                      try have iz_157 : z_157.toInt = p3.toInt - z_110.toInt := by rw [ez_157]; exact tl_subN p3 z_110 rfl rfl (by omega) (by omega)
                      refine lv_imul hx hb dX12_taken_181 ?_
                      refine lv_topi (fun z_158 ez_158 => ?_)
                      try have iz_158 : z_158.toInt = p2.toInt * z_157.toInt := by rw [ez_158]; exact tl_mulN p2 z_157 rfl rfl (by omega) (by omega)
                      refine lv_iload hx hb dX12_taken_182 (lv_at hl 9 rfl) ?_
                      refine lv_idiv hx hb dX12_taken_184 (tl_ne0 (by omega)) ?_
                      refine lv_topi (fun z_159 ez_159 => ?_)
                      refine lv_i2l (v := z_159.toInt64) hx hb dX12_taken_185 (by first | rfl | decide) ?_
                      refine lv_ladd hx hb dX12_taken_186 ?_
                      refine lv_topl (fun z_160 ez_160 => ?_)
                      refine lv_lstore (lv' := [(7, .long z_160), (11, .int z_110), (10, .int v10), (9, .int z_63), (5, .long r_44), (0, .ref o), (1, .int p0), (2, .int p1), (3, .int p2), (4, .int p3)]) hx hb dX12_taken_187 hl (by decide) rfl (fun ls hl => ?_)
                      obtain ⟨z_161, ez_161⟩ : ∃ y : Int32, y = v10 + 1 := ⟨_, rfl⟩
                      refine lv_iinc (v := z_161) (lv' := [(10, .int z_161), (7, .long z_160), (11, .int z_110), (9, .int z_63), (5, .long r_44), (0, .ref o), (1, .int p0), (2, .int p1), (3, .int p2), (4, .int p3)]) hx hb dX12_taken_189 hl (k := 2) rfl (by rw [ez_161]; rfl) (by decide) rfl (fun ls hl => ?_)
                      try have iz_161 : z_161.toInt = v10.toInt + 1 := by rw [ez_161]; exact tl_addL v10 1 (by decide) (by omega) (by omega)
                      refine lv_goto (tgt := 79) hx hb dX12_taken_192 (by decide) ?_
                      exact ih79 (f_142, Γ_141, z_161, z_160) H locs ls (by show (300 - z_161.toInt).toNat < (300 - v10.toInt).toNat; omega) ⟨(show 0 ≤ z_161.toInt from (by omega)), (show z_161.toInt ≤ 300 from (by omega)), (show ∀ j : Nat, j < 300 → ¬ Γ_47 (59, 300, 0) j = -1000000 → ¬ Γ_141 (59, 300, 0) j = -1000000 from (fun j9 q9 q8 => by rw [eΓ_141]; by_cases q7 : j9 = v10.toInt.toNat; (rw [q7, tg_s]; rw [q7] at q8; have q6 := hlb9 v10.toInt.toNat (by omega); have q5 := hl2 v10.toInt.toNat (by omega); omega); (rw [tg_i q7]; exact hl1 j9 q9 q8))), (show ∀ j : Nat, z_161.toInt ≤ (j : Int) → Γ_141 (59, 300, 0) j = Γ_47 (59, 300, 0) j from (fun j9 q9 => by rw [eΓ_141, tg_i (by omega)]; exact hl2 j9 (by omega))), (show Γ_141 (39, 0, 0) 0 = Γ_47 (39, 0, 0) 0 from (by omega)), (show Γ_141 (39, 0, 0) 11 = Γ_47 (39, 0, 0) 11 from (by omega)), (show Γ_141 (39, 0, 0) 12 = Γ_47 (39, 0, 0) 12 from (by omega)), (show Γ_141 (39, 0, 0) 14 = Γ_47 (39, 0, 0) 14 from (by omega)), hP, hI, hfr, hgr, hS, lv_sub hl [0, 3, 1, 4, 5, 6, 7, 8, 9] rfl⟩
                    · have c_156 : (v_113 12).toInt < v10.toInt := tl_nle c_156
                      refine lv_lconst (v := 0) hx hb dX12_taken_171 (by decide) ?_
                      refine lv_goto (tgt := 186) hx hb dX12_taken_172 (by decide) ?_
                      refine lv_ladd hx hb dX12_taken_186 ?_
                      refine lv_topl (fun z_162 ez_162 => ?_)
                      refine lv_lstore (lv' := [(7, .long z_162), (11, .int z_110), (10, .int v10), (9, .int z_63), (5, .long r_44), (0, .ref o), (1, .int p0), (2, .int p1), (3, .int p2), (4, .int p3)]) hx hb dX12_taken_187 hl (by decide) rfl (fun ls hl => ?_)
                      obtain ⟨z_163, ez_163⟩ : ∃ y : Int32, y = v10 + 1 := ⟨_, rfl⟩
                      refine lv_iinc (v := z_163) (lv' := [(10, .int z_163), (7, .long z_162), (11, .int z_110), (9, .int z_63), (5, .long r_44), (0, .ref o), (1, .int p0), (2, .int p1), (3, .int p2), (4, .int p3)]) hx hb dX12_taken_189 hl (k := 2) rfl (by rw [ez_163]; rfl) (by decide) rfl (fun ls hl => ?_)
                      try have iz_163 : z_163.toInt = v10.toInt + 1 := by rw [ez_163]; exact tl_addL v10 1 (by decide) (by omega) (by omega)
                      refine lv_goto (tgt := 79) hx hb dX12_taken_192 (by decide) ?_
                      exact ih79 (f_142, Γ_141, z_163, z_162) H locs ls (by show (300 - z_163.toInt).toNat < (300 - v10.toInt).toNat; omega) ⟨(show 0 ≤ z_163.toInt from (by omega)), (show z_163.toInt ≤ 300 from (by omega)), (show ∀ j : Nat, j < 300 → ¬ Γ_47 (59, 300, 0) j = -1000000 → ¬ Γ_141 (59, 300, 0) j = -1000000 from (fun j9 q9 q8 => by rw [eΓ_141]; by_cases q7 : j9 = v10.toInt.toNat; (rw [q7, tg_s]; rw [q7] at q8; have q6 := hlb9 v10.toInt.toNat (by omega); have q5 := hl2 v10.toInt.toNat (by omega); omega); (rw [tg_i q7]; exact hl1 j9 q9 q8))), (show ∀ j : Nat, z_163.toInt ≤ (j : Int) → Γ_141 (59, 300, 0) j = Γ_47 (59, 300, 0) j from (fun j9 q9 => by rw [eΓ_141, tg_i (by omega)]; exact hl2 j9 (by omega))), (show Γ_141 (39, 0, 0) 0 = Γ_47 (39, 0, 0) 0 from (by omega)), (show Γ_141 (39, 0, 0) 11 = Γ_47 (39, 0, 0) 11 from (by omega)), (show Γ_141 (39, 0, 0) 12 = Γ_47 (39, 0, 0) 12 from (by omega)), (show Γ_141 (39, 0, 0) 14 = Γ_47 (39, 0, 0) 14 from (by omega)), hP, hI, hfr, hgr, hS, lv_sub hl [0, 3, 1, 4, 5, 6, 7, 8, 9] rfl⟩
                · have c_131 : p3.toInt ≤ z_110.toInt := tl_nlt c_131
                  refine lv_goto (tgt := 189) hx hb dX12_taken_128 (by decide) ?_
                  obtain ⟨z_164, ez_164⟩ : ∃ y : Int32, y = v10 + 1 := ⟨_, rfl⟩
                  refine lv_iinc (v := z_164) (lv' := [(10, .int z_164), (11, .int z_110), (9, .int z_63), (7, .long v7), (5, .long r_44), (0, .ref o), (1, .int p0), (2, .int p1), (3, .int p2), (4, .int p3)]) hx hb dX12_taken_189 hl (k := 1) rfl (by rw [ez_164]; rfl) (by decide) rfl (fun ls hl => ?_)
                  try have iz_164 : z_164.toInt = v10.toInt + 1 := by rw [ez_164]; exact tl_addL v10 1 (by decide) (by omega) (by omega)
                  refine lv_goto (tgt := 79) hx hb dX12_taken_192 (by decide) ?_
                  exact ih79 (f_64, Γ_65, z_164, v7) H locs ls (by show (300 - z_164.toInt).toNat < (300 - v10.toInt).toNat; omega) ⟨(show 0 ≤ z_164.toInt from (by omega)), (show z_164.toInt ≤ 300 from (by omega)), (show ∀ j : Nat, j < 300 → ¬ Γ_47 (59, 300, 0) j = -1000000 → ¬ Γ_65 (59, 300, 0) j = -1000000 from hl1), (show ∀ j : Nat, z_164.toInt ≤ (j : Int) → Γ_65 (59, 300, 0) j = Γ_47 (59, 300, 0) j from (fun j9 q9 => hl2 j9 (by omega))), (show Γ_65 (39, 0, 0) 0 = Γ_47 (39, 0, 0) 0 from (by omega)), (show Γ_65 (39, 0, 0) 11 = Γ_47 (39, 0, 0) 11 from (by omega)), (show Γ_65 (39, 0, 0) 12 = Γ_47 (39, 0, 0) 12 from (by omega)), (show Γ_65 (39, 0, 0) 14 = Γ_47 (39, 0, 0) 14 from (by omega)), hP, hI, hfr, hgr, hS, lv_sub hl [0, 2, 3, 4, 5, 6, 7, 8, 9] rfl⟩
            · have c_109 : v10.toInt < z_63.toInt := tl_nle c_109
              refine lv_iload hx hb dX12_taken_94 (lv_at hl 1 rfl) ?_
              refine lv_iload hx hb dX12_taken_96 (lv_at hl 0 rfl) ?_
              refine lv_isub hx hb dX12_taken_98 ?_
              refine lv_topi (fun z_165 ez_165 => ?_)
              try have iz_165 : z_165.toInt = z_63.toInt - v10.toInt := by rw [ez_165]; exact tl_subN z_63 v10 rfl rfl (by omega) (by omega)
              refine lv_goto (tgt := 107) hx hb dX12_taken_99 (by decide) ?_
              refine lv_istore (lv' := [(11, .int z_165), (10, .int v10), (9, .int z_63), (7, .long v7), (5, .long r_44), (0, .ref o), (1, .int p0), (2, .int p1), (3, .int p2), (4, .int p3)]) hx hb dX12_taken_107 hl (by decide) rfl (fun ls hl => ?_)
              refine lv_aload_n hx hb dX12_taken_109 rfl (lv_at hl 5 rfl) ?_
              obtain ⟨r_167, v_168, q_169, hf_166, hr_170, hv_171⟩ := (show tp_o_M L K 0 0 (Γ_65 (39, 0, 0)) (f_64 o) from hI.at ho)
              have hx_172 : (v_168 0).toInt = Γ_65 (39, 0, 0) 0 := hv_171 0 (by decide)
              have hx_173 : (v_168 10).toInt = Γ_65 (39, 0, 0) 10 := hv_171 10 (by decide)
              have hx_174 : (v_168 11).toInt = Γ_65 (39, 0, 0) 11 := hv_171 11 (by decide)
              have hx_175 : (v_168 12).toInt = Γ_65 (39, 0, 0) 12 := hv_171 12 (by decide)
              have hx_176 : (v_168 13).toInt = Γ_65 (39, 0, 0) 13 := hv_171 13 (by decide)
              have hx_177 : (v_168 14).toInt = Γ_65 (39, 0, 0) 14 := hv_171 14 (by decide)
              have hx_178 : (v_168 15).toInt = Γ_65 (39, 0, 0) 15 := hv_171 15 (by decide)
              refine tp_get (cy := cy) (ci := 12) (v := .ref (r_167 19)) (C := RX12) (T := TX12) (N := 49) hx hb hta inlX12 hown hK hP ho.1 hf_166 rfl 30 (by decide) (hta _ wk_169) (fun _ h9 => h9) rfl dX12_taken_110 ?_
              refine lv_iload hx hb dX12_taken_113 (lv_at hl 1 rfl) ?_
              obtain ⟨g_180, hf_179, hg_181⟩ := (show tp_gi cy (300) (Γ_65 (59, 300, 0)) (f_64 (r_167 19)) from hI.at (show tp_r L K 59 300 0 (r_167 19) from hr_170 19 (by decide)))
              have hn_182 : vp_in v10 (300) := tl_in (by omega) (by omega)
              refine tp_iald (cy := cy) hx hb hK hP (show tp_r L K 59 300 0 (r_167 19) from hr_170 19 (by decide)).1 hf_179 hn_182 dX12_taken_115 ?_
              refine lv_topi (fun z_183 ez_183 => ?_)
              have iz_183 : z_183.toInt = Γ_65 (59, 300, 0) v10.toInt.toNat := by rw [ez_183]; exact hg_181 _ (tp_pin hn_182)
              refine lv_ldc (v := (-1000000)) hx hb hown (hta _ wk_182) dX12_taken_116 ?_
              refine lv_icmp_eq (tgt := 189) hx hb dX12_taken_118 (by decide) (fun c_184 => ?_) (fun c_184 => ?_)
              · have c_184 : z_183.toInt = (-1000000 : Int) := tl_eq c_184
                obtain ⟨z_185, ez_185⟩ : ∃ y : Int32, y = v10 + 1 := ⟨_, rfl⟩
                refine lv_iinc (v := z_185) (lv' := [(10, .int z_185), (11, .int z_165), (9, .int z_63), (7, .long v7), (5, .long r_44), (0, .ref o), (1, .int p0), (2, .int p1), (3, .int p2), (4, .int p3)]) hx hb dX12_taken_189 hl (k := 1) rfl (by rw [ez_185]; rfl) (by decide) rfl (fun ls hl => ?_)
                try have iz_185 : z_185.toInt = v10.toInt + 1 := by rw [ez_185]; exact tl_addL v10 1 (by decide) (by omega) (by omega)
                refine lv_goto (tgt := 79) hx hb dX12_taken_192 (by decide) ?_
                exact ih79 (f_64, Γ_65, z_185, v7) H locs ls (by show (300 - z_185.toInt).toNat < (300 - v10.toInt).toNat; omega) ⟨(show 0 ≤ z_185.toInt from (by omega)), (show z_185.toInt ≤ 300 from (by omega)), (show ∀ j : Nat, j < 300 → ¬ Γ_47 (59, 300, 0) j = -1000000 → ¬ Γ_65 (59, 300, 0) j = -1000000 from hl1), (show ∀ j : Nat, z_185.toInt ≤ (j : Int) → Γ_65 (59, 300, 0) j = Γ_47 (59, 300, 0) j from (fun j9 q9 => hl2 j9 (by omega))), (show Γ_65 (39, 0, 0) 0 = Γ_47 (39, 0, 0) 0 from (by omega)), (show Γ_65 (39, 0, 0) 11 = Γ_47 (39, 0, 0) 11 from (by omega)), (show Γ_65 (39, 0, 0) 12 = Γ_47 (39, 0, 0) 12 from (by omega)), (show Γ_65 (39, 0, 0) 14 = Γ_47 (39, 0, 0) 14 from (by omega)), hP, hI, hfr, hgr, hS, lv_sub hl [0, 2, 3, 4, 5, 6, 7, 8, 9] rfl⟩
              · have c_184 : ¬ z_183.toInt = (-1000000 : Int) := tl_neq c_184
                refine lv_iload hx hb dX12_taken_121 (lv_at hl 0 rfl) ?_
                refine lv_iload hx hb dX12_taken_123 (lv_at hl 9 rfl) ?_
                refine lv_icmp_lt (tgt := 131) hx hb dX12_taken_125 (by decide) (fun c_186 => ?_) (fun c_186 => ?_)
                · have c_186 : z_165.toInt < p3.toInt := tl_lt c_186
                  refine lv_aload_n hx hb dX12_taken_131 rfl (lv_at hl 5 rfl) ?_
                  refine tp_get (cy := cy) (ci := 12) (v := .ref (r_167 19)) (C := RX12) (T := TX12) (N := 49) hx hb hta inlX12 hown hK hP ho.1 hf_166 rfl 30 (by decide) (hta _ wk_169) (fun _ h9 => h9) rfl dX12_taken_132 ?_
                  refine lv_iload hx hb dX12_taken_135 (lv_at hl 1 rfl) ?_
                  refine lv_dup2_11 hx hb dX12_taken_137 rfl rfl ?_
                  have hn_187 : vp_in v10 (300) := tl_in (by omega) (by omega)
                  refine tp_iald (cy := cy) hx hb hK hP (show tp_r L K 59 300 0 (r_167 19) from hr_170 19 (by decide)).1 hf_179 hn_187 dX12_taken_138 ?_
                  refine lv_topi (fun z_188 ez_188 => ?_)
                  obtain rfl : z_183 = z_188 := ez_183.trans ez_188.symm
                  refine lv_iload_n hx hb dX12_taken_139 rfl (lv_at hl 8 rfl) ?_
                  refine lv_iload hx hb dX12_taken_140 (lv_at hl 9 rfl) ?_
                  refine lv_iload hx hb dX12_taken_142 (lv_at hl 0 rfl) ?_
                  refine lv_isub hx hb dX12_taken_144 ?_
                  refine lv_topi (fun z_189 ez_189 => ?_)
                  try have iz_189 : z_189.toInt = p3.toInt - z_165.toInt := by rw [ez_189]; exact tl_subN p3 z_165 rfl rfl (by omega) (by omega)
                  refine lv_imul hx hb dX12_taken_145 ?_
                  refine lv_topi (fun z_190 ez_190 => ?_)
                  try have iz_190 : z_190.toInt = p2.toInt * z_189.toInt := by rw [ez_190]; exact tl_mulN p2 z_189 rfl rfl (by omega) (by omega)
                  refine lv_iload hx hb dX12_taken_146 (lv_at hl 9 rfl) ?_
                  refine lv_idiv hx hb dX12_taken_148 (tl_ne0 (by omega)) ?_
                  refine lv_topi (fun z_191 ez_191 => ?_)
                  have hqz_191 := tl_takB ez_190 ez_191 (by omega) (by omega) (by omega)
                  have hq6 := hlb9 v10.toInt.toNat (by omega)
                  have hq5 := hl2 v10.toInt.toNat (by omega)
                  refine lv_isub hx hb dX12_taken_149 ?_
                  refine lv_topi (fun z_192 ez_192 => ?_)
                  try have iz_192 : z_192.toInt = z_183.toInt - z_191.toInt := by rw [ez_192]; exact tl_subN z_183 z_191 rfl rfl (by omega) (by omega)
                  have hn_193 : vp_in v10 (300) := tl_in (by omega) (by omega)
                  have hj_194 : v10.toNatClampNeg = v10.toInt.toNat := by show v10.toInt.toNat = _; omega
                  have hv_195 : z_192.toInt = z_192.toInt := rfl
                  obtain ⟨Γ_196, eΓ_196⟩ : ∃ y : tk_G, y = tg Γ_65 (59, 300, 0) v10.toInt.toNat z_192.toInt := ⟨_, rfl⟩
                  have hI9 : tp_I cy L K Γ_196 (va_up f_64 (r_167 19) (.inl (cy 0, 300, .inl (upd g_180 v10.toNatClampNeg z_192)))) := by have q9 : tg Γ_65 (59, 300, 0) v10.toInt.toNat z_192.toInt = tg Γ_65 (59, 300, 0) v10.toNatClampNeg z_192.toInt := (by rw [hj_194, hv_195]); rw [eΓ_196, q9]; exact hI.setg hU rfl (show tp_r L K 59 300 0 (r_167 19) from hr_170 19 (by decide)) (show tp_gi cy (300) (tgu (Γ_65 (59, 300, 0)) _ _) _ from ⟨_, rfl, tp_gi_upd hg_181⟩)
                  have hfr9 : ∀ b, (K b).1 ∉ ([39, 58, 57, 60, 61, 62, 63, 59] : List Nat) → va_up f_64 (r_167 19) (.inl (cy 0, 300, .inl (upd g_180 v10.toNatClampNeg z_192))) b = f b := tp_fr hfr (show tp_r L K 59 300 0 (r_167 19) from hr_170 19 (by decide)) (by decide)
                  refine tp_iast (cy := cy) hx hb hK hP hD hS (show tp_r L K 59 300 0 (r_167 19) from hr_170 19 (by decide)).1 hf_179 hn_193 dX12_taken_150 (fun H locs hP hD hS => ?_)
                  have hP : va_P D vwCl (va_pl L (va_up f_64 (r_167 19) (.inl (cy 0, 300, .inl (upd g_180 v10.toNatClampNeg z_192))))) H := hP
                  generalize hfe : va_up f_64 (r_167 19) (.inl (cy 0, 300, .inl (upd g_180 v10.toNatClampNeg z_192))) = f_197 at hP hI9 hfr9
                  have hD : va_D A (va_pl L f_197) := tp_D hL hAL
                  have hf_198 := (show f_197 o = _ from by rw [← hfe, va_up_ne _ _ (tp_ne ho (show tp_r L K 59 300 0 (r_167 19) from hr_170 19 (by decide)) (by decide))]).trans hf_166
                  have hf_199 : f_197 (r_167 19) = .inl (cy 0, 300, .inl (upd g_180 v10.toNatClampNeg z_192)) := by rw [← hfe]; exact va_up_self _ _ _
                  clear hfe
                  have hI := hI9
                  have hfr := hfr9
                  clear hI9 hfr9
                  have wsΓ_196 : Γ_196 (59, 300, 0) v10.toInt.toNat = z_192.toInt := by rw [eΓ_196]; exact tg_s
                  have mt_196_0 : Γ_196 (39, 0, 0) 0 = Γ_65 (39, 0, 0) 0 := by rw [eΓ_196, tg_r (by decide)]
                  have mt_196_10 : Γ_196 (39, 0, 0) 10 = Γ_65 (39, 0, 0) 10 := by rw [eΓ_196, tg_r (by decide)]
                  have mt_196_11 : Γ_196 (39, 0, 0) 11 = Γ_65 (39, 0, 0) 11 := by rw [eΓ_196, tg_r (by decide)]
                  have mt_196_12 : Γ_196 (39, 0, 0) 12 = Γ_65 (39, 0, 0) 12 := by rw [eΓ_196, tg_r (by decide)]
                  have mt_196_13 : Γ_196 (39, 0, 0) 13 = Γ_65 (39, 0, 0) 13 := by rw [eΓ_196, tg_r (by decide)]
                  have mt_196_14 : Γ_196 (39, 0, 0) 14 = Γ_65 (39, 0, 0) 14 := by rw [eΓ_196, tg_r (by decide)]
                  have mt_196_15 : Γ_196 (39, 0, 0) 15 = Γ_65 (39, 0, 0) 15 := by rw [eΓ_196, tg_r (by decide)]
                  have hgr : ∀ κ : tk_K, κ.1 ∉ ([39, 58, 57, 60, 61, 62, 63, 59] : List Nat) → Γ_196 κ = Γ κ := tg_fr hgr eΓ_196 (by decide)
                  have hv_200 : ∀ i : Nat, i < 16 → (v_168 i).toInt = Γ_196 (39, 0, 0) i := fun i hi => by rw [eΓ_196, tg_r (by decide)]; exact hv_171 i hi
                  have hx_201 : (v_168 0).toInt = Γ_196 (39, 0, 0) 0 := hv_200 0 (by decide)
                  have hx_202 : (v_168 10).toInt = Γ_196 (39, 0, 0) 10 := hv_200 10 (by decide)
                  have hx_203 : (v_168 11).toInt = Γ_196 (39, 0, 0) 11 := hv_200 11 (by decide)
                  have hx_204 : (v_168 12).toInt = Γ_196 (39, 0, 0) 12 := hv_200 12 (by decide)
                  have hx_205 : (v_168 13).toInt = Γ_196 (39, 0, 0) 13 := hv_200 13 (by decide)
                  have hx_206 : (v_168 14).toInt = Γ_196 (39, 0, 0) 14 := hv_200 14 (by decide)
                  have hx_207 : (v_168 15).toInt = Γ_196 (39, 0, 0) 15 := hv_200 15 (by decide)
                  refine lv_lload hx hb dX12_taken_151 (lv_at hl 3 rfl) ?_
                  refine lv_iload hx hb dX12_taken_153 (lv_at hl 1 rfl) ?_
                  refine lv_aload_n hx hb dX12_taken_155 rfl (lv_at hl 5 rfl) ?_
                  refine tp_get (cy := cy) (ci := 12) (v := .int (v_168 11)) (C := RX12) (T := TX12) (N := 49) hx hb hta inlX12 hown hK hP ho.1 hf_198 rfl 33 (by decide) (hta _ wk_931) (fun _ h9 => h9) rfl dX12_taken_156 ?_
                  refine lv_icmp_lt (tgt := 171) hx hb dX12_taken_159 (by decide) (fun c_208 => ?_) (fun c_208 => ?_)
                  · have c_208 : v10.toInt < (v_168 11).toInt := tl_lt c_208
                    refine lv_lconst (v := 0) hx hb dX12_taken_171 (by decide) ?_
                    refine lv_goto (tgt := 186) hx hb dX12_taken_172 (by decide) ?_
                    refine lv_ladd hx hb dX12_taken_186 ?_
                    refine lv_topl (fun z_209 ez_209 => ?_)
                    refine lv_lstore (lv' := [(7, .long z_209), (11, .int z_165), (10, .int v10), (9, .int z_63), (5, .long r_44), (0, .ref o), (1, .int p0), (2, .int p1), (3, .int p2), (4, .int p3)]) hx hb dX12_taken_187 hl (by decide) rfl (fun ls hl => ?_)
                    obtain ⟨z_210, ez_210⟩ : ∃ y : Int32, y = v10 + 1 := ⟨_, rfl⟩
                    refine lv_iinc (v := z_210) (lv' := [(10, .int z_210), (7, .long z_209), (11, .int z_165), (9, .int z_63), (5, .long r_44), (0, .ref o), (1, .int p0), (2, .int p1), (3, .int p2), (4, .int p3)]) hx hb dX12_taken_189 hl (k := 2) rfl (by rw [ez_210]; rfl) (by decide) rfl (fun ls hl => ?_)
                    try have iz_210 : z_210.toInt = v10.toInt + 1 := by rw [ez_210]; exact tl_addL v10 1 (by decide) (by omega) (by omega)
                    refine lv_goto (tgt := 79) hx hb dX12_taken_192 (by decide) ?_
                    exact ih79 (f_197, Γ_196, z_210, z_209) H locs ls (by show (300 - z_210.toInt).toNat < (300 - v10.toInt).toNat; omega) ⟨(show 0 ≤ z_210.toInt from (by omega)), (show z_210.toInt ≤ 300 from (by omega)), (show ∀ j : Nat, j < 300 → ¬ Γ_47 (59, 300, 0) j = -1000000 → ¬ Γ_196 (59, 300, 0) j = -1000000 from (fun j9 q9 q8 => by rw [eΓ_196]; by_cases q7 : j9 = v10.toInt.toNat; (rw [q7, tg_s]; rw [q7] at q8; have q6 := hlb9 v10.toInt.toNat (by omega); have q5 := hl2 v10.toInt.toNat (by omega); omega); (rw [tg_i q7]; exact hl1 j9 q9 q8))), (show ∀ j : Nat, z_210.toInt ≤ (j : Int) → Γ_196 (59, 300, 0) j = Γ_47 (59, 300, 0) j from (fun j9 q9 => by rw [eΓ_196, tg_i (by omega)]; exact hl2 j9 (by omega))), (show Γ_196 (39, 0, 0) 0 = Γ_47 (39, 0, 0) 0 from (by omega)), (show Γ_196 (39, 0, 0) 11 = Γ_47 (39, 0, 0) 11 from (by omega)), (show Γ_196 (39, 0, 0) 12 = Γ_47 (39, 0, 0) 12 from (by omega)), (show Γ_196 (39, 0, 0) 14 = Γ_47 (39, 0, 0) 14 from (by omega)), hP, hI, hfr, hgr, hS, lv_sub hl [0, 3, 1, 4, 5, 6, 7, 8, 9] rfl⟩
                  · have c_208 : (v_168 11).toInt ≤ v10.toInt := tl_nlt c_208
                    refine lv_iload hx hb dX12_taken_162 (lv_at hl 1 rfl) ?_
                    refine lv_aload_n hx hb dX12_taken_164 rfl (lv_at hl 5 rfl) ?_
                    refine tp_get (cy := cy) (ci := 12) (v := .int (v_168 12)) (C := RX12) (T := TX12) (N := 49) hx hb hta inlX12 hown hK hP ho.1 hf_198 rfl 34 (by decide) (hta _ wk_932) (fun _ h9 => h9) rfl dX12_taken_165 ?_
                    refine lv_icmp_le (tgt := 175) hx hb dX12_taken_168 (by decide) (fun c_211 => ?_) (fun c_211 => ?_)
                    · have c_211 : v10.toInt ≤ (v_168 12).toInt := tl_le c_211
                      refine lv_iload_n hx hb dX12_taken_175 rfl (lv_at hl 8 rfl) ?_
                      refine lv_iload hx hb dX12_taken_176 (lv_at hl 9 rfl) ?_
                      refine lv_iload hx hb dX12_taken_178 (lv_at hl 0 rfl) ?_
                      refine lv_isub hx hb dX12_taken_180 ?_
                      refine lv_topi (fun z_212 ez_212 => ?_)
                      try have iz_212 : z_212.toInt = p3.toInt - z_165.toInt := by rw [ez_212]; exact tl_subN p3 z_165 rfl rfl (by omega) (by omega)
                      refine lv_imul hx hb dX12_taken_181 ?_
                      refine lv_topi (fun z_213 ez_213 => ?_)
                      try have iz_213 : z_213.toInt = p2.toInt * z_212.toInt := by rw [ez_213]; exact tl_mulN p2 z_212 rfl rfl (by omega) (by omega)
                      refine lv_iload hx hb dX12_taken_182 (lv_at hl 9 rfl) ?_
                      refine lv_idiv hx hb dX12_taken_184 (tl_ne0 (by omega)) ?_
                      refine lv_topi (fun z_214 ez_214 => ?_)
                      refine lv_i2l (v := z_214.toInt64) hx hb dX12_taken_185 (by first | rfl | decide) ?_
                      refine lv_ladd hx hb dX12_taken_186 ?_
                      refine lv_topl (fun z_215 ez_215 => ?_)
                      refine lv_lstore (lv' := [(7, .long z_215), (11, .int z_165), (10, .int v10), (9, .int z_63), (5, .long r_44), (0, .ref o), (1, .int p0), (2, .int p1), (3, .int p2), (4, .int p3)]) hx hb dX12_taken_187 hl (by decide) rfl (fun ls hl => ?_)
                      obtain ⟨z_216, ez_216⟩ : ∃ y : Int32, y = v10 + 1 := ⟨_, rfl⟩
                      refine lv_iinc (v := z_216) (lv' := [(10, .int z_216), (7, .long z_215), (11, .int z_165), (9, .int z_63), (5, .long r_44), (0, .ref o), (1, .int p0), (2, .int p1), (3, .int p2), (4, .int p3)]) hx hb dX12_taken_189 hl (k := 2) rfl (by rw [ez_216]; rfl) (by decide) rfl (fun ls hl => ?_)
                      try have iz_216 : z_216.toInt = v10.toInt + 1 := by rw [ez_216]; exact tl_addL v10 1 (by decide) (by omega) (by omega)
                      refine lv_goto (tgt := 79) hx hb dX12_taken_192 (by decide) ?_
                      exact ih79 (f_197, Γ_196, z_216, z_215) H locs ls (by show (300 - z_216.toInt).toNat < (300 - v10.toInt).toNat; omega) ⟨(show 0 ≤ z_216.toInt from (by omega)), (show z_216.toInt ≤ 300 from (by omega)), (show ∀ j : Nat, j < 300 → ¬ Γ_47 (59, 300, 0) j = -1000000 → ¬ Γ_196 (59, 300, 0) j = -1000000 from (fun j9 q9 q8 => by rw [eΓ_196]; by_cases q7 : j9 = v10.toInt.toNat; (rw [q7, tg_s]; rw [q7] at q8; have q6 := hlb9 v10.toInt.toNat (by omega); have q5 := hl2 v10.toInt.toNat (by omega); omega); (rw [tg_i q7]; exact hl1 j9 q9 q8))), (show ∀ j : Nat, z_216.toInt ≤ (j : Int) → Γ_196 (59, 300, 0) j = Γ_47 (59, 300, 0) j from (fun j9 q9 => by rw [eΓ_196, tg_i (by omega)]; exact hl2 j9 (by omega))), (show Γ_196 (39, 0, 0) 0 = Γ_47 (39, 0, 0) 0 from (by omega)), (show Γ_196 (39, 0, 0) 11 = Γ_47 (39, 0, 0) 11 from (by omega)), (show Γ_196 (39, 0, 0) 12 = Γ_47 (39, 0, 0) 12 from (by omega)), (show Γ_196 (39, 0, 0) 14 = Γ_47 (39, 0, 0) 14 from (by omega)), hP, hI, hfr, hgr, hS, lv_sub hl [0, 3, 1, 4, 5, 6, 7, 8, 9] rfl⟩
                    · have c_211 : (v_168 12).toInt < v10.toInt := tl_nle c_211
                      refine lv_lconst (v := 0) hx hb dX12_taken_171 (by decide) ?_
                      refine lv_goto (tgt := 186) hx hb dX12_taken_172 (by decide) ?_
                      refine lv_ladd hx hb dX12_taken_186 ?_
                      refine lv_topl (fun z_217 ez_217 => ?_)
                      refine lv_lstore (lv' := [(7, .long z_217), (11, .int z_165), (10, .int v10), (9, .int z_63), (5, .long r_44), (0, .ref o), (1, .int p0), (2, .int p1), (3, .int p2), (4, .int p3)]) hx hb dX12_taken_187 hl (by decide) rfl (fun ls hl => ?_)
                      obtain ⟨z_218, ez_218⟩ : ∃ y : Int32, y = v10 + 1 := ⟨_, rfl⟩
                      refine lv_iinc (v := z_218) (lv' := [(10, .int z_218), (7, .long z_217), (11, .int z_165), (9, .int z_63), (5, .long r_44), (0, .ref o), (1, .int p0), (2, .int p1), (3, .int p2), (4, .int p3)]) hx hb dX12_taken_189 hl (k := 2) rfl (by rw [ez_218]; rfl) (by decide) rfl (fun ls hl => ?_)
                      try have iz_218 : z_218.toInt = v10.toInt + 1 := by rw [ez_218]; exact tl_addL v10 1 (by decide) (by omega) (by omega)
                      refine lv_goto (tgt := 79) hx hb dX12_taken_192 (by decide) ?_
                      exact ih79 (f_197, Γ_196, z_218, z_217) H locs ls (by show (300 - z_218.toInt).toNat < (300 - v10.toInt).toNat; omega) ⟨(show 0 ≤ z_218.toInt from (by omega)), (show z_218.toInt ≤ 300 from (by omega)), (show ∀ j : Nat, j < 300 → ¬ Γ_47 (59, 300, 0) j = -1000000 → ¬ Γ_196 (59, 300, 0) j = -1000000 from (fun j9 q9 q8 => by rw [eΓ_196]; by_cases q7 : j9 = v10.toInt.toNat; (rw [q7, tg_s]; rw [q7] at q8; have q6 := hlb9 v10.toInt.toNat (by omega); have q5 := hl2 v10.toInt.toNat (by omega); omega); (rw [tg_i q7]; exact hl1 j9 q9 q8))), (show ∀ j : Nat, z_218.toInt ≤ (j : Int) → Γ_196 (59, 300, 0) j = Γ_47 (59, 300, 0) j from (fun j9 q9 => by rw [eΓ_196, tg_i (by omega)]; exact hl2 j9 (by omega))), (show Γ_196 (39, 0, 0) 0 = Γ_47 (39, 0, 0) 0 from (by omega)), (show Γ_196 (39, 0, 0) 11 = Γ_47 (39, 0, 0) 11 from (by omega)), (show Γ_196 (39, 0, 0) 12 = Γ_47 (39, 0, 0) 12 from (by omega)), (show Γ_196 (39, 0, 0) 14 = Γ_47 (39, 0, 0) 14 from (by omega)), hP, hI, hfr, hgr, hS, lv_sub hl [0, 3, 1, 4, 5, 6, 7, 8, 9] rfl⟩
                · have c_186 : p3.toInt ≤ z_165.toInt := tl_nlt c_186
                  refine lv_goto (tgt := 189) hx hb dX12_taken_128 (by decide) ?_
                  obtain ⟨z_219, ez_219⟩ : ∃ y : Int32, y = v10 + 1 := ⟨_, rfl⟩
                  refine lv_iinc (v := z_219) (lv' := [(10, .int z_219), (11, .int z_165), (9, .int z_63), (7, .long v7), (5, .long r_44), (0, .ref o), (1, .int p0), (2, .int p1), (3, .int p2), (4, .int p3)]) hx hb dX12_taken_189 hl (k := 1) rfl (by rw [ez_219]; rfl) (by decide) rfl (fun ls hl => ?_)
                  try have iz_219 : z_219.toInt = v10.toInt + 1 := by rw [ez_219]; exact tl_addL v10 1 (by decide) (by omega) (by omega)
                  refine lv_goto (tgt := 79) hx hb dX12_taken_192 (by decide) ?_
                  exact ih79 (f_64, Γ_65, z_219, v7) H locs ls (by show (300 - z_219.toInt).toNat < (300 - v10.toInt).toNat; omega) ⟨(show 0 ≤ z_219.toInt from (by omega)), (show z_219.toInt ≤ 300 from (by omega)), (show ∀ j : Nat, j < 300 → ¬ Γ_47 (59, 300, 0) j = -1000000 → ¬ Γ_65 (59, 300, 0) j = -1000000 from hl1), (show ∀ j : Nat, z_219.toInt ≤ (j : Int) → Γ_65 (59, 300, 0) j = Γ_47 (59, 300, 0) j from (fun j9 q9 => hl2 j9 (by omega))), (show Γ_65 (39, 0, 0) 0 = Γ_47 (39, 0, 0) 0 from (by omega)), (show Γ_65 (39, 0, 0) 11 = Γ_47 (39, 0, 0) 11 from (by omega)), (show Γ_65 (39, 0, 0) 12 = Γ_47 (39, 0, 0) 12 from (by omega)), (show Γ_65 (39, 0, 0) 14 = Γ_47 (39, 0, 0) 14 from (by omega)), hP, hI, hfr, hgr, hS, lv_sub hl [0, 2, 3, 4, 5, 6, 7, 8, 9] rfl⟩
        · have c_42 : (v_31 15).toInt = (0 : Int) := tl_eq c_42
          refine lv_ldc (v := (-1000000)) hx hb hown (hta _ wk_182) dX12_taken_51 ?_
          have hpo9 : Γ_27 (39, 0, 0) 0 = Γ (39, 0, 0) 0 := (by omega)
          exact W.iret (v := (-1000000)) hx hb hr (fun t ht hW => ⟨⟨_, (f_25, Γ_27), rfl, hpo9, by rw [ht]; exact hP, hI, hfr, hgr⟩, hS.F ht⟩) hS.2.2 dX12_taken_53
      · have c_22 := hw_20.f c_22
        refine lv_ldc (v := (-2000000)) hx hb hown (hta _ wk_248) dX12_taken_34 ?_
        have hpo9 : Γ (39, 0, 0) 0 = Γ (39, 0, 0) 0 := (by omega)
        exact W.iret (v := (-2000000)) hx hb hr (fun t ht hW => ⟨⟨_, (f, Γ), rfl, hpo9, by rw [ht]; exact hP, hI, hfr, hgr⟩, hS.F ht⟩) hS.2.2 dX12_taken_36
