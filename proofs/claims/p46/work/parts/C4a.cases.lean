theorem dL_law_228 : decode cL_law 228 = .ok (.aload_n 1, 1) := lw_f43 (lw_at lw_e7 (j := 4) rfl)
theorem dL_law_229 : decode cL_law 229 = .ok (.aload_n 0, 1) := lw_f42 (lw_at lw_e7 (j := 5) rfl)
theorem dL_law_230 : decode cL_law 230 = .ok (.iload_n 3, 1) := lw_f29 (lw_at lw_e7 (j := 6) rfl)
theorem dL_law_231 : decode cL_law 231 = .ok (.iconst 1, 1) := lw_f4 (lw_at lw_e7 (j := 7) rfl)
theorem dL_law_232 : decode cL_law 232 = .ok (.iadd, 1) := lw_f96 (lw_at lw_e7 (j := 8) rfl)
theorem dL_law_233 : decode cL_law 233 = .ok (.iaload, 1) := lw_f46 (lw_at lw_e7 (j := 9) rfl)
theorem dL_law_234 : decode cL_law 234 = .ok (.invokevirtual 13, 3) := lw_f182 (lw_at lw_e7 (j := 10) rfl) (lw_at lw_e7 (j := 11) rfl) (lw_at lw_e7 (j := 12) rfl) rfl
theorem dL_law_237 : decode cL_law 237 = .ok (.pop, 1) := lw_f87 (lw_at lw_e7 (j := 13) rfl)
theorem dL_law_238 : decode cL_law 238 = .ok (.aload_n 2, 1) := lw_f44 (lw_at lw_e7 (j := 14) rfl)
theorem dL_law_239 : decode cL_law 239 = .ok (.aload_n 0, 1) := lw_f42 (lw_at lw_e7 (j := 15) rfl)
theorem dL_law_240 : decode cL_law 240 = .ok (.iload_n 3, 1) := lw_f29 (lw_at lw_e7 (j := 16) rfl)
theorem dL_law_241 : decode cL_law 241 = .ok (.iconst 1, 1) := lw_f4 (lw_at lw_e7 (j := 17) rfl)
theorem dL_law_242 : decode cL_law 242 = .ok (.iadd, 1) := lw_f96 (lw_at lw_e7 (j := 18) rfl)
theorem dL_law_243 : decode cL_law 243 = .ok (.iaload, 1) := lw_f46 (lw_at lw_e7 (j := 19) rfl)
theorem dL_law_244 : decode cL_law 244 = .ok (.invokevirtual 17, 3) := lw_f182 (lw_at lw_e7 (j := 20) rfl) (lw_at lw_e7 (j := 21) rfl) (lw_at lw_e7 (j := 22) rfl) rfl
theorem dL_law_247 : decode cL_law 247 = .ok (.pop, 1) := lw_f87 (lw_at lw_e7 (j := 23) rfl)
theorem dL_law_248 : decode cL_law 248 = .ok (.goto 1757, 3) := lw_f167 (lw_at lw_e7 (j := 24) rfl) (lw_at lw_e7 (j := 25) rfl) (lw_at lw_e7 (j := 26) rfl) (by decide)
theorem wk_183 : Cond.methodLink RL 13 yX11_clock ∈ tl_L := List.mem_filter.mpr ⟨lw_m2 (i := 188) rfl, rfl⟩
theorem wk_184 : Cond.instanceMethod yX11_clock ∈ tl_L := List.mem_filter.mpr ⟨lw_m2 (i := 189) rfl, rfl⟩
theorem wk_185 : Cond.selects RX11 yX11_clock yX11_clock ∈ tl_L := List.mem_filter.mpr ⟨lw_m2 (i := 190) rfl, rfl⟩
theorem wk_186 : Cond.code yX11_clock cX11_clock 2 (some .boolean) ∈ tl_L := List.mem_filter.mpr ⟨lw_m2 (i := 191) rfl, rfl⟩
theorem wk_193 : Cond.methodLink RL 17 yX12_clock ∈ tl_L := List.mem_filter.mpr ⟨lw_m6 (i := 213) rfl, rfl⟩
theorem wk_194 : Cond.instanceMethod yX12_clock ∈ tl_L := List.mem_filter.mpr ⟨lw_m6 (i := 214) rfl, rfl⟩
theorem wk_195 : Cond.selects RX12 yX12_clock yX12_clock ∈ tl_L := List.mem_filter.mpr ⟨lw_m6 (i := 215) rfl, rfl⟩
theorem wk_196 : Cond.code yX12_clock cX12_clock 2 (some .boolean) ∈ tl_L := List.mem_filter.mpr ⟨lw_m6 (i := 216) rfl, rfl⟩
theorem lk_L_13 : tl_kV RL 13 RX11 yX11_clock cX11_clock 2 (some .boolean) 1 := ⟨wk_186, wk_183, wk_184, wk_185, wk_2, ⟨by decide +kernel, by decide +kernel, by decide +kernel⟩⟩
theorem lk_L_17 : tl_kV RL 17 RX12 yX12_clock cX12_clock 2 (some .boolean) 1 := ⟨wk_196, wk_193, wk_194, wk_195, wk_5, ⟨by decide +kernel, by decide +kernel, by decide +kernel⟩⟩
theorem dL_law_251 : decode cL_law 251 = .ok (.aload_n 1, 1) := lw_f43 (lw_at lw_e7 (j := 27) rfl)
theorem dL_law_252 : decode cL_law 252 = .ok (.aload_n 0, 1) := lw_f42 (lw_at lw_e7 (j := 28) rfl)
theorem dL_law_253 : decode cL_law 253 = .ok (.iload_n 3, 1) := lw_f29 (lw_at lw_e7 (j := 29) rfl)
theorem dL_law_254 : decode cL_law 254 = .ok (.iconst 1, 1) := lw_f4 (lw_at lw_e7 (j := 30) rfl)
theorem dL_law_255 : decode cL_law 255 = .ok (.iadd, 1) := lw_f96 (lw_at lw_e7 (j := 31) rfl)
theorem dL_law_256 : decode cL_law 256 = .ok (.iaload, 1) := lw_f46 (lw_at lw_e8 (j := 0) rfl)
theorem dL_law_257 : decode cL_law 257 = .ok (.aload_n 0, 1) := lw_f42 (lw_at lw_e8 (j := 1) rfl)
theorem dL_law_258 : decode cL_law 258 = .ok (.iload_n 3, 1) := lw_f29 (lw_at lw_e8 (j := 2) rfl)
theorem dL_law_259 : decode cL_law 259 = .ok (.iconst 2, 1) := lw_f5 (lw_at lw_e8 (j := 3) rfl)
theorem dL_law_260 : decode cL_law 260 = .ok (.iadd, 1) := lw_f96 (lw_at lw_e8 (j := 4) rfl)
theorem dL_law_261 : decode cL_law 261 = .ok (.iaload, 1) := lw_f46 (lw_at lw_e8 (j := 5) rfl)
theorem dL_law_262 : decode cL_law 262 = .ok (.invokevirtual 18, 3) := lw_f182 (lw_at lw_e8 (j := 6) rfl) (lw_at lw_e8 (j := 7) rfl) (lw_at lw_e8 (j := 8) rfl) rfl
theorem dL_law_265 : decode cL_law 265 = .ok (.pop, 1) := lw_f87 (lw_at lw_e8 (j := 9) rfl)
theorem dL_law_266 : decode cL_law 266 = .ok (.aload_n 2, 1) := lw_f44 (lw_at lw_e8 (j := 10) rfl)
theorem dL_law_267 : decode cL_law 267 = .ok (.aload_n 0, 1) := lw_f42 (lw_at lw_e8 (j := 11) rfl)
theorem dL_law_268 : decode cL_law 268 = .ok (.iload_n 3, 1) := lw_f29 (lw_at lw_e8 (j := 12) rfl)
theorem dL_law_269 : decode cL_law 269 = .ok (.iconst 1, 1) := lw_f4 (lw_at lw_e8 (j := 13) rfl)
theorem dL_law_270 : decode cL_law 270 = .ok (.iadd, 1) := lw_f96 (lw_at lw_e8 (j := 14) rfl)
theorem dL_law_271 : decode cL_law 271 = .ok (.iaload, 1) := lw_f46 (lw_at lw_e8 (j := 15) rfl)
theorem dL_law_272 : decode cL_law 272 = .ok (.aload_n 0, 1) := lw_f42 (lw_at lw_e8 (j := 16) rfl)
theorem dL_law_273 : decode cL_law 273 = .ok (.iload_n 3, 1) := lw_f29 (lw_at lw_e8 (j := 17) rfl)
theorem dL_law_274 : decode cL_law 274 = .ok (.iconst 2, 1) := lw_f5 (lw_at lw_e8 (j := 18) rfl)
theorem dL_law_275 : decode cL_law 275 = .ok (.iadd, 1) := lw_f96 (lw_at lw_e8 (j := 19) rfl)
theorem dL_law_276 : decode cL_law 276 = .ok (.iaload, 1) := lw_f46 (lw_at lw_e8 (j := 20) rfl)
theorem dL_law_277 : decode cL_law 277 = .ok (.invokevirtual 22, 3) := lw_f182 (lw_at lw_e8 (j := 21) rfl) (lw_at lw_e8 (j := 22) rfl) (lw_at lw_e8 (j := 23) rfl) rfl
theorem dL_law_280 : decode cL_law 280 = .ok (.pop, 1) := lw_f87 (lw_at lw_e8 (j := 24) rfl)
theorem dL_law_281 : decode cL_law 281 = .ok (.goto 1724, 3) := lw_f167 (lw_at lw_e8 (j := 25) rfl) (lw_at lw_e8 (j := 26) rfl) (lw_at lw_e8 (j := 27) rfl) (by decide)
theorem wk_201 : Cond.methodLink RL 18 yX11_row ∈ tl_L := List.mem_filter.mpr ⟨lw_m2 (i := 198) rfl, rfl⟩
theorem wk_202 : Cond.instanceMethod yX11_row ∈ tl_L := List.mem_filter.mpr ⟨lw_m2 (i := 199) rfl, rfl⟩
theorem wk_203 : Cond.selects RX11 yX11_row yX11_row ∈ tl_L := List.mem_filter.mpr ⟨lw_m2 (i := 200) rfl, rfl⟩
theorem wk_204 : Cond.code yX11_row cX11_row 3 (some .int) ∈ tl_L := List.mem_filter.mpr ⟨lw_m2 (i := 201) rfl, rfl⟩
theorem wk_217 : Cond.methodLink RL 22 yX12_row ∈ tl_L := List.mem_filter.mpr ⟨lw_m6 (i := 221) rfl, rfl⟩
theorem wk_218 : Cond.instanceMethod yX12_row ∈ tl_L := List.mem_filter.mpr ⟨lw_m6 (i := 222) rfl, rfl⟩
theorem wk_219 : Cond.selects RX12 yX12_row yX12_row ∈ tl_L := List.mem_filter.mpr ⟨lw_m6 (i := 223) rfl, rfl⟩
theorem wk_220 : Cond.code yX12_row cX12_row 5 (some .int) ∈ tl_L := List.mem_filter.mpr ⟨lw_m6 (i := 224) rfl, rfl⟩
theorem lk_L_18 : tl_kV RL 18 RX11 yX11_row cX11_row 3 (some .int) 2 := ⟨wk_204, wk_201, wk_202, wk_203, wk_2, ⟨by decide +kernel, by decide +kernel, by decide +kernel⟩⟩
theorem lk_L_22 : tl_kV RL 22 RX12 yX12_row cX12_row 5 (some .int) 2 := ⟨wk_220, wk_217, wk_218, wk_219, wk_5, ⟨by decide +kernel, by decide +kernel, by decide +kernel⟩⟩
theorem dL_law_284 : decode cL_law 284 = .ok (.aload_n 1, 1) := lw_f43 (lw_at lw_e8 (j := 28) rfl)
theorem dL_law_285 : decode cL_law 285 = .ok (.aload_n 0, 1) := lw_f42 (lw_at lw_e8 (j := 29) rfl)
theorem dL_law_286 : decode cL_law 286 = .ok (.iload_n 3, 1) := lw_f29 (lw_at lw_e8 (j := 30) rfl)
theorem dL_law_287 : decode cL_law 287 = .ok (.iconst 1, 1) := lw_f4 (lw_at lw_e8 (j := 31) rfl)
theorem dL_law_288 : decode cL_law 288 = .ok (.iadd, 1) := lw_f96 (lw_at lw_e9 (j := 0) rfl)
theorem dL_law_289 : decode cL_law 289 = .ok (.iaload, 1) := lw_f46 (lw_at lw_e9 (j := 1) rfl)
theorem dL_law_290 : decode cL_law 290 = .ok (.aload_n 0, 1) := lw_f42 (lw_at lw_e9 (j := 2) rfl)
theorem dL_law_291 : decode cL_law 291 = .ok (.iload_n 3, 1) := lw_f29 (lw_at lw_e9 (j := 3) rfl)
theorem dL_law_292 : decode cL_law 292 = .ok (.iconst 2, 1) := lw_f5 (lw_at lw_e9 (j := 4) rfl)
theorem dL_law_293 : decode cL_law 293 = .ok (.iadd, 1) := lw_f96 (lw_at lw_e9 (j := 5) rfl)
theorem dL_law_294 : decode cL_law 294 = .ok (.iaload, 1) := lw_f46 (lw_at lw_e9 (j := 6) rfl)
theorem dL_law_295 : decode cL_law 295 = .ok (.aload_n 0, 1) := lw_f42 (lw_at lw_e9 (j := 7) rfl)
theorem dL_law_296 : decode cL_law 296 = .ok (.iload_n 3, 1) := lw_f29 (lw_at lw_e9 (j := 8) rfl)
theorem dL_law_297 : decode cL_law 297 = .ok (.iconst 3, 1) := lw_f6 (lw_at lw_e9 (j := 9) rfl)
theorem dL_law_298 : decode cL_law 298 = .ok (.iadd, 1) := lw_f96 (lw_at lw_e9 (j := 10) rfl)
theorem dL_law_299 : decode cL_law 299 = .ok (.iaload, 1) := lw_f46 (lw_at lw_e9 (j := 11) rfl)
theorem dL_law_300 : decode cL_law 300 = .ok (.invokevirtual 23, 3) := lw_f182 (lw_at lw_e9 (j := 12) rfl) (lw_at lw_e9 (j := 13) rfl) (lw_at lw_e9 (j := 14) rfl) rfl
theorem dL_law_303 : decode cL_law 303 = .ok (.pop, 1) := lw_f87 (lw_at lw_e9 (j := 15) rfl)
theorem dL_law_304 : decode cL_law 304 = .ok (.aload_n 2, 1) := lw_f44 (lw_at lw_e9 (j := 16) rfl)
theorem dL_law_305 : decode cL_law 305 = .ok (.aload_n 0, 1) := lw_f42 (lw_at lw_e9 (j := 17) rfl)
theorem dL_law_306 : decode cL_law 306 = .ok (.iload_n 3, 1) := lw_f29 (lw_at lw_e9 (j := 18) rfl)
theorem dL_law_307 : decode cL_law 307 = .ok (.iconst 1, 1) := lw_f4 (lw_at lw_e9 (j := 19) rfl)
theorem dL_law_308 : decode cL_law 308 = .ok (.iadd, 1) := lw_f96 (lw_at lw_e9 (j := 20) rfl)
theorem dL_law_309 : decode cL_law 309 = .ok (.iaload, 1) := lw_f46 (lw_at lw_e9 (j := 21) rfl)
theorem dL_law_310 : decode cL_law 310 = .ok (.aload_n 0, 1) := lw_f42 (lw_at lw_e9 (j := 22) rfl)
theorem dL_law_311 : decode cL_law 311 = .ok (.iload_n 3, 1) := lw_f29 (lw_at lw_e9 (j := 23) rfl)
theorem dL_law_312 : decode cL_law 312 = .ok (.iconst 2, 1) := lw_f5 (lw_at lw_e9 (j := 24) rfl)
theorem dL_law_313 : decode cL_law 313 = .ok (.iadd, 1) := lw_f96 (lw_at lw_e9 (j := 25) rfl)
theorem dL_law_314 : decode cL_law 314 = .ok (.iaload, 1) := lw_f46 (lw_at lw_e9 (j := 26) rfl)
theorem dL_law_315 : decode cL_law 315 = .ok (.aload_n 0, 1) := lw_f42 (lw_at lw_e9 (j := 27) rfl)
theorem dL_law_316 : decode cL_law 316 = .ok (.iload_n 3, 1) := lw_f29 (lw_at lw_e9 (j := 28) rfl)
theorem dL_law_317 : decode cL_law 317 = .ok (.iconst 3, 1) := lw_f6 (lw_at lw_e9 (j := 29) rfl)
theorem dL_law_318 : decode cL_law 318 = .ok (.iadd, 1) := lw_f96 (lw_at lw_e9 (j := 30) rfl)
theorem dL_law_319 : decode cL_law 319 = .ok (.iaload, 1) := lw_f46 (lw_at lw_e9 (j := 31) rfl)
theorem dL_law_320 : decode cL_law 320 = .ok (.invokevirtual 27, 3) := lw_f182 (lw_at lw_e10 (j := 0) rfl) (lw_at lw_e10 (j := 1) rfl) (lw_at lw_e10 (j := 2) rfl) rfl
theorem dL_law_323 : decode cL_law 323 = .ok (.pop, 1) := lw_f87 (lw_at lw_e10 (j := 3) rfl)
theorem dL_law_324 : decode cL_law 324 = .ok (.goto 1681, 3) := lw_f167 (lw_at lw_e10 (j := 4) rfl) (lw_at lw_e10 (j := 5) rfl) (lw_at lw_e10 (j := 6) rfl) (by decide)
theorem wk_223 : Cond.methodLink RL 23 yX11_raw ∈ tl_L := List.mem_filter.mpr ⟨lw_m2 (i := 213) rfl, rfl⟩
theorem wk_224 : Cond.instanceMethod yX11_raw ∈ tl_L := List.mem_filter.mpr ⟨lw_m2 (i := 214) rfl, rfl⟩
theorem wk_225 : Cond.selects RX11 yX11_raw yX11_raw ∈ tl_L := List.mem_filter.mpr ⟨lw_m2 (i := 215) rfl, rfl⟩
theorem wk_226 : Cond.code yX11_raw cX11_raw 5 (some .int) ∈ tl_L := List.mem_filter.mpr ⟨lw_m2 (i := 216) rfl, rfl⟩
theorem wk_242 : Cond.methodLink RL 27 yX12_raw ∈ tl_L := List.mem_filter.mpr ⟨lw_m6 (i := 227) rfl, rfl⟩
theorem wk_243 : Cond.instanceMethod yX12_raw ∈ tl_L := List.mem_filter.mpr ⟨lw_m6 (i := 228) rfl, rfl⟩
theorem wk_244 : Cond.selects RX12 yX12_raw yX12_raw ∈ tl_L := List.mem_filter.mpr ⟨lw_m6 (i := 229) rfl, rfl⟩
theorem wk_245 : Cond.code yX12_raw cX12_raw 5 (some .int) ∈ tl_L := List.mem_filter.mpr ⟨lw_m6 (i := 230) rfl, rfl⟩
theorem lk_L_23 : tl_kV RL 23 RX11 yX11_raw cX11_raw 5 (some .int) 3 := ⟨wk_226, wk_223, wk_224, wk_225, wk_2, ⟨by decide +kernel, by decide +kernel, by decide +kernel⟩⟩
theorem lk_L_27 : tl_kV RL 27 RX12 yX12_raw cX12_raw 5 (some .int) 3 := ⟨wk_245, wk_242, wk_243, wk_244, wk_5, ⟨by decide +kernel, by decide +kernel, by decide +kernel⟩⟩
theorem dL_law_327 : decode cL_law 327 = .ok (.aload_n 1, 1) := lw_f43 (lw_at lw_e10 (j := 7) rfl)
theorem dL_law_328 : decode cL_law 328 = .ok (.aload_n 0, 1) := lw_f42 (lw_at lw_e10 (j := 8) rfl)
theorem dL_law_329 : decode cL_law 329 = .ok (.iload_n 3, 1) := lw_f29 (lw_at lw_e10 (j := 9) rfl)
theorem dL_law_330 : decode cL_law 330 = .ok (.iconst 1, 1) := lw_f4 (lw_at lw_e10 (j := 10) rfl)
theorem dL_law_331 : decode cL_law 331 = .ok (.iadd, 1) := lw_f96 (lw_at lw_e10 (j := 11) rfl)
theorem dL_law_332 : decode cL_law 332 = .ok (.iaload, 1) := lw_f46 (lw_at lw_e10 (j := 12) rfl)
theorem dL_law_333 : decode cL_law 333 = .ok (.aload_n 0, 1) := lw_f42 (lw_at lw_e10 (j := 13) rfl)
theorem dL_law_334 : decode cL_law 334 = .ok (.iload_n 3, 1) := lw_f29 (lw_at lw_e10 (j := 14) rfl)
theorem dL_law_335 : decode cL_law 335 = .ok (.iconst 2, 1) := lw_f5 (lw_at lw_e10 (j := 15) rfl)
theorem dL_law_336 : decode cL_law 336 = .ok (.iadd, 1) := lw_f96 (lw_at lw_e10 (j := 16) rfl)
theorem dL_law_337 : decode cL_law 337 = .ok (.iaload, 1) := lw_f46 (lw_at lw_e10 (j := 17) rfl)
theorem dL_law_338 : decode cL_law 338 = .ok (.invokevirtual 28, 3) := lw_f182 (lw_at lw_e10 (j := 18) rfl) (lw_at lw_e10 (j := 19) rfl) (lw_at lw_e10 (j := 20) rfl) rfl
theorem dL_law_341 : decode cL_law 341 = .ok (.pop, 1) := lw_f87 (lw_at lw_e10 (j := 21) rfl)
theorem dL_law_342 : decode cL_law 342 = .ok (.aload_n 2, 1) := lw_f44 (lw_at lw_e10 (j := 22) rfl)
theorem dL_law_343 : decode cL_law 343 = .ok (.aload_n 0, 1) := lw_f42 (lw_at lw_e10 (j := 23) rfl)
theorem dL_law_344 : decode cL_law 344 = .ok (.iload_n 3, 1) := lw_f29 (lw_at lw_e10 (j := 24) rfl)
theorem dL_law_345 : decode cL_law 345 = .ok (.iconst 1, 1) := lw_f4 (lw_at lw_e10 (j := 25) rfl)
theorem dL_law_346 : decode cL_law 346 = .ok (.iadd, 1) := lw_f96 (lw_at lw_e10 (j := 26) rfl)
theorem dL_law_347 : decode cL_law 347 = .ok (.iaload, 1) := lw_f46 (lw_at lw_e10 (j := 27) rfl)
theorem dL_law_348 : decode cL_law 348 = .ok (.aload_n 0, 1) := lw_f42 (lw_at lw_e10 (j := 28) rfl)
theorem dL_law_349 : decode cL_law 349 = .ok (.iload_n 3, 1) := lw_f29 (lw_at lw_e10 (j := 29) rfl)
theorem dL_law_350 : decode cL_law 350 = .ok (.iconst 2, 1) := lw_f5 (lw_at lw_e10 (j := 30) rfl)
theorem dL_law_351 : decode cL_law 351 = .ok (.iadd, 1) := lw_f96 (lw_at lw_e10 (j := 31) rfl)
theorem dL_law_352 : decode cL_law 352 = .ok (.iaload, 1) := lw_f46 (lw_at lw_e11 (j := 0) rfl)
theorem dL_law_353 : decode cL_law 353 = .ok (.invokevirtual 31, 3) := lw_f182 (lw_at lw_e11 (j := 1) rfl) (lw_at lw_e11 (j := 2) rfl) (lw_at lw_e11 (j := 3) rfl) rfl
theorem dL_law_356 : decode cL_law 356 = .ok (.pop, 1) := lw_f87 (lw_at lw_e11 (j := 4) rfl)
theorem dL_law_357 : decode cL_law 357 = .ok (.goto 1648, 3) := lw_f167 (lw_at lw_e11 (j := 5) rfl) (lw_at lw_e11 (j := 6) rfl) (lw_at lw_e11 (j := 7) rfl) (by decide)
theorem wk_256 : Cond.methodLink RL 28 yX11_read ∈ tl_L := List.mem_filter.mpr ⟨lw_m2 (i := 234) rfl, rfl⟩
theorem wk_257 : Cond.instanceMethod yX11_read ∈ tl_L := List.mem_filter.mpr ⟨lw_m2 (i := 235) rfl, rfl⟩
theorem wk_258 : Cond.selects RX11 yX11_read yX11_read ∈ tl_L := List.mem_filter.mpr ⟨lw_m2 (i := 236) rfl, rfl⟩
theorem wk_259 : Cond.code yX11_read cX11_read 4 (some .int) ∈ tl_L := List.mem_filter.mpr ⟨lw_m2 (i := 237) rfl, rfl⟩
theorem wk_267 : Cond.methodLink RL 31 yX12_read ∈ tl_L := List.mem_filter.mpr ⟨lw_m7 (i := 1) rfl, rfl⟩
theorem wk_268 : Cond.instanceMethod yX12_read ∈ tl_L := List.mem_filter.mpr ⟨lw_m7 (i := 2) rfl, rfl⟩
theorem wk_269 : Cond.selects RX12 yX12_read yX12_read ∈ tl_L := List.mem_filter.mpr ⟨lw_m7 (i := 3) rfl, rfl⟩
theorem wk_270 : Cond.code yX12_read cX12_read 3 (some .int) ∈ tl_L := List.mem_filter.mpr ⟨lw_m7 (i := 4) rfl, rfl⟩
theorem lk_L_28 : tl_kV RL 28 RX11 yX11_read cX11_read 4 (some .int) 2 := ⟨wk_259, wk_256, wk_257, wk_258, wk_2, ⟨by decide +kernel, by decide +kernel, by decide +kernel⟩⟩
theorem lk_L_31 : tl_kV RL 31 RX12 yX12_read cX12_read 3 (some .int) 2 := ⟨wk_270, wk_267, wk_268, wk_269, wk_5, ⟨by decide +kernel, by decide +kernel, by decide +kernel⟩⟩
theorem dL_law_360 : decode cL_law 360 = .ok (.aload_n 1, 1) := lw_f43 (lw_at lw_e11 (j := 8) rfl)
theorem dL_law_361 : decode cL_law 361 = .ok (.aload_n 0, 1) := lw_f42 (lw_at lw_e11 (j := 9) rfl)
theorem dL_law_362 : decode cL_law 362 = .ok (.iload_n 3, 1) := lw_f29 (lw_at lw_e11 (j := 10) rfl)
theorem dL_law_363 : decode cL_law 363 = .ok (.iconst 1, 1) := lw_f4 (lw_at lw_e11 (j := 11) rfl)
theorem dL_law_364 : decode cL_law 364 = .ok (.iadd, 1) := lw_f96 (lw_at lw_e11 (j := 12) rfl)
theorem dL_law_365 : decode cL_law 365 = .ok (.iaload, 1) := lw_f46 (lw_at lw_e11 (j := 13) rfl)
theorem dL_law_366 : decode cL_law 366 = .ok (.aload_n 0, 1) := lw_f42 (lw_at lw_e11 (j := 14) rfl)
theorem dL_law_367 : decode cL_law 367 = .ok (.iload_n 3, 1) := lw_f29 (lw_at lw_e11 (j := 15) rfl)
theorem dL_law_368 : decode cL_law 368 = .ok (.iconst 2, 1) := lw_f5 (lw_at lw_e11 (j := 16) rfl)
theorem dL_law_369 : decode cL_law 369 = .ok (.iadd, 1) := lw_f96 (lw_at lw_e11 (j := 17) rfl)
theorem dL_law_370 : decode cL_law 370 = .ok (.iaload, 1) := lw_f46 (lw_at lw_e11 (j := 18) rfl)
theorem dL_law_371 : decode cL_law 371 = .ok (.aload_n 0, 1) := lw_f42 (lw_at lw_e11 (j := 19) rfl)
theorem dL_law_372 : decode cL_law 372 = .ok (.iload_n 3, 1) := lw_f29 (lw_at lw_e11 (j := 20) rfl)
theorem dL_law_373 : decode cL_law 373 = .ok (.iconst 3, 1) := lw_f6 (lw_at lw_e11 (j := 21) rfl)
theorem dL_law_374 : decode cL_law 374 = .ok (.iadd, 1) := lw_f96 (lw_at lw_e11 (j := 22) rfl)
theorem dL_law_375 : decode cL_law 375 = .ok (.iaload, 1) := lw_f46 (lw_at lw_e11 (j := 23) rfl)
theorem dL_law_376 : decode cL_law 376 = .ok (.aload_n 0, 1) := lw_f42 (lw_at lw_e11 (j := 24) rfl)
theorem dL_law_377 : decode cL_law 377 = .ok (.iload_n 3, 1) := lw_f29 (lw_at lw_e11 (j := 25) rfl)
theorem dL_law_378 : decode cL_law 378 = .ok (.iconst 4, 1) := lw_f7 (lw_at lw_e11 (j := 26) rfl)
theorem dL_law_379 : decode cL_law 379 = .ok (.iadd, 1) := lw_f96 (lw_at lw_e11 (j := 27) rfl)
theorem dL_law_380 : decode cL_law 380 = .ok (.iaload, 1) := lw_f46 (lw_at lw_e11 (j := 28) rfl)
theorem dL_law_381 : decode cL_law 381 = .ok (.invokevirtual 32, 3) := lw_f182 (lw_at lw_e11 (j := 29) rfl) (lw_at lw_e11 (j := 30) rfl) (lw_at lw_e11 (j := 31) rfl) rfl
theorem dL_law_384 : decode cL_law 384 = .ok (.pop, 1) := lw_f87 (lw_at lw_e12 (j := 0) rfl)
theorem dL_law_385 : decode cL_law 385 = .ok (.aload_n 2, 1) := lw_f44 (lw_at lw_e12 (j := 1) rfl)
theorem dL_law_386 : decode cL_law 386 = .ok (.aload_n 0, 1) := lw_f42 (lw_at lw_e12 (j := 2) rfl)
theorem dL_law_387 : decode cL_law 387 = .ok (.iload_n 3, 1) := lw_f29 (lw_at lw_e12 (j := 3) rfl)
theorem dL_law_388 : decode cL_law 388 = .ok (.iconst 1, 1) := lw_f4 (lw_at lw_e12 (j := 4) rfl)
theorem dL_law_389 : decode cL_law 389 = .ok (.iadd, 1) := lw_f96 (lw_at lw_e12 (j := 5) rfl)
theorem dL_law_390 : decode cL_law 390 = .ok (.iaload, 1) := lw_f46 (lw_at lw_e12 (j := 6) rfl)
theorem dL_law_391 : decode cL_law 391 = .ok (.aload_n 0, 1) := lw_f42 (lw_at lw_e12 (j := 7) rfl)
theorem dL_law_392 : decode cL_law 392 = .ok (.iload_n 3, 1) := lw_f29 (lw_at lw_e12 (j := 8) rfl)
theorem dL_law_393 : decode cL_law 393 = .ok (.iconst 2, 1) := lw_f5 (lw_at lw_e12 (j := 9) rfl)
theorem dL_law_394 : decode cL_law 394 = .ok (.iadd, 1) := lw_f96 (lw_at lw_e12 (j := 10) rfl)
theorem dL_law_395 : decode cL_law 395 = .ok (.iaload, 1) := lw_f46 (lw_at lw_e12 (j := 11) rfl)
theorem dL_law_396 : decode cL_law 396 = .ok (.aload_n 0, 1) := lw_f42 (lw_at lw_e12 (j := 12) rfl)
theorem dL_law_397 : decode cL_law 397 = .ok (.iload_n 3, 1) := lw_f29 (lw_at lw_e12 (j := 13) rfl)
theorem dL_law_398 : decode cL_law 398 = .ok (.iconst 3, 1) := lw_f6 (lw_at lw_e12 (j := 14) rfl)
theorem dL_law_399 : decode cL_law 399 = .ok (.iadd, 1) := lw_f96 (lw_at lw_e12 (j := 15) rfl)
theorem dL_law_400 : decode cL_law 400 = .ok (.iaload, 1) := lw_f46 (lw_at lw_e12 (j := 16) rfl)
theorem dL_law_401 : decode cL_law 401 = .ok (.aload_n 0, 1) := lw_f42 (lw_at lw_e12 (j := 17) rfl)
theorem dL_law_402 : decode cL_law 402 = .ok (.iload_n 3, 1) := lw_f29 (lw_at lw_e12 (j := 18) rfl)
theorem dL_law_403 : decode cL_law 403 = .ok (.iconst 4, 1) := lw_f7 (lw_at lw_e12 (j := 19) rfl)
theorem dL_law_404 : decode cL_law 404 = .ok (.iadd, 1) := lw_f96 (lw_at lw_e12 (j := 20) rfl)
theorem dL_law_405 : decode cL_law 405 = .ok (.iaload, 1) := lw_f46 (lw_at lw_e12 (j := 21) rfl)
theorem dL_law_406 : decode cL_law 406 = .ok (.invokevirtual 36, 3) := lw_f182 (lw_at lw_e12 (j := 22) rfl) (lw_at lw_e12 (j := 23) rfl) (lw_at lw_e12 (j := 24) rfl) rfl
theorem dL_law_409 : decode cL_law 409 = .ok (.pop, 1) := lw_f87 (lw_at lw_e12 (j := 25) rfl)
theorem dL_law_410 : decode cL_law 410 = .ok (.goto 1595, 3) := lw_f167 (lw_at lw_e12 (j := 26) rfl) (lw_at lw_e12 (j := 27) rfl) (lw_at lw_e12 (j := 28) rfl) (by decide)
theorem wk_279 : Cond.methodLink RL 32 yX11_slip ∈ tl_L := List.mem_filter.mpr ⟨lw_m3 (i := 6) rfl, rfl⟩
theorem wk_280 : Cond.instanceMethod yX11_slip ∈ tl_L := List.mem_filter.mpr ⟨lw_m3 (i := 7) rfl, rfl⟩
theorem wk_281 : Cond.selects RX11 yX11_slip yX11_slip ∈ tl_L := List.mem_filter.mpr ⟨lw_m3 (i := 8) rfl, rfl⟩
theorem wk_282 : Cond.code yX11_slip cX11_slip 5 (some .int) ∈ tl_L := List.mem_filter.mpr ⟨lw_m3 (i := 9) rfl, rfl⟩
theorem wk_297 : Cond.methodLink RL 36 yX12_slip ∈ tl_L := List.mem_filter.mpr ⟨lw_m7 (i := 13) rfl, rfl⟩
theorem wk_298 : Cond.instanceMethod yX12_slip ∈ tl_L := List.mem_filter.mpr ⟨lw_m7 (i := 14) rfl, rfl⟩
theorem wk_299 : Cond.selects RX12 yX12_slip yX12_slip ∈ tl_L := List.mem_filter.mpr ⟨lw_m7 (i := 15) rfl, rfl⟩
theorem wk_300 : Cond.code yX12_slip cX12_slip 6 (some .int) ∈ tl_L := List.mem_filter.mpr ⟨lw_m7 (i := 16) rfl, rfl⟩
theorem lk_L_32 : tl_kV RL 32 RX11 yX11_slip cX11_slip 5 (some .int) 4 := ⟨wk_282, wk_279, wk_280, wk_281, wk_2, ⟨by decide +kernel, by decide +kernel, by decide +kernel⟩⟩
theorem lk_L_36 : tl_kV RL 36 RX12 yX12_slip cX12_slip 6 (some .int) 4 := ⟨wk_300, wk_297, wk_298, wk_299, wk_5, ⟨by decide +kernel, by decide +kernel, by decide +kernel⟩⟩
theorem dL_law_413 : decode cL_law 413 = .ok (.aload_n 1, 1) := lw_f43 (lw_at lw_e12 (j := 29) rfl)
theorem dL_law_414 : decode cL_law 414 = .ok (.aload_n 0, 1) := lw_f42 (lw_at lw_e12 (j := 30) rfl)
theorem dL_law_415 : decode cL_law 415 = .ok (.iload_n 3, 1) := lw_f29 (lw_at lw_e12 (j := 31) rfl)
theorem dL_law_416 : decode cL_law 416 = .ok (.iconst 1, 1) := lw_f4 (lw_at lw_e13 (j := 0) rfl)
theorem dL_law_417 : decode cL_law 417 = .ok (.iadd, 1) := lw_f96 (lw_at lw_e13 (j := 1) rfl)
theorem dL_law_418 : decode cL_law 418 = .ok (.iaload, 1) := lw_f46 (lw_at lw_e13 (j := 2) rfl)
theorem dL_law_419 : decode cL_law 419 = .ok (.aload_n 0, 1) := lw_f42 (lw_at lw_e13 (j := 3) rfl)
theorem dL_law_420 : decode cL_law 420 = .ok (.iload_n 3, 1) := lw_f29 (lw_at lw_e13 (j := 4) rfl)
theorem dL_law_421 : decode cL_law 421 = .ok (.iconst 2, 1) := lw_f5 (lw_at lw_e13 (j := 5) rfl)
theorem dL_law_422 : decode cL_law 422 = .ok (.iadd, 1) := lw_f96 (lw_at lw_e13 (j := 6) rfl)
theorem dL_law_423 : decode cL_law 423 = .ok (.iaload, 1) := lw_f46 (lw_at lw_e13 (j := 7) rfl)
theorem dL_law_424 : decode cL_law 424 = .ok (.invokevirtual 37, 3) := lw_f182 (lw_at lw_e13 (j := 8) rfl) (lw_at lw_e13 (j := 9) rfl) (lw_at lw_e13 (j := 10) rfl) rfl
theorem dL_law_427 : decode cL_law 427 = .ok (.pop, 1) := lw_f87 (lw_at lw_e13 (j := 11) rfl)
theorem dL_law_428 : decode cL_law 428 = .ok (.aload_n 2, 1) := lw_f44 (lw_at lw_e13 (j := 12) rfl)
theorem dL_law_429 : decode cL_law 429 = .ok (.aload_n 0, 1) := lw_f42 (lw_at lw_e13 (j := 13) rfl)
theorem dL_law_430 : decode cL_law 430 = .ok (.iload_n 3, 1) := lw_f29 (lw_at lw_e13 (j := 14) rfl)
theorem dL_law_431 : decode cL_law 431 = .ok (.iconst 1, 1) := lw_f4 (lw_at lw_e13 (j := 15) rfl)
theorem dL_law_432 : decode cL_law 432 = .ok (.iadd, 1) := lw_f96 (lw_at lw_e13 (j := 16) rfl)
theorem dL_law_433 : decode cL_law 433 = .ok (.iaload, 1) := lw_f46 (lw_at lw_e13 (j := 17) rfl)
theorem dL_law_434 : decode cL_law 434 = .ok (.aload_n 0, 1) := lw_f42 (lw_at lw_e13 (j := 18) rfl)
theorem dL_law_435 : decode cL_law 435 = .ok (.iload_n 3, 1) := lw_f29 (lw_at lw_e13 (j := 19) rfl)
theorem dL_law_436 : decode cL_law 436 = .ok (.iconst 2, 1) := lw_f5 (lw_at lw_e13 (j := 20) rfl)
theorem dL_law_437 : decode cL_law 437 = .ok (.iadd, 1) := lw_f96 (lw_at lw_e13 (j := 21) rfl)
theorem dL_law_438 : decode cL_law 438 = .ok (.iaload, 1) := lw_f46 (lw_at lw_e13 (j := 22) rfl)
theorem dL_law_439 : decode cL_law 439 = .ok (.invokevirtual 40, 3) := lw_f182 (lw_at lw_e13 (j := 23) rfl) (lw_at lw_e13 (j := 24) rfl) (lw_at lw_e13 (j := 25) rfl) rfl
theorem dL_law_442 : decode cL_law 442 = .ok (.pop, 1) := lw_f87 (lw_at lw_e13 (j := 26) rfl)
theorem dL_law_443 : decode cL_law 443 = .ok (.goto 1562, 3) := lw_f167 (lw_at lw_e13 (j := 27) rfl) (lw_at lw_e13 (j := 28) rfl) (lw_at lw_e13 (j := 29) rfl) (by decide)
theorem wk_303 : Cond.methodLink RL 37 yX11_anew ∈ tl_L := List.mem_filter.mpr ⟨lw_m3 (i := 25) rfl, rfl⟩
theorem wk_304 : Cond.instanceMethod yX11_anew ∈ tl_L := List.mem_filter.mpr ⟨lw_m3 (i := 26) rfl, rfl⟩
theorem wk_305 : Cond.selects RX11 yX11_anew yX11_anew ∈ tl_L := List.mem_filter.mpr ⟨lw_m3 (i := 27) rfl, rfl⟩
theorem wk_306 : Cond.code yX11_anew cX11_anew 4 (some .int) ∈ tl_L := List.mem_filter.mpr ⟨lw_m3 (i := 28) rfl, rfl⟩
theorem wk_307 : Cond.methodLink RL 40 yX12_anew ∈ tl_L := List.mem_filter.mpr ⟨lw_m7 (i := 19) rfl, rfl⟩
theorem wk_308 : Cond.instanceMethod yX12_anew ∈ tl_L := List.mem_filter.mpr ⟨lw_m7 (i := 20) rfl, rfl⟩
theorem wk_309 : Cond.selects RX12 yX12_anew yX12_anew ∈ tl_L := List.mem_filter.mpr ⟨lw_m7 (i := 21) rfl, rfl⟩
theorem wk_310 : Cond.code yX12_anew cX12_anew 4 (some .int) ∈ tl_L := List.mem_filter.mpr ⟨lw_m7 (i := 22) rfl, rfl⟩
theorem lk_L_37 : tl_kV RL 37 RX11 yX11_anew cX11_anew 4 (some .int) 2 := ⟨wk_306, wk_303, wk_304, wk_305, wk_2, ⟨by decide +kernel, by decide +kernel, by decide +kernel⟩⟩
theorem lk_L_40 : tl_kV RL 40 RX12 yX12_anew cX12_anew 4 (some .int) 2 := ⟨wk_310, wk_307, wk_308, wk_309, wk_5, ⟨by decide +kernel, by decide +kernel, by decide +kernel⟩⟩
theorem dL_law_446 : decode cL_law 446 = .ok (.aload_n 1, 1) := lw_f43 (lw_at lw_e13 (j := 30) rfl)
theorem dL_law_447 : decode cL_law 447 = .ok (.aload_n 0, 1) := lw_f42 (lw_at lw_e13 (j := 31) rfl)
theorem dL_law_448 : decode cL_law 448 = .ok (.iload_n 3, 1) := lw_f29 (lw_at lw_e14 (j := 0) rfl)
theorem dL_law_449 : decode cL_law 449 = .ok (.iconst 1, 1) := lw_f4 (lw_at lw_e14 (j := 1) rfl)
theorem dL_law_450 : decode cL_law 450 = .ok (.iadd, 1) := lw_f96 (lw_at lw_e14 (j := 2) rfl)
theorem dL_law_451 : decode cL_law 451 = .ok (.iaload, 1) := lw_f46 (lw_at lw_e14 (j := 3) rfl)
theorem dL_law_452 : decode cL_law 452 = .ok (.aload_n 0, 1) := lw_f42 (lw_at lw_e14 (j := 4) rfl)
theorem dL_law_453 : decode cL_law 453 = .ok (.iload_n 3, 1) := lw_f29 (lw_at lw_e14 (j := 5) rfl)
theorem dL_law_454 : decode cL_law 454 = .ok (.iconst 2, 1) := lw_f5 (lw_at lw_e14 (j := 6) rfl)
theorem dL_law_455 : decode cL_law 455 = .ok (.iadd, 1) := lw_f96 (lw_at lw_e14 (j := 7) rfl)
theorem dL_law_456 : decode cL_law 456 = .ok (.iaload, 1) := lw_f46 (lw_at lw_e14 (j := 8) rfl)
theorem dL_law_457 : decode cL_law 457 = .ok (.aload_n 0, 1) := lw_f42 (lw_at lw_e14 (j := 9) rfl)
theorem dL_law_458 : decode cL_law 458 = .ok (.iload_n 3, 1) := lw_f29 (lw_at lw_e14 (j := 10) rfl)
theorem dL_law_459 : decode cL_law 459 = .ok (.iconst 3, 1) := lw_f6 (lw_at lw_e14 (j := 11) rfl)
theorem dL_law_460 : decode cL_law 460 = .ok (.iadd, 1) := lw_f96 (lw_at lw_e14 (j := 12) rfl)
theorem dL_law_461 : decode cL_law 461 = .ok (.iaload, 1) := lw_f46 (lw_at lw_e14 (j := 13) rfl)
theorem dL_law_462 : decode cL_law 462 = .ok (.invokevirtual 41, 3) := lw_f182 (lw_at lw_e14 (j := 14) rfl) (lw_at lw_e14 (j := 15) rfl) (lw_at lw_e14 (j := 16) rfl) rfl
theorem dL_law_465 : decode cL_law 465 = .ok (.pop, 1) := lw_f87 (lw_at lw_e14 (j := 17) rfl)
theorem dL_law_466 : decode cL_law 466 = .ok (.aload_n 2, 1) := lw_f44 (lw_at lw_e14 (j := 18) rfl)
theorem dL_law_467 : decode cL_law 467 = .ok (.aload_n 0, 1) := lw_f42 (lw_at lw_e14 (j := 19) rfl)
theorem dL_law_468 : decode cL_law 468 = .ok (.iload_n 3, 1) := lw_f29 (lw_at lw_e14 (j := 20) rfl)
theorem dL_law_469 : decode cL_law 469 = .ok (.iconst 1, 1) := lw_f4 (lw_at lw_e14 (j := 21) rfl)
theorem dL_law_470 : decode cL_law 470 = .ok (.iadd, 1) := lw_f96 (lw_at lw_e14 (j := 22) rfl)
theorem dL_law_471 : decode cL_law 471 = .ok (.iaload, 1) := lw_f46 (lw_at lw_e14 (j := 23) rfl)
theorem dL_law_472 : decode cL_law 472 = .ok (.aload_n 0, 1) := lw_f42 (lw_at lw_e14 (j := 24) rfl)
theorem dL_law_473 : decode cL_law 473 = .ok (.iload_n 3, 1) := lw_f29 (lw_at lw_e14 (j := 25) rfl)
theorem dL_law_474 : decode cL_law 474 = .ok (.iconst 2, 1) := lw_f5 (lw_at lw_e14 (j := 26) rfl)
theorem dL_law_475 : decode cL_law 475 = .ok (.iadd, 1) := lw_f96 (lw_at lw_e14 (j := 27) rfl)
theorem dL_law_476 : decode cL_law 476 = .ok (.iaload, 1) := lw_f46 (lw_at lw_e14 (j := 28) rfl)
theorem dL_law_477 : decode cL_law 477 = .ok (.aload_n 0, 1) := lw_f42 (lw_at lw_e14 (j := 29) rfl)
theorem dL_law_478 : decode cL_law 478 = .ok (.iload_n 3, 1) := lw_f29 (lw_at lw_e14 (j := 30) rfl)
theorem dL_law_479 : decode cL_law 479 = .ok (.iconst 3, 1) := lw_f6 (lw_at lw_e14 (j := 31) rfl)
theorem dL_law_480 : decode cL_law 480 = .ok (.iadd, 1) := lw_f96 (lw_at lw_e15 (j := 0) rfl)
theorem dL_law_481 : decode cL_law 481 = .ok (.iaload, 1) := lw_f46 (lw_at lw_e15 (j := 1) rfl)
theorem dL_law_482 : decode cL_law 482 = .ok (.invokevirtual 44, 3) := lw_f182 (lw_at lw_e15 (j := 2) rfl) (lw_at lw_e15 (j := 3) rfl) (lw_at lw_e15 (j := 4) rfl) rfl
theorem dL_law_485 : decode cL_law 485 = .ok (.pop, 1) := lw_f87 (lw_at lw_e15 (j := 5) rfl)
theorem dL_law_486 : decode cL_law 486 = .ok (.goto 1519, 3) := lw_f167 (lw_at lw_e15 (j := 6) rfl) (lw_at lw_e15 (j := 7) rfl) (lw_at lw_e15 (j := 8) rfl) (by decide)
theorem wk_311 : Cond.methodLink RL 41 yX11_line ∈ tl_L := List.mem_filter.mpr ⟨lw_m3 (i := 32) rfl, rfl⟩
theorem wk_312 : Cond.instanceMethod yX11_line ∈ tl_L := List.mem_filter.mpr ⟨lw_m3 (i := 33) rfl, rfl⟩
theorem wk_313 : Cond.selects RX11 yX11_line yX11_line ∈ tl_L := List.mem_filter.mpr ⟨lw_m3 (i := 34) rfl, rfl⟩
theorem wk_314 : Cond.code yX11_line cX11_line 4 (some .int) ∈ tl_L := List.mem_filter.mpr ⟨lw_m3 (i := 35) rfl, rfl⟩
theorem wk_321 : Cond.methodLink RL 44 yX12_line ∈ tl_L := List.mem_filter.mpr ⟨lw_m7 (i := 23) rfl, rfl⟩
theorem wk_322 : Cond.instanceMethod yX12_line ∈ tl_L := List.mem_filter.mpr ⟨lw_m7 (i := 24) rfl, rfl⟩
theorem wk_323 : Cond.selects RX12 yX12_line yX12_line ∈ tl_L := List.mem_filter.mpr ⟨lw_m7 (i := 25) rfl, rfl⟩
theorem wk_324 : Cond.code yX12_line cX12_line 5 (some .int) ∈ tl_L := List.mem_filter.mpr ⟨lw_m7 (i := 26) rfl, rfl⟩
theorem lk_L_41 : tl_kV RL 41 RX11 yX11_line cX11_line 4 (some .int) 3 := ⟨wk_314, wk_311, wk_312, wk_313, wk_2, ⟨by decide +kernel, by decide +kernel, by decide +kernel⟩⟩
theorem lk_L_44 : tl_kV RL 44 RX12 yX12_line cX12_line 5 (some .int) 3 := ⟨wk_324, wk_321, wk_322, wk_323, wk_5, ⟨by decide +kernel, by decide +kernel, by decide +kernel⟩⟩
theorem dL_law_489 : decode cL_law 489 = .ok (.aload_n 1, 1) := lw_f43 (lw_at lw_e15 (j := 9) rfl)
theorem dL_law_490 : decode cL_law 490 = .ok (.aload_n 0, 1) := lw_f42 (lw_at lw_e15 (j := 10) rfl)
theorem dL_law_491 : decode cL_law 491 = .ok (.iload_n 3, 1) := lw_f29 (lw_at lw_e15 (j := 11) rfl)
theorem dL_law_492 : decode cL_law 492 = .ok (.iconst 1, 1) := lw_f4 (lw_at lw_e15 (j := 12) rfl)
theorem dL_law_493 : decode cL_law 493 = .ok (.iadd, 1) := lw_f96 (lw_at lw_e15 (j := 13) rfl)
theorem dL_law_494 : decode cL_law 494 = .ok (.iaload, 1) := lw_f46 (lw_at lw_e15 (j := 14) rfl)
theorem dL_law_495 : decode cL_law 495 = .ok (.aload_n 0, 1) := lw_f42 (lw_at lw_e15 (j := 15) rfl)
theorem dL_law_496 : decode cL_law 496 = .ok (.iload_n 3, 1) := lw_f29 (lw_at lw_e15 (j := 16) rfl)
theorem dL_law_497 : decode cL_law 497 = .ok (.iconst 2, 1) := lw_f5 (lw_at lw_e15 (j := 17) rfl)
theorem dL_law_498 : decode cL_law 498 = .ok (.iadd, 1) := lw_f96 (lw_at lw_e15 (j := 18) rfl)
theorem dL_law_499 : decode cL_law 499 = .ok (.iaload, 1) := lw_f46 (lw_at lw_e15 (j := 19) rfl)
theorem dL_law_500 : decode cL_law 500 = .ok (.aload_n 0, 1) := lw_f42 (lw_at lw_e15 (j := 20) rfl)
theorem dL_law_501 : decode cL_law 501 = .ok (.iload_n 3, 1) := lw_f29 (lw_at lw_e15 (j := 21) rfl)
theorem dL_law_502 : decode cL_law 502 = .ok (.iconst 3, 1) := lw_f6 (lw_at lw_e15 (j := 22) rfl)
theorem dL_law_503 : decode cL_law 503 = .ok (.iadd, 1) := lw_f96 (lw_at lw_e15 (j := 23) rfl)
theorem dL_law_504 : decode cL_law 504 = .ok (.iaload, 1) := lw_f46 (lw_at lw_e15 (j := 24) rfl)
theorem dL_law_505 : decode cL_law 505 = .ok (.aload_n 0, 1) := lw_f42 (lw_at lw_e15 (j := 25) rfl)
theorem dL_law_506 : decode cL_law 506 = .ok (.iload_n 3, 1) := lw_f29 (lw_at lw_e15 (j := 26) rfl)
theorem dL_law_507 : decode cL_law 507 = .ok (.iconst 4, 1) := lw_f7 (lw_at lw_e15 (j := 27) rfl)
theorem dL_law_508 : decode cL_law 508 = .ok (.iadd, 1) := lw_f96 (lw_at lw_e15 (j := 28) rfl)
theorem dL_law_509 : decode cL_law 509 = .ok (.iaload, 1) := lw_f46 (lw_at lw_e15 (j := 29) rfl)
theorem dL_law_510 : decode cL_law 510 = .ok (.aload_n 0, 1) := lw_f42 (lw_at lw_e15 (j := 30) rfl)
theorem dL_law_511 : decode cL_law 511 = .ok (.iload_n 3, 1) := lw_f29 (lw_at lw_e15 (j := 31) rfl)
theorem dL_law_512 : decode cL_law 512 = .ok (.iconst 5, 1) := lw_f8 (lw_at lw_e16 (j := 0) rfl)
theorem dL_law_513 : decode cL_law 513 = .ok (.iadd, 1) := lw_f96 (lw_at lw_e16 (j := 1) rfl)
theorem dL_law_514 : decode cL_law 514 = .ok (.iaload, 1) := lw_f46 (lw_at lw_e16 (j := 2) rfl)
theorem dL_law_515 : decode cL_law 515 = .ok (.invokevirtual 45, 3) := lw_f182 (lw_at lw_e16 (j := 3) rfl) (lw_at lw_e16 (j := 4) rfl) (lw_at lw_e16 (j := 5) rfl) rfl
theorem dL_law_518 : decode cL_law 518 = .ok (.pop, 1) := lw_f87 (lw_at lw_e16 (j := 6) rfl)
theorem dL_law_519 : decode cL_law 519 = .ok (.aload_n 2, 1) := lw_f44 (lw_at lw_e16 (j := 7) rfl)
theorem dL_law_520 : decode cL_law 520 = .ok (.aload_n 0, 1) := lw_f42 (lw_at lw_e16 (j := 8) rfl)
theorem dL_law_521 : decode cL_law 521 = .ok (.iload_n 3, 1) := lw_f29 (lw_at lw_e16 (j := 9) rfl)
theorem dL_law_522 : decode cL_law 522 = .ok (.iconst 1, 1) := lw_f4 (lw_at lw_e16 (j := 10) rfl)
theorem dL_law_523 : decode cL_law 523 = .ok (.iadd, 1) := lw_f96 (lw_at lw_e16 (j := 11) rfl)
theorem dL_law_524 : decode cL_law 524 = .ok (.iaload, 1) := lw_f46 (lw_at lw_e16 (j := 12) rfl)
theorem dL_law_525 : decode cL_law 525 = .ok (.aload_n 0, 1) := lw_f42 (lw_at lw_e16 (j := 13) rfl)
theorem dL_law_526 : decode cL_law 526 = .ok (.iload_n 3, 1) := lw_f29 (lw_at lw_e16 (j := 14) rfl)
theorem dL_law_527 : decode cL_law 527 = .ok (.iconst 2, 1) := lw_f5 (lw_at lw_e16 (j := 15) rfl)
theorem dL_law_528 : decode cL_law 528 = .ok (.iadd, 1) := lw_f96 (lw_at lw_e16 (j := 16) rfl)
theorem dL_law_529 : decode cL_law 529 = .ok (.iaload, 1) := lw_f46 (lw_at lw_e16 (j := 17) rfl)
theorem dL_law_530 : decode cL_law 530 = .ok (.aload_n 0, 1) := lw_f42 (lw_at lw_e16 (j := 18) rfl)
theorem dL_law_531 : decode cL_law 531 = .ok (.iload_n 3, 1) := lw_f29 (lw_at lw_e16 (j := 19) rfl)
theorem dL_law_532 : decode cL_law 532 = .ok (.iconst 3, 1) := lw_f6 (lw_at lw_e16 (j := 20) rfl)
theorem dL_law_533 : decode cL_law 533 = .ok (.iadd, 1) := lw_f96 (lw_at lw_e16 (j := 21) rfl)
theorem dL_law_534 : decode cL_law 534 = .ok (.iaload, 1) := lw_f46 (lw_at lw_e16 (j := 22) rfl)
theorem dL_law_535 : decode cL_law 535 = .ok (.aload_n 0, 1) := lw_f42 (lw_at lw_e16 (j := 23) rfl)
theorem dL_law_536 : decode cL_law 536 = .ok (.iload_n 3, 1) := lw_f29 (lw_at lw_e16 (j := 24) rfl)
theorem dL_law_537 : decode cL_law 537 = .ok (.iconst 4, 1) := lw_f7 (lw_at lw_e16 (j := 25) rfl)
theorem dL_law_538 : decode cL_law 538 = .ok (.iadd, 1) := lw_f96 (lw_at lw_e16 (j := 26) rfl)
theorem dL_law_539 : decode cL_law 539 = .ok (.iaload, 1) := lw_f46 (lw_at lw_e16 (j := 27) rfl)
theorem dL_law_540 : decode cL_law 540 = .ok (.aload_n 0, 1) := lw_f42 (lw_at lw_e16 (j := 28) rfl)
theorem dL_law_541 : decode cL_law 541 = .ok (.iload_n 3, 1) := lw_f29 (lw_at lw_e16 (j := 29) rfl)
theorem dL_law_542 : decode cL_law 542 = .ok (.iconst 5, 1) := lw_f8 (lw_at lw_e16 (j := 30) rfl)
theorem dL_law_543 : decode cL_law 543 = .ok (.iadd, 1) := lw_f96 (lw_at lw_e16 (j := 31) rfl)
theorem dL_law_544 : decode cL_law 544 = .ok (.iaload, 1) := lw_f46 (lw_at lw_e17 (j := 0) rfl)
theorem dL_law_545 : decode cL_law 545 = .ok (.invokevirtual 49, 3) := lw_f182 (lw_at lw_e17 (j := 1) rfl) (lw_at lw_e17 (j := 2) rfl) (lw_at lw_e17 (j := 3) rfl) rfl
theorem dL_law_548 : decode cL_law 548 = .ok (.pop, 1) := lw_f87 (lw_at lw_e17 (j := 4) rfl)
theorem dL_law_549 : decode cL_law 549 = .ok (.goto 1456, 3) := lw_f167 (lw_at lw_e17 (j := 5) rfl) (lw_at lw_e17 (j := 6) rfl) (lw_at lw_e17 (j := 7) rfl) (by decide)
theorem wk_335 : Cond.methodLink RL 45 yX11_feed ∈ tl_L := List.mem_filter.mpr ⟨lw_m3 (i := 43) rfl, rfl⟩
theorem wk_336 : Cond.instanceMethod yX11_feed ∈ tl_L := List.mem_filter.mpr ⟨lw_m3 (i := 44) rfl, rfl⟩
theorem wk_337 : Cond.selects RX11 yX11_feed yX11_feed ∈ tl_L := List.mem_filter.mpr ⟨lw_m3 (i := 45) rfl, rfl⟩
theorem wk_338 : Cond.code yX11_feed cX11_feed 6 (some .int) ∈ tl_L := List.mem_filter.mpr ⟨lw_m3 (i := 46) rfl, rfl⟩
theorem wk_343 : Cond.methodLink RL 49 yX12_feed ∈ tl_L := List.mem_filter.mpr ⟨lw_m7 (i := 37) rfl, rfl⟩
theorem wk_344 : Cond.instanceMethod yX12_feed ∈ tl_L := List.mem_filter.mpr ⟨lw_m7 (i := 38) rfl, rfl⟩
theorem wk_345 : Cond.selects RX12 yX12_feed yX12_feed ∈ tl_L := List.mem_filter.mpr ⟨lw_m7 (i := 39) rfl, rfl⟩
theorem wk_346 : Cond.code yX12_feed cX12_feed 6 (some .int) ∈ tl_L := List.mem_filter.mpr ⟨lw_m7 (i := 40) rfl, rfl⟩
theorem lk_L_45 : tl_kV RL 45 RX11 yX11_feed cX11_feed 6 (some .int) 5 := ⟨wk_338, wk_335, wk_336, wk_337, wk_2, ⟨by decide +kernel, by decide +kernel, by decide +kernel⟩⟩
theorem lk_L_49 : tl_kV RL 49 RX12 yX12_feed cX12_feed 6 (some .int) 5 := ⟨wk_346, wk_343, wk_344, wk_345, wk_5, ⟨by decide +kernel, by decide +kernel, by decide +kernel⟩⟩
theorem dL_law_552 : decode cL_law 552 = .ok (.aload_n 1, 1) := lw_f43 (lw_at lw_e17 (j := 8) rfl)
theorem dL_law_553 : decode cL_law 553 = .ok (.aload_n 0, 1) := lw_f42 (lw_at lw_e17 (j := 9) rfl)
theorem dL_law_554 : decode cL_law 554 = .ok (.iload_n 3, 1) := lw_f29 (lw_at lw_e17 (j := 10) rfl)
theorem dL_law_555 : decode cL_law 555 = .ok (.iconst 1, 1) := lw_f4 (lw_at lw_e17 (j := 11) rfl)
theorem dL_law_556 : decode cL_law 556 = .ok (.iadd, 1) := lw_f96 (lw_at lw_e17 (j := 12) rfl)
theorem dL_law_557 : decode cL_law 557 = .ok (.iaload, 1) := lw_f46 (lw_at lw_e17 (j := 13) rfl)
theorem dL_law_558 : decode cL_law 558 = .ok (.invokevirtual 50, 3) := lw_f182 (lw_at lw_e17 (j := 14) rfl) (lw_at lw_e17 (j := 15) rfl) (lw_at lw_e17 (j := 16) rfl) rfl
theorem dL_law_561 : decode cL_law 561 = .ok (.pop, 1) := lw_f87 (lw_at lw_e17 (j := 17) rfl)
theorem dL_law_562 : decode cL_law 562 = .ok (.aload_n 2, 1) := lw_f44 (lw_at lw_e17 (j := 18) rfl)
theorem dL_law_563 : decode cL_law 563 = .ok (.aload_n 0, 1) := lw_f42 (lw_at lw_e17 (j := 19) rfl)
theorem dL_law_564 : decode cL_law 564 = .ok (.iload_n 3, 1) := lw_f29 (lw_at lw_e17 (j := 20) rfl)
theorem dL_law_565 : decode cL_law 565 = .ok (.iconst 1, 1) := lw_f4 (lw_at lw_e17 (j := 21) rfl)
theorem dL_law_566 : decode cL_law 566 = .ok (.iadd, 1) := lw_f96 (lw_at lw_e17 (j := 22) rfl)
theorem dL_law_567 : decode cL_law 567 = .ok (.iaload, 1) := lw_f46 (lw_at lw_e17 (j := 23) rfl)
theorem dL_law_568 : decode cL_law 568 = .ok (.invokevirtual 54, 3) := lw_f182 (lw_at lw_e17 (j := 24) rfl) (lw_at lw_e17 (j := 25) rfl) (lw_at lw_e17 (j := 26) rfl) rfl
theorem dL_law_571 : decode cL_law 571 = .ok (.pop, 1) := lw_f87 (lw_at lw_e17 (j := 27) rfl)
theorem dL_law_572 : decode cL_law 572 = .ok (.goto 1433, 3) := lw_f167 (lw_at lw_e17 (j := 28) rfl) (lw_at lw_e17 (j := 29) rfl) (lw_at lw_e17 (j := 30) rfl) (by decide)
theorem wk_352 : Cond.methodLink RL 50 yX11_end ∈ tl_L := List.mem_filter.mpr ⟨lw_m3 (i := 51) rfl, rfl⟩
theorem wk_353 : Cond.instanceMethod yX11_end ∈ tl_L := List.mem_filter.mpr ⟨lw_m3 (i := 52) rfl, rfl⟩
theorem wk_354 : Cond.selects RX11 yX11_end yX11_end ∈ tl_L := List.mem_filter.mpr ⟨lw_m3 (i := 53) rfl, rfl⟩
theorem wk_355 : Cond.code yX11_end cX11_end 2 (some .int) ∈ tl_L := List.mem_filter.mpr ⟨lw_m3 (i := 54) rfl, rfl⟩
theorem wk_356 : Cond.methodLink RL 54 yX12_end ∈ tl_L := List.mem_filter.mpr ⟨lw_m7 (i := 45) rfl, rfl⟩
theorem wk_357 : Cond.instanceMethod yX12_end ∈ tl_L := List.mem_filter.mpr ⟨lw_m7 (i := 46) rfl, rfl⟩
theorem wk_358 : Cond.selects RX12 yX12_end yX12_end ∈ tl_L := List.mem_filter.mpr ⟨lw_m7 (i := 47) rfl, rfl⟩
theorem wk_359 : Cond.code yX12_end cX12_end 2 (some .int) ∈ tl_L := List.mem_filter.mpr ⟨lw_m7 (i := 48) rfl, rfl⟩
theorem lk_L_50 : tl_kV RL 50 RX11 yX11_end cX11_end 2 (some .int) 1 := ⟨wk_355, wk_352, wk_353, wk_354, wk_2, ⟨by decide +kernel, by decide +kernel, by decide +kernel⟩⟩
theorem lk_L_54 : tl_kV RL 54 RX12 yX12_end cX12_end 2 (some .int) 1 := ⟨wk_359, wk_356, wk_357, wk_358, wk_5, ⟨by decide +kernel, by decide +kernel, by decide +kernel⟩⟩
theorem dL_law_575 : decode cL_law 575 = .ok (.aload_n 1, 1) := lw_f43 (lw_at lw_e17 (j := 31) rfl)
theorem dL_law_576 : decode cL_law 576 = .ok (.aload_n 0, 1) := lw_f42 (lw_at lw_e18 (j := 0) rfl)
theorem dL_law_577 : decode cL_law 577 = .ok (.iload_n 3, 1) := lw_f29 (lw_at lw_e18 (j := 1) rfl)
theorem dL_law_578 : decode cL_law 578 = .ok (.iconst 1, 1) := lw_f4 (lw_at lw_e18 (j := 2) rfl)
theorem dL_law_579 : decode cL_law 579 = .ok (.iadd, 1) := lw_f96 (lw_at lw_e18 (j := 3) rfl)
theorem dL_law_580 : decode cL_law 580 = .ok (.iaload, 1) := lw_f46 (lw_at lw_e18 (j := 4) rfl)
theorem dL_law_581 : decode cL_law 581 = .ok (.invokevirtual 55, 3) := lw_f182 (lw_at lw_e18 (j := 5) rfl) (lw_at lw_e18 (j := 6) rfl) (lw_at lw_e18 (j := 7) rfl) rfl
theorem dL_law_584 : decode cL_law 584 = .ok (.pop, 1) := lw_f87 (lw_at lw_e18 (j := 8) rfl)
theorem dL_law_585 : decode cL_law 585 = .ok (.aload_n 2, 1) := lw_f44 (lw_at lw_e18 (j := 9) rfl)
theorem dL_law_586 : decode cL_law 586 = .ok (.aload_n 0, 1) := lw_f42 (lw_at lw_e18 (j := 10) rfl)
theorem dL_law_587 : decode cL_law 587 = .ok (.iload_n 3, 1) := lw_f29 (lw_at lw_e18 (j := 11) rfl)
theorem dL_law_588 : decode cL_law 588 = .ok (.iconst 1, 1) := lw_f4 (lw_at lw_e18 (j := 12) rfl)
theorem dL_law_589 : decode cL_law 589 = .ok (.iadd, 1) := lw_f96 (lw_at lw_e18 (j := 13) rfl)
theorem dL_law_590 : decode cL_law 590 = .ok (.iaload, 1) := lw_f46 (lw_at lw_e18 (j := 14) rfl)
theorem dL_law_591 : decode cL_law 591 = .ok (.invokevirtual 58, 3) := lw_f182 (lw_at lw_e18 (j := 15) rfl) (lw_at lw_e18 (j := 16) rfl) (lw_at lw_e18 (j := 17) rfl) rfl
theorem dL_law_594 : decode cL_law 594 = .ok (.pop, 1) := lw_f87 (lw_at lw_e18 (j := 18) rfl)
theorem dL_law_595 : decode cL_law 595 = .ok (.goto 1410, 3) := lw_f167 (lw_at lw_e18 (j := 19) rfl) (lw_at lw_e18 (j := 20) rfl) (lw_at lw_e18 (j := 21) rfl) (by decide)
theorem wk_360 : Cond.methodLink RL 55 yX11_text ∈ tl_L := List.mem_filter.mpr ⟨lw_m3 (i := 55) rfl, rfl⟩
theorem wk_361 : Cond.instanceMethod yX11_text ∈ tl_L := List.mem_filter.mpr ⟨lw_m3 (i := 56) rfl, rfl⟩
theorem wk_362 : Cond.selects RX11 yX11_text yX11_text ∈ tl_L := List.mem_filter.mpr ⟨lw_m3 (i := 57) rfl, rfl⟩
theorem wk_363 : Cond.code yX11_text cX11_text 5 (some .int) ∈ tl_L := List.mem_filter.mpr ⟨lw_m3 (i := 58) rfl, rfl⟩
theorem wk_532 : Cond.methodLink RL 58 yX12_text ∈ tl_L := List.mem_filter.mpr ⟨lw_m7 (i := 49) rfl, rfl⟩
theorem wk_533 : Cond.instanceMethod yX12_text ∈ tl_L := List.mem_filter.mpr ⟨lw_m7 (i := 50) rfl, rfl⟩
theorem wk_534 : Cond.selects RX12 yX12_text yX12_text ∈ tl_L := List.mem_filter.mpr ⟨lw_m7 (i := 51) rfl, rfl⟩
theorem wk_535 : Cond.code yX12_text cX12_text 3 (some .int) ∈ tl_L := List.mem_filter.mpr ⟨lw_m7 (i := 52) rfl, rfl⟩
theorem lk_L_55 : tl_kV RL 55 RX11 yX11_text cX11_text 5 (some .int) 1 := ⟨wk_363, wk_360, wk_361, wk_362, wk_2, ⟨by decide +kernel, by decide +kernel, by decide +kernel⟩⟩
theorem lk_L_58 : tl_kV RL 58 RX12 yX12_text cX12_text 3 (some .int) 1 := ⟨wk_535, wk_532, wk_533, wk_534, wk_5, ⟨by decide +kernel, by decide +kernel, by decide +kernel⟩⟩
theorem dL_law_598 : decode cL_law 598 = .ok (.aload_n 1, 1) := lw_f43 (lw_at lw_e18 (j := 22) rfl)
theorem dL_law_599 : decode cL_law 599 = .ok (.aload_n 0, 1) := lw_f42 (lw_at lw_e18 (j := 23) rfl)
theorem dL_law_600 : decode cL_law 600 = .ok (.iload_n 3, 1) := lw_f29 (lw_at lw_e18 (j := 24) rfl)
theorem dL_law_601 : decode cL_law 601 = .ok (.iconst 1, 1) := lw_f4 (lw_at lw_e18 (j := 25) rfl)
theorem dL_law_602 : decode cL_law 602 = .ok (.iadd, 1) := lw_f96 (lw_at lw_e18 (j := 26) rfl)
theorem dL_law_603 : decode cL_law 603 = .ok (.iaload, 1) := lw_f46 (lw_at lw_e18 (j := 27) rfl)
theorem dL_law_604 : decode cL_law 604 = .ok (.aload_n 0, 1) := lw_f42 (lw_at lw_e18 (j := 28) rfl)
theorem dL_law_605 : decode cL_law 605 = .ok (.iload_n 3, 1) := lw_f29 (lw_at lw_e18 (j := 29) rfl)
theorem dL_law_606 : decode cL_law 606 = .ok (.iconst 2, 1) := lw_f5 (lw_at lw_e18 (j := 30) rfl)
theorem dL_law_607 : decode cL_law 607 = .ok (.iadd, 1) := lw_f96 (lw_at lw_e18 (j := 31) rfl)
theorem dL_law_608 : decode cL_law 608 = .ok (.iaload, 1) := lw_f46 (lw_at lw_e19 (j := 0) rfl)
theorem dL_law_609 : decode cL_law 609 = .ok (.aload_n 0, 1) := lw_f42 (lw_at lw_e19 (j := 1) rfl)
theorem dL_law_610 : decode cL_law 610 = .ok (.iload_n 3, 1) := lw_f29 (lw_at lw_e19 (j := 2) rfl)
theorem dL_law_611 : decode cL_law 611 = .ok (.iconst 3, 1) := lw_f6 (lw_at lw_e19 (j := 3) rfl)
theorem dL_law_612 : decode cL_law 612 = .ok (.iadd, 1) := lw_f96 (lw_at lw_e19 (j := 4) rfl)
theorem dL_law_613 : decode cL_law 613 = .ok (.iaload, 1) := lw_f46 (lw_at lw_e19 (j := 5) rfl)
theorem dL_law_614 : decode cL_law 614 = .ok (.aload_n 0, 1) := lw_f42 (lw_at lw_e19 (j := 6) rfl)
theorem dL_law_615 : decode cL_law 615 = .ok (.iload_n 3, 1) := lw_f29 (lw_at lw_e19 (j := 7) rfl)
theorem dL_law_616 : decode cL_law 616 = .ok (.iconst 4, 1) := lw_f7 (lw_at lw_e19 (j := 8) rfl)
theorem dL_law_617 : decode cL_law 617 = .ok (.iadd, 1) := lw_f96 (lw_at lw_e19 (j := 9) rfl)
theorem dL_law_618 : decode cL_law 618 = .ok (.iaload, 1) := lw_f46 (lw_at lw_e19 (j := 10) rfl)
theorem dL_law_619 : decode cL_law 619 = .ok (.aload_n 0, 1) := lw_f42 (lw_at lw_e19 (j := 11) rfl)
theorem dL_law_620 : decode cL_law 620 = .ok (.iload_n 3, 1) := lw_f29 (lw_at lw_e19 (j := 12) rfl)
theorem dL_law_621 : decode cL_law 621 = .ok (.iconst 5, 1) := lw_f8 (lw_at lw_e19 (j := 13) rfl)
theorem dL_law_622 : decode cL_law 622 = .ok (.iadd, 1) := lw_f96 (lw_at lw_e19 (j := 14) rfl)
theorem dL_law_623 : decode cL_law 623 = .ok (.iaload, 1) := lw_f46 (lw_at lw_e19 (j := 15) rfl)
theorem dL_law_624 : decode cL_law 624 = .ok (.invokevirtual 59, 3) := lw_f182 (lw_at lw_e19 (j := 16) rfl) (lw_at lw_e19 (j := 17) rfl) (lw_at lw_e19 (j := 18) rfl) rfl
theorem dL_law_627 : decode cL_law 627 = .ok (.pop, 1) := lw_f87 (lw_at lw_e19 (j := 19) rfl)
theorem dL_law_628 : decode cL_law 628 = .ok (.aload_n 2, 1) := lw_f44 (lw_at lw_e19 (j := 20) rfl)
theorem dL_law_629 : decode cL_law 629 = .ok (.aload_n 0, 1) := lw_f42 (lw_at lw_e19 (j := 21) rfl)
theorem dL_law_630 : decode cL_law 630 = .ok (.iload_n 3, 1) := lw_f29 (lw_at lw_e19 (j := 22) rfl)
theorem dL_law_631 : decode cL_law 631 = .ok (.iconst 1, 1) := lw_f4 (lw_at lw_e19 (j := 23) rfl)
theorem dL_law_632 : decode cL_law 632 = .ok (.iadd, 1) := lw_f96 (lw_at lw_e19 (j := 24) rfl)
theorem dL_law_633 : decode cL_law 633 = .ok (.iaload, 1) := lw_f46 (lw_at lw_e19 (j := 25) rfl)
theorem dL_law_634 : decode cL_law 634 = .ok (.aload_n 0, 1) := lw_f42 (lw_at lw_e19 (j := 26) rfl)
theorem dL_law_635 : decode cL_law 635 = .ok (.iload_n 3, 1) := lw_f29 (lw_at lw_e19 (j := 27) rfl)
theorem dL_law_636 : decode cL_law 636 = .ok (.iconst 2, 1) := lw_f5 (lw_at lw_e19 (j := 28) rfl)
theorem dL_law_637 : decode cL_law 637 = .ok (.iadd, 1) := lw_f96 (lw_at lw_e19 (j := 29) rfl)
theorem dL_law_638 : decode cL_law 638 = .ok (.iaload, 1) := lw_f46 (lw_at lw_e19 (j := 30) rfl)
theorem dL_law_639 : decode cL_law 639 = .ok (.aload_n 0, 1) := lw_f42 (lw_at lw_e19 (j := 31) rfl)
theorem dL_law_640 : decode cL_law 640 = .ok (.iload_n 3, 1) := lw_f29 (lw_at lw_e20 (j := 0) rfl)
theorem dL_law_641 : decode cL_law 641 = .ok (.iconst 3, 1) := lw_f6 (lw_at lw_e20 (j := 1) rfl)
theorem dL_law_642 : decode cL_law 642 = .ok (.iadd, 1) := lw_f96 (lw_at lw_e20 (j := 2) rfl)
theorem dL_law_643 : decode cL_law 643 = .ok (.iaload, 1) := lw_f46 (lw_at lw_e20 (j := 3) rfl)
theorem dL_law_644 : decode cL_law 644 = .ok (.aload_n 0, 1) := lw_f42 (lw_at lw_e20 (j := 4) rfl)
theorem dL_law_645 : decode cL_law 645 = .ok (.iload_n 3, 1) := lw_f29 (lw_at lw_e20 (j := 5) rfl)
theorem dL_law_646 : decode cL_law 646 = .ok (.iconst 4, 1) := lw_f7 (lw_at lw_e20 (j := 6) rfl)
theorem dL_law_647 : decode cL_law 647 = .ok (.iadd, 1) := lw_f96 (lw_at lw_e20 (j := 7) rfl)
theorem dL_law_648 : decode cL_law 648 = .ok (.iaload, 1) := lw_f46 (lw_at lw_e20 (j := 8) rfl)
theorem dL_law_649 : decode cL_law 649 = .ok (.aload_n 0, 1) := lw_f42 (lw_at lw_e20 (j := 9) rfl)
theorem dL_law_650 : decode cL_law 650 = .ok (.iload_n 3, 1) := lw_f29 (lw_at lw_e20 (j := 10) rfl)
theorem dL_law_651 : decode cL_law 651 = .ok (.iconst 5, 1) := lw_f8 (lw_at lw_e20 (j := 11) rfl)
theorem dL_law_652 : decode cL_law 652 = .ok (.iadd, 1) := lw_f96 (lw_at lw_e20 (j := 12) rfl)
theorem dL_law_653 : decode cL_law 653 = .ok (.iaload, 1) := lw_f46 (lw_at lw_e20 (j := 13) rfl)
theorem dL_law_654 : decode cL_law 654 = .ok (.invokevirtual 62, 3) := lw_f182 (lw_at lw_e20 (j := 14) rfl) (lw_at lw_e20 (j := 15) rfl) (lw_at lw_e20 (j := 16) rfl) rfl
theorem dL_law_657 : decode cL_law 657 = .ok (.pop, 1) := lw_f87 (lw_at lw_e20 (j := 17) rfl)
theorem dL_law_658 : decode cL_law 658 = .ok (.goto 1347, 3) := lw_f167 (lw_at lw_e20 (j := 18) rfl) (lw_at lw_e20 (j := 19) rfl) (lw_at lw_e20 (j := 20) rfl) (by decide)
theorem wk_689 : Cond.methodLink RL 59 yX11_make ∈ tl_L := List.mem_filter.mpr ⟨lw_m4 (i := 11) rfl, rfl⟩
theorem wk_690 : Cond.instanceMethod yX11_make ∈ tl_L := List.mem_filter.mpr ⟨lw_m4 (i := 12) rfl, rfl⟩
theorem wk_691 : Cond.selects RX11 yX11_make yX11_make ∈ tl_L := List.mem_filter.mpr ⟨lw_m4 (i := 13) rfl, rfl⟩
theorem wk_692 : Cond.code yX11_make cX11_make 8 (some .int) ∈ tl_L := List.mem_filter.mpr ⟨lw_m4 (i := 14) rfl, rfl⟩
theorem wk_772 : Cond.methodLink RL 62 yX12_make ∈ tl_L := List.mem_filter.mpr ⟨lw_m7 (i := 198) rfl, rfl⟩
theorem wk_773 : Cond.instanceMethod yX12_make ∈ tl_L := List.mem_filter.mpr ⟨lw_m7 (i := 199) rfl, rfl⟩
theorem wk_774 : Cond.selects RX12 yX12_make yX12_make ∈ tl_L := List.mem_filter.mpr ⟨lw_m7 (i := 200) rfl, rfl⟩
theorem wk_775 : Cond.code yX12_make cX12_make 7 (some .int) ∈ tl_L := List.mem_filter.mpr ⟨lw_m7 (i := 201) rfl, rfl⟩
theorem lk_L_59 : tl_kV RL 59 RX11 yX11_make cX11_make 8 (some .int) 5 := ⟨wk_692, wk_689, wk_690, wk_691, wk_2, ⟨by decide +kernel, by decide +kernel, by decide +kernel⟩⟩
theorem lk_L_62 : tl_kV RL 62 RX12 yX12_make cX12_make 7 (some .int) 5 := ⟨wk_775, wk_772, wk_773, wk_774, wk_5, ⟨by decide +kernel, by decide +kernel, by decide +kernel⟩⟩
theorem dL_law_661 : decode cL_law 661 = .ok (.aload_n 1, 1) := lw_f43 (lw_at lw_e20 (j := 21) rfl)
theorem dL_law_662 : decode cL_law 662 = .ok (.aload_n 0, 1) := lw_f42 (lw_at lw_e20 (j := 22) rfl)
theorem dL_law_663 : decode cL_law 663 = .ok (.iload_n 3, 1) := lw_f29 (lw_at lw_e20 (j := 23) rfl)
theorem dL_law_664 : decode cL_law 664 = .ok (.iconst 1, 1) := lw_f4 (lw_at lw_e20 (j := 24) rfl)
theorem dL_law_665 : decode cL_law 665 = .ok (.iadd, 1) := lw_f96 (lw_at lw_e20 (j := 25) rfl)
theorem dL_law_666 : decode cL_law 666 = .ok (.iaload, 1) := lw_f46 (lw_at lw_e20 (j := 26) rfl)
theorem dL_law_667 : decode cL_law 667 = .ok (.aload_n 0, 1) := lw_f42 (lw_at lw_e20 (j := 27) rfl)
theorem dL_law_668 : decode cL_law 668 = .ok (.iload_n 3, 1) := lw_f29 (lw_at lw_e20 (j := 28) rfl)
theorem dL_law_669 : decode cL_law 669 = .ok (.iconst 2, 1) := lw_f5 (lw_at lw_e20 (j := 29) rfl)
theorem dL_law_670 : decode cL_law 670 = .ok (.iadd, 1) := lw_f96 (lw_at lw_e20 (j := 30) rfl)
theorem dL_law_671 : decode cL_law 671 = .ok (.iaload, 1) := lw_f46 (lw_at lw_e20 (j := 31) rfl)
theorem dL_law_672 : decode cL_law 672 = .ok (.aload_n 0, 1) := lw_f42 (lw_at lw_e21 (j := 0) rfl)
theorem dL_law_673 : decode cL_law 673 = .ok (.iload_n 3, 1) := lw_f29 (lw_at lw_e21 (j := 1) rfl)
theorem dL_law_674 : decode cL_law 674 = .ok (.iconst 3, 1) := lw_f6 (lw_at lw_e21 (j := 2) rfl)
theorem dL_law_675 : decode cL_law 675 = .ok (.iadd, 1) := lw_f96 (lw_at lw_e21 (j := 3) rfl)
theorem dL_law_676 : decode cL_law 676 = .ok (.iaload, 1) := lw_f46 (lw_at lw_e21 (j := 4) rfl)
theorem dL_law_677 : decode cL_law 677 = .ok (.aload_n 0, 1) := lw_f42 (lw_at lw_e21 (j := 5) rfl)
theorem dL_law_678 : decode cL_law 678 = .ok (.iload_n 3, 1) := lw_f29 (lw_at lw_e21 (j := 6) rfl)
theorem dL_law_679 : decode cL_law 679 = .ok (.iconst 4, 1) := lw_f7 (lw_at lw_e21 (j := 7) rfl)
theorem dL_law_680 : decode cL_law 680 = .ok (.iadd, 1) := lw_f96 (lw_at lw_e21 (j := 8) rfl)
theorem dL_law_681 : decode cL_law 681 = .ok (.iaload, 1) := lw_f46 (lw_at lw_e21 (j := 9) rfl)
theorem dL_law_682 : decode cL_law 682 = .ok (.invokevirtual 63, 3) := lw_f182 (lw_at lw_e21 (j := 10) rfl) (lw_at lw_e21 (j := 11) rfl) (lw_at lw_e21 (j := 12) rfl) rfl
theorem dL_law_685 : decode cL_law 685 = .ok (.pop, 1) := lw_f87 (lw_at lw_e21 (j := 13) rfl)
theorem dL_law_686 : decode cL_law 686 = .ok (.aload_n 2, 1) := lw_f44 (lw_at lw_e21 (j := 14) rfl)
theorem dL_law_687 : decode cL_law 687 = .ok (.aload_n 0, 1) := lw_f42 (lw_at lw_e21 (j := 15) rfl)
theorem dL_law_688 : decode cL_law 688 = .ok (.iload_n 3, 1) := lw_f29 (lw_at lw_e21 (j := 16) rfl)
theorem dL_law_689 : decode cL_law 689 = .ok (.iconst 1, 1) := lw_f4 (lw_at lw_e21 (j := 17) rfl)
theorem dL_law_690 : decode cL_law 690 = .ok (.iadd, 1) := lw_f96 (lw_at lw_e21 (j := 18) rfl)
theorem dL_law_691 : decode cL_law 691 = .ok (.iaload, 1) := lw_f46 (lw_at lw_e21 (j := 19) rfl)
theorem dL_law_692 : decode cL_law 692 = .ok (.aload_n 0, 1) := lw_f42 (lw_at lw_e21 (j := 20) rfl)
theorem dL_law_693 : decode cL_law 693 = .ok (.iload_n 3, 1) := lw_f29 (lw_at lw_e21 (j := 21) rfl)
theorem dL_law_694 : decode cL_law 694 = .ok (.iconst 2, 1) := lw_f5 (lw_at lw_e21 (j := 22) rfl)
theorem dL_law_695 : decode cL_law 695 = .ok (.iadd, 1) := lw_f96 (lw_at lw_e21 (j := 23) rfl)
theorem dL_law_696 : decode cL_law 696 = .ok (.iaload, 1) := lw_f46 (lw_at lw_e21 (j := 24) rfl)
theorem dL_law_697 : decode cL_law 697 = .ok (.aload_n 0, 1) := lw_f42 (lw_at lw_e21 (j := 25) rfl)
theorem dL_law_698 : decode cL_law 698 = .ok (.iload_n 3, 1) := lw_f29 (lw_at lw_e21 (j := 26) rfl)
theorem dL_law_699 : decode cL_law 699 = .ok (.iconst 3, 1) := lw_f6 (lw_at lw_e21 (j := 27) rfl)
theorem dL_law_700 : decode cL_law 700 = .ok (.iadd, 1) := lw_f96 (lw_at lw_e21 (j := 28) rfl)
theorem dL_law_701 : decode cL_law 701 = .ok (.iaload, 1) := lw_f46 (lw_at lw_e21 (j := 29) rfl)
theorem dL_law_702 : decode cL_law 702 = .ok (.aload_n 0, 1) := lw_f42 (lw_at lw_e21 (j := 30) rfl)
theorem dL_law_703 : decode cL_law 703 = .ok (.iload_n 3, 1) := lw_f29 (lw_at lw_e21 (j := 31) rfl)
theorem dL_law_704 : decode cL_law 704 = .ok (.iconst 4, 1) := lw_f7 (lw_at lw_e22 (j := 0) rfl)
theorem dL_law_705 : decode cL_law 705 = .ok (.iadd, 1) := lw_f96 (lw_at lw_e22 (j := 1) rfl)
theorem dL_law_706 : decode cL_law 706 = .ok (.iaload, 1) := lw_f46 (lw_at lw_e22 (j := 2) rfl)
theorem dL_law_707 : decode cL_law 707 = .ok (.invokevirtual 66, 3) := lw_f182 (lw_at lw_e22 (j := 3) rfl) (lw_at lw_e22 (j := 4) rfl) (lw_at lw_e22 (j := 5) rfl) rfl
theorem dL_law_710 : decode cL_law 710 = .ok (.pop, 1) := lw_f87 (lw_at lw_e22 (j := 6) rfl)
theorem dL_law_711 : decode cL_law 711 = .ok (.goto 1294, 3) := lw_f167 (lw_at lw_e22 (j := 7) rfl) (lw_at lw_e22 (j := 8) rfl) (lw_at lw_e22 (j := 9) rfl) (by decide)
theorem wk_822 : Cond.methodLink RL 63 yX11_curve ∈ tl_L := List.mem_filter.mpr ⟨lw_m4 (i := 104) rfl, rfl⟩
theorem wk_823 : Cond.instanceMethod yX11_curve ∈ tl_L := List.mem_filter.mpr ⟨lw_m4 (i := 105) rfl, rfl⟩
theorem wk_824 : Cond.selects RX11 yX11_curve yX11_curve ∈ tl_L := List.mem_filter.mpr ⟨lw_m4 (i := 106) rfl, rfl⟩
theorem wk_825 : Cond.code yX11_curve cX11_curve 5 (some .int) ∈ tl_L := List.mem_filter.mpr ⟨lw_m4 (i := 107) rfl, rfl⟩
theorem wk_899 : Cond.methodLink RL 66 yX12_curve ∈ tl_L := List.mem_filter.mpr ⟨lw_m8 (i := 6) rfl, rfl⟩
theorem wk_900 : Cond.instanceMethod yX12_curve ∈ tl_L := List.mem_filter.mpr ⟨lw_m8 (i := 7) rfl, rfl⟩
theorem wk_901 : Cond.selects RX12 yX12_curve yX12_curve ∈ tl_L := List.mem_filter.mpr ⟨lw_m8 (i := 8) rfl, rfl⟩
theorem wk_902 : Cond.code yX12_curve cX12_curve 5 (some .int) ∈ tl_L := List.mem_filter.mpr ⟨lw_m8 (i := 9) rfl, rfl⟩
theorem lk_L_63 : tl_kV RL 63 RX11 yX11_curve cX11_curve 5 (some .int) 4 := ⟨wk_825, wk_822, wk_823, wk_824, wk_2, ⟨by decide +kernel, by decide +kernel, by decide +kernel⟩⟩
theorem lk_L_66 : tl_kV RL 66 RX12 yX12_curve cX12_curve 5 (some .int) 4 := ⟨wk_902, wk_899, wk_900, wk_901, wk_5, ⟨by decide +kernel, by decide +kernel, by decide +kernel⟩⟩
theorem dL_law_714 : decode cL_law 714 = .ok (.aload_n 1, 1) := lw_f43 (lw_at lw_e22 (j := 10) rfl)
theorem dL_law_715 : decode cL_law 715 = .ok (.aload_n 0, 1) := lw_f42 (lw_at lw_e22 (j := 11) rfl)
theorem dL_law_716 : decode cL_law 716 = .ok (.iload_n 3, 1) := lw_f29 (lw_at lw_e22 (j := 12) rfl)
theorem dL_law_717 : decode cL_law 717 = .ok (.iconst 1, 1) := lw_f4 (lw_at lw_e22 (j := 13) rfl)
theorem dL_law_718 : decode cL_law 718 = .ok (.iadd, 1) := lw_f96 (lw_at lw_e22 (j := 14) rfl)
theorem dL_law_719 : decode cL_law 719 = .ok (.iaload, 1) := lw_f46 (lw_at lw_e22 (j := 15) rfl)
theorem dL_law_720 : decode cL_law 720 = .ok (.aload_n 0, 1) := lw_f42 (lw_at lw_e22 (j := 16) rfl)
theorem dL_law_721 : decode cL_law 721 = .ok (.iload_n 3, 1) := lw_f29 (lw_at lw_e22 (j := 17) rfl)
theorem dL_law_722 : decode cL_law 722 = .ok (.iconst 2, 1) := lw_f5 (lw_at lw_e22 (j := 18) rfl)
theorem dL_law_723 : decode cL_law 723 = .ok (.iadd, 1) := lw_f96 (lw_at lw_e22 (j := 19) rfl)
theorem dL_law_724 : decode cL_law 724 = .ok (.iaload, 1) := lw_f46 (lw_at lw_e22 (j := 20) rfl)
theorem dL_law_725 : decode cL_law 725 = .ok (.aload_n 0, 1) := lw_f42 (lw_at lw_e22 (j := 21) rfl)
theorem dL_law_726 : decode cL_law 726 = .ok (.iload_n 3, 1) := lw_f29 (lw_at lw_e22 (j := 22) rfl)
theorem dL_law_727 : decode cL_law 727 = .ok (.iconst 3, 1) := lw_f6 (lw_at lw_e22 (j := 23) rfl)
theorem dL_law_728 : decode cL_law 728 = .ok (.iadd, 1) := lw_f96 (lw_at lw_e22 (j := 24) rfl)
theorem dL_law_729 : decode cL_law 729 = .ok (.iaload, 1) := lw_f46 (lw_at lw_e22 (j := 25) rfl)
theorem dL_law_730 : decode cL_law 730 = .ok (.invokevirtual 67, 3) := lw_f182 (lw_at lw_e22 (j := 26) rfl) (lw_at lw_e22 (j := 27) rfl) (lw_at lw_e22 (j := 28) rfl) rfl
theorem dL_law_733 : decode cL_law 733 = .ok (.pop2, 1) := lw_f88 (lw_at lw_e22 (j := 29) rfl)
theorem dL_law_734 : decode cL_law 734 = .ok (.aload_n 2, 1) := lw_f44 (lw_at lw_e22 (j := 30) rfl)
theorem dL_law_735 : decode cL_law 735 = .ok (.aload_n 0, 1) := lw_f42 (lw_at lw_e22 (j := 31) rfl)
theorem dL_law_736 : decode cL_law 736 = .ok (.iload_n 3, 1) := lw_f29 (lw_at lw_e23 (j := 0) rfl)
theorem dL_law_737 : decode cL_law 737 = .ok (.iconst 1, 1) := lw_f4 (lw_at lw_e23 (j := 1) rfl)
theorem dL_law_738 : decode cL_law 738 = .ok (.iadd, 1) := lw_f96 (lw_at lw_e23 (j := 2) rfl)
theorem dL_law_739 : decode cL_law 739 = .ok (.iaload, 1) := lw_f46 (lw_at lw_e23 (j := 3) rfl)
theorem dL_law_740 : decode cL_law 740 = .ok (.aload_n 0, 1) := lw_f42 (lw_at lw_e23 (j := 4) rfl)
theorem dL_law_741 : decode cL_law 741 = .ok (.iload_n 3, 1) := lw_f29 (lw_at lw_e23 (j := 5) rfl)
theorem dL_law_742 : decode cL_law 742 = .ok (.iconst 2, 1) := lw_f5 (lw_at lw_e23 (j := 6) rfl)
theorem dL_law_743 : decode cL_law 743 = .ok (.iadd, 1) := lw_f96 (lw_at lw_e23 (j := 7) rfl)
theorem dL_law_744 : decode cL_law 744 = .ok (.iaload, 1) := lw_f46 (lw_at lw_e23 (j := 8) rfl)
theorem dL_law_745 : decode cL_law 745 = .ok (.aload_n 0, 1) := lw_f42 (lw_at lw_e23 (j := 9) rfl)
theorem dL_law_746 : decode cL_law 746 = .ok (.iload_n 3, 1) := lw_f29 (lw_at lw_e23 (j := 10) rfl)
theorem dL_law_747 : decode cL_law 747 = .ok (.iconst 3, 1) := lw_f6 (lw_at lw_e23 (j := 11) rfl)
theorem dL_law_748 : decode cL_law 748 = .ok (.iadd, 1) := lw_f96 (lw_at lw_e23 (j := 12) rfl)
theorem dL_law_749 : decode cL_law 749 = .ok (.iaload, 1) := lw_f46 (lw_at lw_e23 (j := 13) rfl)
theorem dL_law_750 : decode cL_law 750 = .ok (.invokevirtual 71, 3) := lw_f182 (lw_at lw_e23 (j := 14) rfl) (lw_at lw_e23 (j := 15) rfl) (lw_at lw_e23 (j := 16) rfl) rfl
theorem dL_law_753 : decode cL_law 753 = .ok (.pop2, 1) := lw_f88 (lw_at lw_e23 (j := 17) rfl)
theorem dL_law_754 : decode cL_law 754 = .ok (.goto 1251, 3) := lw_f167 (lw_at lw_e23 (j := 18) rfl) (lw_at lw_e23 (j := 19) rfl) (lw_at lw_e23 (j := 20) rfl) (by decide)
theorem wk_957 : Cond.methodLink RL 67 yX11_deep ∈ tl_L := List.mem_filter.mpr ⟨lw_m4 (i := 185) rfl, rfl⟩
theorem wk_958 : Cond.instanceMethod yX11_deep ∈ tl_L := List.mem_filter.mpr ⟨lw_m4 (i := 186) rfl, rfl⟩
theorem wk_959 : Cond.selects RX11 yX11_deep yX11_deep ∈ tl_L := List.mem_filter.mpr ⟨lw_m4 (i := 187) rfl, rfl⟩
theorem wk_960 : Cond.code yX11_deep cX11_deep 4 (some .long) ∈ tl_L := List.mem_filter.mpr ⟨lw_m4 (i := 188) rfl, rfl⟩
theorem wk_985 : Cond.methodLink RL 71 yX12_deep ∈ tl_L := List.mem_filter.mpr ⟨lw_m8 (i := 58) rfl, rfl⟩
theorem wk_986 : Cond.instanceMethod yX12_deep ∈ tl_L := List.mem_filter.mpr ⟨lw_m8 (i := 59) rfl, rfl⟩
theorem wk_987 : Cond.selects RX12 yX12_deep yX12_deep ∈ tl_L := List.mem_filter.mpr ⟨lw_m8 (i := 60) rfl, rfl⟩
theorem wk_988 : Cond.code yX12_deep cX12_deep 6 (some .long) ∈ tl_L := List.mem_filter.mpr ⟨lw_m8 (i := 61) rfl, rfl⟩
theorem lk_L_67 : tl_kV RL 67 RX11 yX11_deep cX11_deep 4 (some .long) 3 := ⟨wk_960, wk_957, wk_958, wk_959, wk_2, ⟨by decide +kernel, by decide +kernel, by decide +kernel⟩⟩
theorem lk_L_71 : tl_kV RL 71 RX12 yX12_deep cX12_deep 6 (some .long) 3 := ⟨wk_988, wk_985, wk_986, wk_987, wk_5, ⟨by decide +kernel, by decide +kernel, by decide +kernel⟩⟩
theorem dL_law_757 : decode cL_law 757 = .ok (.aload_n 1, 1) := lw_f43 (lw_at lw_e23 (j := 21) rfl)
theorem dL_law_758 : decode cL_law 758 = .ok (.aload_n 0, 1) := lw_f42 (lw_at lw_e23 (j := 22) rfl)
theorem dL_law_759 : decode cL_law 759 = .ok (.iload_n 3, 1) := lw_f29 (lw_at lw_e23 (j := 23) rfl)
theorem dL_law_760 : decode cL_law 760 = .ok (.iconst 1, 1) := lw_f4 (lw_at lw_e23 (j := 24) rfl)
theorem dL_law_761 : decode cL_law 761 = .ok (.iadd, 1) := lw_f96 (lw_at lw_e23 (j := 25) rfl)
theorem dL_law_762 : decode cL_law 762 = .ok (.iaload, 1) := lw_f46 (lw_at lw_e23 (j := 26) rfl)
theorem dL_law_763 : decode cL_law 763 = .ok (.aload_n 0, 1) := lw_f42 (lw_at lw_e23 (j := 27) rfl)
theorem dL_law_764 : decode cL_law 764 = .ok (.iload_n 3, 1) := lw_f29 (lw_at lw_e23 (j := 28) rfl)
theorem dL_law_765 : decode cL_law 765 = .ok (.iconst 2, 1) := lw_f5 (lw_at lw_e23 (j := 29) rfl)
theorem dL_law_766 : decode cL_law 766 = .ok (.iadd, 1) := lw_f96 (lw_at lw_e23 (j := 30) rfl)
theorem dL_law_767 : decode cL_law 767 = .ok (.iaload, 1) := lw_f46 (lw_at lw_e23 (j := 31) rfl)
theorem dL_law_768 : decode cL_law 768 = .ok (.aload_n 0, 1) := lw_f42 (lw_at lw_e24 (j := 0) rfl)
theorem dL_law_769 : decode cL_law 769 = .ok (.iload_n 3, 1) := lw_f29 (lw_at lw_e24 (j := 1) rfl)
theorem dL_law_770 : decode cL_law 770 = .ok (.iconst 3, 1) := lw_f6 (lw_at lw_e24 (j := 2) rfl)
theorem dL_law_771 : decode cL_law 771 = .ok (.iadd, 1) := lw_f96 (lw_at lw_e24 (j := 3) rfl)
theorem dL_law_772 : decode cL_law 772 = .ok (.iaload, 1) := lw_f46 (lw_at lw_e24 (j := 4) rfl)
theorem dL_law_773 : decode cL_law 773 = .ok (.invokevirtual 72, 3) := lw_f182 (lw_at lw_e24 (j := 5) rfl) (lw_at lw_e24 (j := 6) rfl) (lw_at lw_e24 (j := 7) rfl) rfl
theorem dL_law_776 : decode cL_law 776 = .ok (.pop2, 1) := lw_f88 (lw_at lw_e24 (j := 8) rfl)
theorem dL_law_777 : decode cL_law 777 = .ok (.aload_n 2, 1) := lw_f44 (lw_at lw_e24 (j := 9) rfl)
theorem dL_law_778 : decode cL_law 778 = .ok (.aload_n 0, 1) := lw_f42 (lw_at lw_e24 (j := 10) rfl)
theorem dL_law_779 : decode cL_law 779 = .ok (.iload_n 3, 1) := lw_f29 (lw_at lw_e24 (j := 11) rfl)
theorem dL_law_780 : decode cL_law 780 = .ok (.iconst 1, 1) := lw_f4 (lw_at lw_e24 (j := 12) rfl)
theorem dL_law_781 : decode cL_law 781 = .ok (.iadd, 1) := lw_f96 (lw_at lw_e24 (j := 13) rfl)
theorem dL_law_782 : decode cL_law 782 = .ok (.iaload, 1) := lw_f46 (lw_at lw_e24 (j := 14) rfl)
theorem dL_law_783 : decode cL_law 783 = .ok (.aload_n 0, 1) := lw_f42 (lw_at lw_e24 (j := 15) rfl)
theorem dL_law_784 : decode cL_law 784 = .ok (.iload_n 3, 1) := lw_f29 (lw_at lw_e24 (j := 16) rfl)
theorem dL_law_785 : decode cL_law 785 = .ok (.iconst 2, 1) := lw_f5 (lw_at lw_e24 (j := 17) rfl)
theorem dL_law_786 : decode cL_law 786 = .ok (.iadd, 1) := lw_f96 (lw_at lw_e24 (j := 18) rfl)
theorem dL_law_787 : decode cL_law 787 = .ok (.iaload, 1) := lw_f46 (lw_at lw_e24 (j := 19) rfl)
theorem dL_law_788 : decode cL_law 788 = .ok (.aload_n 0, 1) := lw_f42 (lw_at lw_e24 (j := 20) rfl)
theorem dL_law_789 : decode cL_law 789 = .ok (.iload_n 3, 1) := lw_f29 (lw_at lw_e24 (j := 21) rfl)
theorem dL_law_790 : decode cL_law 790 = .ok (.iconst 3, 1) := lw_f6 (lw_at lw_e24 (j := 22) rfl)
theorem dL_law_791 : decode cL_law 791 = .ok (.iadd, 1) := lw_f96 (lw_at lw_e24 (j := 23) rfl)
theorem dL_law_792 : decode cL_law 792 = .ok (.iaload, 1) := lw_f46 (lw_at lw_e24 (j := 24) rfl)
theorem dL_law_793 : decode cL_law 793 = .ok (.invokevirtual 75, 3) := lw_f182 (lw_at lw_e24 (j := 25) rfl) (lw_at lw_e24 (j := 26) rfl) (lw_at lw_e24 (j := 27) rfl) rfl
theorem dL_law_796 : decode cL_law 796 = .ok (.pop2, 1) := lw_f88 (lw_at lw_e24 (j := 28) rfl)
theorem dL_law_797 : decode cL_law 797 = .ok (.goto 1208, 3) := lw_f167 (lw_at lw_e24 (j := 29) rfl) (lw_at lw_e24 (j := 30) rfl) (lw_at lw_e24 (j := 31) rfl) (by decide)
theorem wk_992 : Cond.methodLink RL 72 yX11_moved ∈ tl_L := List.mem_filter.mpr ⟨lw_m4 (i := 216) rfl, rfl⟩
theorem wk_993 : Cond.instanceMethod yX11_moved ∈ tl_L := List.mem_filter.mpr ⟨lw_m4 (i := 217) rfl, rfl⟩
theorem wk_994 : Cond.selects RX11 yX11_moved yX11_moved ∈ tl_L := List.mem_filter.mpr ⟨lw_m4 (i := 218) rfl, rfl⟩
theorem wk_995 : Cond.code yX11_moved cX11_moved 4 (some .long) ∈ tl_L := List.mem_filter.mpr ⟨lw_m4 (i := 219) rfl, rfl⟩
theorem wk_1003 : Cond.methodLink RL 75 yX12_moved ∈ tl_L := List.mem_filter.mpr ⟨lw_m8 (i := 65) rfl, rfl⟩
theorem wk_1004 : Cond.instanceMethod yX12_moved ∈ tl_L := List.mem_filter.mpr ⟨lw_m8 (i := 66) rfl, rfl⟩
theorem wk_1005 : Cond.selects RX12 yX12_moved yX12_moved ∈ tl_L := List.mem_filter.mpr ⟨lw_m8 (i := 67) rfl, rfl⟩
theorem wk_1006 : Cond.code yX12_moved cX12_moved 4 (some .long) ∈ tl_L := List.mem_filter.mpr ⟨lw_m8 (i := 68) rfl, rfl⟩
theorem lk_L_72 : tl_kV RL 72 RX11 yX11_moved cX11_moved 4 (some .long) 3 := ⟨wk_995, wk_992, wk_993, wk_994, wk_2, ⟨by decide +kernel, by decide +kernel, by decide +kernel⟩⟩
theorem lk_L_75 : tl_kV RL 75 RX12 yX12_moved cX12_moved 4 (some .long) 3 := ⟨wk_1006, wk_1003, wk_1004, wk_1005, wk_5, ⟨by decide +kernel, by decide +kernel, by decide +kernel⟩⟩
theorem dL_law_800 : decode cL_law 800 = .ok (.aload_n 1, 1) := lw_f43 (lw_at lw_e25 (j := 0) rfl)
theorem dL_law_801 : decode cL_law 801 = .ok (.aload_n 0, 1) := lw_f42 (lw_at lw_e25 (j := 1) rfl)
theorem dL_law_802 : decode cL_law 802 = .ok (.iload_n 3, 1) := lw_f29 (lw_at lw_e25 (j := 2) rfl)
theorem dL_law_803 : decode cL_law 803 = .ok (.iconst 1, 1) := lw_f4 (lw_at lw_e25 (j := 3) rfl)
theorem dL_law_804 : decode cL_law 804 = .ok (.iadd, 1) := lw_f96 (lw_at lw_e25 (j := 4) rfl)
theorem dL_law_805 : decode cL_law 805 = .ok (.iaload, 1) := lw_f46 (lw_at lw_e25 (j := 5) rfl)
theorem dL_law_806 : decode cL_law 806 = .ok (.aload_n 0, 1) := lw_f42 (lw_at lw_e25 (j := 6) rfl)
theorem dL_law_807 : decode cL_law 807 = .ok (.iload_n 3, 1) := lw_f29 (lw_at lw_e25 (j := 7) rfl)
theorem dL_law_808 : decode cL_law 808 = .ok (.iconst 2, 1) := lw_f5 (lw_at lw_e25 (j := 8) rfl)
theorem dL_law_809 : decode cL_law 809 = .ok (.iadd, 1) := lw_f96 (lw_at lw_e25 (j := 9) rfl)
theorem dL_law_810 : decode cL_law 810 = .ok (.iaload, 1) := lw_f46 (lw_at lw_e25 (j := 10) rfl)
theorem dL_law_811 : decode cL_law 811 = .ok (.aload_n 0, 1) := lw_f42 (lw_at lw_e25 (j := 11) rfl)
theorem dL_law_812 : decode cL_law 812 = .ok (.iload_n 3, 1) := lw_f29 (lw_at lw_e25 (j := 12) rfl)
theorem dL_law_813 : decode cL_law 813 = .ok (.iconst 3, 1) := lw_f6 (lw_at lw_e25 (j := 13) rfl)
theorem dL_law_814 : decode cL_law 814 = .ok (.iadd, 1) := lw_f96 (lw_at lw_e25 (j := 14) rfl)
theorem dL_law_815 : decode cL_law 815 = .ok (.iaload, 1) := lw_f46 (lw_at lw_e25 (j := 15) rfl)
theorem dL_law_816 : decode cL_law 816 = .ok (.invokevirtual 76, 3) := lw_f182 (lw_at lw_e25 (j := 16) rfl) (lw_at lw_e25 (j := 17) rfl) (lw_at lw_e25 (j := 18) rfl) rfl
theorem dL_law_819 : decode cL_law 819 = .ok (.pop, 1) := lw_f87 (lw_at lw_e25 (j := 19) rfl)
theorem dL_law_820 : decode cL_law 820 = .ok (.aload_n 2, 1) := lw_f44 (lw_at lw_e25 (j := 20) rfl)
theorem dL_law_821 : decode cL_law 821 = .ok (.aload_n 0, 1) := lw_f42 (lw_at lw_e25 (j := 21) rfl)
theorem dL_law_822 : decode cL_law 822 = .ok (.iload_n 3, 1) := lw_f29 (lw_at lw_e25 (j := 22) rfl)
theorem dL_law_823 : decode cL_law 823 = .ok (.iconst 1, 1) := lw_f4 (lw_at lw_e25 (j := 23) rfl)
theorem dL_law_824 : decode cL_law 824 = .ok (.iadd, 1) := lw_f96 (lw_at lw_e25 (j := 24) rfl)
theorem dL_law_825 : decode cL_law 825 = .ok (.iaload, 1) := lw_f46 (lw_at lw_e25 (j := 25) rfl)
theorem dL_law_826 : decode cL_law 826 = .ok (.aload_n 0, 1) := lw_f42 (lw_at lw_e25 (j := 26) rfl)
theorem dL_law_827 : decode cL_law 827 = .ok (.iload_n 3, 1) := lw_f29 (lw_at lw_e25 (j := 27) rfl)
theorem dL_law_828 : decode cL_law 828 = .ok (.iconst 2, 1) := lw_f5 (lw_at lw_e25 (j := 28) rfl)
theorem dL_law_829 : decode cL_law 829 = .ok (.iadd, 1) := lw_f96 (lw_at lw_e25 (j := 29) rfl)
theorem dL_law_830 : decode cL_law 830 = .ok (.iaload, 1) := lw_f46 (lw_at lw_e25 (j := 30) rfl)
theorem dL_law_831 : decode cL_law 831 = .ok (.aload_n 0, 1) := lw_f42 (lw_at lw_e25 (j := 31) rfl)
theorem dL_law_832 : decode cL_law 832 = .ok (.iload_n 3, 1) := lw_f29 (lw_at lw_e26 (j := 0) rfl)
theorem dL_law_833 : decode cL_law 833 = .ok (.iconst 3, 1) := lw_f6 (lw_at lw_e26 (j := 1) rfl)
theorem dL_law_834 : decode cL_law 834 = .ok (.iadd, 1) := lw_f96 (lw_at lw_e26 (j := 2) rfl)
theorem dL_law_835 : decode cL_law 835 = .ok (.iaload, 1) := lw_f46 (lw_at lw_e26 (j := 3) rfl)
theorem dL_law_836 : decode cL_law 836 = .ok (.invokevirtual 79, 3) := lw_f182 (lw_at lw_e26 (j := 4) rfl) (lw_at lw_e26 (j := 5) rfl) (lw_at lw_e26 (j := 6) rfl) rfl
theorem dL_law_839 : decode cL_law 839 = .ok (.pop, 1) := lw_f87 (lw_at lw_e26 (j := 7) rfl)
theorem dL_law_840 : decode cL_law 840 = .ok (.goto 1165, 3) := lw_f167 (lw_at lw_e26 (j := 8) rfl) (lw_at lw_e26 (j := 9) rfl) (lw_at lw_e26 (j := 10) rfl) (by decide)
theorem wk_1015 : Cond.methodLink RL 76 yX11_elsewhere ∈ tl_L := List.mem_filter.mpr ⟨lw_m4 (i := 229) rfl, rfl⟩
theorem wk_1016 : Cond.instanceMethod yX11_elsewhere ∈ tl_L := List.mem_filter.mpr ⟨lw_m4 (i := 230) rfl, rfl⟩
theorem wk_1017 : Cond.selects RX11 yX11_elsewhere yX11_elsewhere ∈ tl_L := List.mem_filter.mpr ⟨lw_m4 (i := 231) rfl, rfl⟩
theorem wk_1018 : Cond.code yX11_elsewhere cX11_elsewhere 11 (some .int) ∈ tl_L := List.mem_filter.mpr ⟨lw_m4 (i := 232) rfl, rfl⟩
theorem wk_1024 : Cond.methodLink RL 79 yX12_elsewhere ∈ tl_L := List.mem_filter.mpr ⟨lw_m8 (i := 77) rfl, rfl⟩
theorem wk_1025 : Cond.instanceMethod yX12_elsewhere ∈ tl_L := List.mem_filter.mpr ⟨lw_m8 (i := 78) rfl, rfl⟩
theorem wk_1026 : Cond.selects RX12 yX12_elsewhere yX12_elsewhere ∈ tl_L := List.mem_filter.mpr ⟨lw_m8 (i := 79) rfl, rfl⟩
theorem wk_1027 : Cond.code yX12_elsewhere cX12_elsewhere 12 (some .int) ∈ tl_L := List.mem_filter.mpr ⟨lw_m8 (i := 80) rfl, rfl⟩
theorem lk_L_76 : tl_kV RL 76 RX11 yX11_elsewhere cX11_elsewhere 11 (some .int) 3 := ⟨wk_1018, wk_1015, wk_1016, wk_1017, wk_2, ⟨by decide +kernel, by decide +kernel, by decide +kernel⟩⟩
theorem lk_L_79 : tl_kV RL 79 RX12 yX12_elsewhere cX12_elsewhere 12 (some .int) 3 := ⟨wk_1027, wk_1024, wk_1025, wk_1026, wk_5, ⟨by decide +kernel, by decide +kernel, by decide +kernel⟩⟩
set_option maxHeartbeats 4000000 in
set_option maxRecDepth 100000 in
theorem tl_law_0 {p : Program} {e : Env} {s : State} {m : MethodId} {below : List Frame} {meth : Method} {c : Code} (l : Launch) {b N : Nat} {xs : Nat → Int32} (C0 : lw_At p s m meth c b N xs) (D : va_G) (cy : Nat → ClassId) (hK : va_K D vwCl (tl_T cy) s) (hN : tl_ok s) (Z : ts_Y) {A : Nat → Prop} (hAe : A = fun q : Nat => s.heap.size ≤ q) (hZ : ts_Z A Z s s.heap) (xq mq : Nat) (i : Int32) (hi : 0 ≤ i.toInt ∧ i.toInt + 7 ≤ N ∧ N ≤ 3584) {cells slots : Nat} (hcs : cells + 41 ≤ 600000 ∧ slots + 8199 ≤ 7302249) {L : List Nat} {K : Nat → tk_K} {Γ : tk_G} {f : Nat → va_E} {H : Heap} {locs : List Loc} {ls : Array Slot} (S : lq_S D cy A s L K Γ f H locs xq mq) (hl : lv_has ls 4 [(3, .int i), (2, .ref mq), (1, .ref xq), (0, .ref b)]) (kk : ∀ (L : List Nat) (K : Nat → tk_K) (Γ : tk_G) (f : Nat → va_E) (H : Heap) (locs : List Loc) (ls : Array Slot), lq_S D cy A s L K Γ f H locs xq mq → lv_has ls 4 [(3, .int i), (2, .ref mq), (1, .ref xq), (0, .ref b)] → W p l e room_1 s m #[Value.ref b] below meth c H locs (cells + 41) (slots + 8199) (lw_Z below #[Value.ref b] s) (F0 m 2005 ls [])) : W p l e room_1 s m #[Value.ref b] below meth c H locs cells slots (lw_Z below #[Value.ref b] s) (F0 m 228 ls []) := by
  obtain ⟨hx, hb, hr, hml, hown, hts, hX, hbl, hlocks, hgv⟩ := id C0
  obtain ⟨hP, hI, hL, hU, hAL, hS, hxq, hmq, hlq, hfree⟩ := S
  have hta : ∀ w ∈ tl_L, w.before #[Value.ref b] s = true := fun w h => hts w (List.mem_filter.mp h).1
  have hA : ∀ q : Nat, s.heap.size ≤ q → A q := fun q h => by rw [hAe]; exact h
  have hbA : ¬ A b := by rw [hAe]; exact Nat.not_le.mpr hbl
  have hAf : ∀ (H : Heap), s.heap.size ≤ H.size → ∀ q, tp_A L H.size q → A q := fun H h q hq => hq.elim (hAL q) (fun h2 => hA q (Nat.le_trans h h2))
  have hRc : room_1.cells = 600000 := rfl
  have hRs : room_1.slots = 7302249 := rfl
  have hI0 := hI
  have hD : va_D A (va_pl L f) := tp_D hL hAL
  have htx := hlq.2.2.2.2.1
  have hsd := hlq.2.2.1
  have hs := ts_hs hsd
  have hraw := ts_raw hsd
  have hslp := ts_slp hsd
  have hdp := ts_dp hsd
  have hm0 := hlq.2.2.2.2.2
  have hIM : Γ (12, 4, 0) = Γ (12, 4, 0) := rfl
  refine lv_aload_n hx hb dL_law_228 rfl (lv_at hl 2 rfl) ?_
  refine lv_aload_n hx hb dL_law_229 rfl (lv_at hl 3 rfl) ?_
  refine lv_iload_n hx hb dL_law_230 rfl (lv_at hl 0 rfl) ?_
  refine lv_iconst (v := 1) hx hb dL_law_231 (by decide) ?_
  refine lv_iadd hx hb dL_law_232 ?_
  refine lv_topi (fun z_1 ez_1 => ?_)
  try have iz_1 : z_1.toInt = i.toInt + (1 : Int) := by rw [ez_1]; exact tl_addN i 1 rfl rfl (by omega) (by omega)
  refine va_sld hx hb hX hbl hbA hS (tl_in (by omega) (by omega)) dL_law_233 ?_
  refine lv_topi (fun z_2 ez_2 => ?_)
  obtain ⟨x_4, x_5, x_6, x_7, x_8, x_9, x_10, x_11, x_12, x_13, x_14, x_15, x_16, x_17, x_18, x_19, hf_3, hx_4, hx_5, hx_6, hx_7, hx_8, hx_9, hx_10, hx_11, hx_12, hx_13, hx_14, hx_15, hx_16, hx_17, hx_18, hx_19⟩ := (show tp_o_X L K (0) 0 (Γ (0, 0, 0)) (f xq) from hI.at hxq)
  refine tq_ci hS (hAf _ hS.1) (tq_rV (As := [.int z_2]) (rest := []) ⟨hx, hb, hml, hown, hta⟩ (tp_P.pre hK hN hL hU hI hP) (tp_recv hK hP hxq.1 hf_3 rfl) lk_L_13 (t_X11_clock l D cy H.size L K Γ f xq z_2 hxq) rfl rfl ⟨Nat.le_of_ble_eq_true rfl, Nat.le_of_ble_eq_true rfl⟩ rfl hl.1 rfl (Nat.le_of_ble_eq_true rfl) dL_law_234 ⟨by rw [hRc]; omega, by rw [hRs]; omega⟩) (fun r_21 f_22 H locs hw_20 hP hI hc_23 hS => ?_)
  have hD : va_D A (va_pl L f_22) := tp_D hL hAL
  have hf_24 := (tp_un hc_23 hxq (by decide)).trans hf_3
  obtain ⟨Γ_25, eΓ_25⟩ : ∃ y : tk_G, y = if 0 ≤ z_2.toInt ∧ z_2.toInt ≤ 399 ∧ Γ (1, 0, 0) 0 ≤ z_2.toInt then tg Γ (1, 0, 0) 0 z_2.toInt else Γ := ⟨_, rfl⟩
  have hI : tp_I cy L K Γ_25 f_22 := by rw [eΓ_25]; exact hI
  have hw_20 : tl_E r_21 (0 ≤ z_2.toInt ∧ z_2.toInt ≤ 399 ∧ Γ (1, 0, 0) 0 ≤ z_2.toInt) 1 0 := hw_20
  have hSA1 : Γ_25 (40, 7666, 0) = Γ (40, 7666, 0) := (by rw [eΓ_25]; split; exact tg_rf (by decide); rfl)
  have hIM : Γ_25 (12, 4, 0) = Γ (12, 4, 0) := (by rw [eΓ_25]; split; exact tg_rf (by decide); rfl)
  have hs : (0 ≤ Γ_25 (40, 7666, 0) 1 ∧ Γ_25 (40, 7666, 0) 1 ≤ 24) ∧ (0 ≤ Γ_25 (40, 7666, 0) 2 ∧ Γ_25 (40, 7666, 0) 2 ≤ 40) ∧ (0 ≤ Γ_25 (40, 7666, 0) 3 ∧ Γ_25 (40, 7666, 0) 3 ≤ 60) ∧ (0 ≤ Γ_25 (40, 7666, 0) 4 ∧ Γ_25 (40, 7666, 0) 4 ≤ 10) ∧ (0 ≤ Γ_25 (40, 7666, 0) 7665 ∧ Γ_25 (40, 7666, 0) 7665 ≤ 8) := by rw [hSA1]; exact hs
  have hdp : ∀ l : Nat, (l : Int) < Γ_25 (40, 7666, 0) 3 → 1 ≤ Γ_25 (40, 7666, 0) (243 + 3 * l) := by rw [hSA1]; exact hdp
  refine lv_pop hx hb dL_law_237 rfl ?_
  refine lv_aload_n hx hb dL_law_238 rfl (lv_at hl 1 rfl) ?_
  refine lv_aload_n hx hb dL_law_239 rfl (lv_at hl 3 rfl) ?_
  refine lv_iload_n hx hb dL_law_240 rfl (lv_at hl 0 rfl) ?_
  refine lv_iconst (v := 1) hx hb dL_law_241 (by decide) ?_
  refine lv_iadd hx hb dL_law_242 ?_
  refine lv_topi (fun z_26 ez_26 => ?_)
  obtain rfl : z_1 = z_26 := ez_1.trans ez_26.symm
  refine va_sld hx hb hX hbl hbA hS (tl_in (by omega) (by omega)) dL_law_243 ?_
  refine lv_topi (fun z_27 ez_27 => ?_)
  obtain rfl : z_2 = z_27 := ez_2.trans ez_27.symm
  obtain ⟨r_29, v_30, q_31, hf_28, hr_32, hv_33⟩ := (show tp_o_M L K 0 0 (Γ_25 (39, 0, 0)) (f_22 mq) from hI.at hmq)
  refine tq_ciR hS (hAf _ hS.1) (tq_rV (As := [.int z_2]) (rest := []) ⟨hx, hb, hml, hown, hta⟩ (tp_P.pre hK hN hL hU hI hP) (tp_recv hK hP hmq.1 hf_28 rfl) lk_L_17 (r_X12_clock l D cy H.size L K Γ_25 f_22 mq z_2 hmq) rfl rfl ⟨Nat.le_of_ble_eq_true rfl, Nat.le_of_ble_eq_true rfl⟩ rfl hl.1 rfl (Nat.le_of_ble_eq_true rfl) dL_law_244 ⟨by rw [hRc]; omega, by rw [hRs]; omega⟩) (fun r_35 f_36 Γ_38 H locs hw_34 hP hI hc_37 hcg_39 hS => ?_)
  have hD : va_D A (va_pl L f_36) := tp_D hL hAL
  have hf_40 := (tp_un hc_37 hxq (by decide)).trans hf_24
  have hf_41 := (tp_un hc_37 hmq (by decide)).trans hf_28
  have hw_34 : tl_E r_35 (Γ_25 (40, 7666, 0) 0 ≤ z_2.toInt ∧ z_2.toInt ≤ 399) 1 0 ∧ Γ_38 (40, 7666, 0) = if Γ_25 (40, 7666, 0) 0 ≤ z_2.toInt ∧ z_2.toInt ≤ 399 then tgu (Γ_25 (40, 7666, 0)) 0 z_2.toInt else Γ_25 (40, 7666, 0) := hw_34
  have hst := s_clock hlq eΓ_25 hcg_39 hw_34.2
  have hlq9 := hst.1
  have hfree9 : ∀ j : Nat, Γ_38 (12, 4, 0) j = 0 → ∀ a ∈ L, ¬ (K a).2.2 = j + 1 := fun j q a ha => hfree j (by rw [← (hcg_39 (12, 4, 0) (by decide)).trans hIM]; exact q) a ha
  refine lv_pop hx hb dL_law_247 rfl ?_
  refine lv_goto (tgt := 2005) hx hb dL_law_248 (by decide) ?_
  exact W.widen (k := cells + 41) (n := slots + 8199) (by omega) (by omega) (kk L K Γ_38 f_36 H locs ls ⟨hP, hI, hL, hU, hAL, hS, hxq, hmq, hlq9, hfree9⟩ (lv_sub hl [0, 1, 2, 3] rfl))
set_option maxHeartbeats 4000000 in
set_option maxRecDepth 100000 in
theorem tl_law_1 {p : Program} {e : Env} {s : State} {m : MethodId} {below : List Frame} {meth : Method} {c : Code} (l : Launch) {b N : Nat} {xs : Nat → Int32} (C0 : lw_At p s m meth c b N xs) (D : va_G) (cy : Nat → ClassId) (hK : va_K D vwCl (tl_T cy) s) (hN : tl_ok s) (Z : ts_Y) {A : Nat → Prop} (hAe : A = fun q : Nat => s.heap.size ≤ q) (hZ : ts_Z A Z s s.heap) (xq mq : Nat) (i : Int32) (hi : 0 ≤ i.toInt ∧ i.toInt + 7 ≤ N ∧ N ≤ 3584) {cells slots : Nat} (hcs : cells + 41 ≤ 600000 ∧ slots + 8199 ≤ 7302249) {L : List Nat} {K : Nat → tk_K} {Γ : tk_G} {f : Nat → va_E} {H : Heap} {locs : List Loc} {ls : Array Slot} (S : lq_S D cy A s L K Γ f H locs xq mq) (hl : lv_has ls 4 [(3, .int i), (2, .ref mq), (1, .ref xq), (0, .ref b)]) (kk : ∀ (L : List Nat) (K : Nat → tk_K) (Γ : tk_G) (f : Nat → va_E) (H : Heap) (locs : List Loc) (ls : Array Slot), lq_S D cy A s L K Γ f H locs xq mq → lv_has ls 4 [(3, .int i), (2, .ref mq), (1, .ref xq), (0, .ref b)] → W p l e room_1 s m #[Value.ref b] below meth c H locs (cells + 41) (slots + 8199) (lw_Z below #[Value.ref b] s) (F0 m 2005 ls [])) : W p l e room_1 s m #[Value.ref b] below meth c H locs cells slots (lw_Z below #[Value.ref b] s) (F0 m 251 ls []) := by
  obtain ⟨hx, hb, hr, hml, hown, hts, hX, hbl, hlocks, hgv⟩ := id C0
  obtain ⟨hP, hI, hL, hU, hAL, hS, hxq, hmq, hlq, hfree⟩ := S
  have hta : ∀ w ∈ tl_L, w.before #[Value.ref b] s = true := fun w h => hts w (List.mem_filter.mp h).1
  have hA : ∀ q : Nat, s.heap.size ≤ q → A q := fun q h => by rw [hAe]; exact h
  have hbA : ¬ A b := by rw [hAe]; exact Nat.not_le.mpr hbl
  have hAf : ∀ (H : Heap), s.heap.size ≤ H.size → ∀ q, tp_A L H.size q → A q := fun H h q hq => hq.elim (hAL q) (fun h2 => hA q (Nat.le_trans h h2))
  have hRc : room_1.cells = 600000 := rfl
  have hRs : room_1.slots = 7302249 := rfl
  have hI0 := hI
  have hD : va_D A (va_pl L f) := tp_D hL hAL
  have htx := hlq.2.2.2.2.1
  have hsd := hlq.2.2.1
  have hs := ts_hs hsd
  have hraw := ts_raw hsd
  have hslp := ts_slp hsd
  have hdp := ts_dp hsd
  have hm0 := hlq.2.2.2.2.2
  have hIM : Γ (12, 4, 0) = Γ (12, 4, 0) := rfl
  refine lv_aload_n hx hb dL_law_251 rfl (lv_at hl 2 rfl) ?_
  refine lv_aload_n hx hb dL_law_252 rfl (lv_at hl 3 rfl) ?_
  refine lv_iload_n hx hb dL_law_253 rfl (lv_at hl 0 rfl) ?_
  refine lv_iconst (v := 1) hx hb dL_law_254 (by decide) ?_
  refine lv_iadd hx hb dL_law_255 ?_
  refine lv_topi (fun z_1 ez_1 => ?_)
  try have iz_1 : z_1.toInt = i.toInt + (1 : Int) := by rw [ez_1]; exact tl_addN i 1 rfl rfl (by omega) (by omega)
  refine va_sld hx hb hX hbl hbA hS (tl_in (by omega) (by omega)) dL_law_256 ?_
  refine lv_topi (fun z_2 ez_2 => ?_)
  refine lv_aload_n hx hb dL_law_257 rfl (lv_at hl 3 rfl) ?_
  refine lv_iload_n hx hb dL_law_258 rfl (lv_at hl 0 rfl) ?_
  refine lv_iconst (v := 2) hx hb dL_law_259 (by decide) ?_
  refine lv_iadd hx hb dL_law_260 ?_
  refine lv_topi (fun z_3 ez_3 => ?_)
  try have iz_3 : z_3.toInt = i.toInt + (2 : Int) := by rw [ez_3]; exact tl_addN i 2 rfl rfl (by omega) (by omega)
  refine va_sld hx hb hX hbl hbA hS (tl_in (by omega) (by omega)) dL_law_261 ?_
  refine lv_topi (fun z_4 ez_4 => ?_)
  obtain ⟨x_6, x_7, x_8, x_9, x_10, x_11, x_12, x_13, x_14, x_15, x_16, x_17, x_18, x_19, x_20, x_21, hf_5, hx_6, hx_7, hx_8, hx_9, hx_10, hx_11, hx_12, hx_13, hx_14, hx_15, hx_16, hx_17, hx_18, hx_19, hx_20, hx_21⟩ := (show tp_o_X L K (0) 0 (Γ (0, 0, 0)) (f xq) from hI.at hxq)
  refine tq_ci hS (hAf _ hS.1) (tq_rV (As := [.int z_2, .int z_4]) (rest := []) ⟨hx, hb, hml, hown, hta⟩ (tp_P.pre hK hN hL hU hI hP) (tp_recv hK hP hxq.1 hf_5 rfl) lk_L_18 (t_X11_row l D cy H.size L K Γ f xq z_2 z_4 hxq) rfl rfl ⟨Nat.le_of_ble_eq_true rfl, Nat.le_of_ble_eq_true rfl⟩ rfl hl.1 rfl (Nat.le_of_ble_eq_true rfl) dL_law_262 ⟨by rw [hRc]; omega, by rw [hRs]; omega⟩) (fun r_23 f_24 H locs hw_22 hP hI hc_25 hS => ?_)
  have hD : va_D A (va_pl L f_24) := tp_D hL hAL
  have hf_26 := (tp_un hc_25 hxq (by decide)).trans hf_5
  obtain ⟨Γ_27, eΓ_27⟩ : ∃ y : tk_G, y = if (0 ≤ z_2.toInt ∧ z_2.toInt ≤ 3) ∧ 0 ≤ z_4.toInt ∧ z_4.toInt ≤ 999 then tg Γ (3, 0, 0) 0 (tm_up 24 (Γ (3, 0, 0) 0)) else Γ := ⟨_, rfl⟩
  have hI : tp_I cy L K Γ_27 f_24 := by rw [eΓ_27]; exact hI
  have hw_22 : r_23.toInt = if (0 ≤ z_2.toInt ∧ z_2.toInt ≤ 3) ∧ 0 ≤ z_4.toInt ∧ z_4.toInt ≤ 999 then tm_at 24 (Γ (3, 0, 0) 0) else -1 := hw_22
  have hSA1 : Γ_27 (40, 7666, 0) = Γ (40, 7666, 0) := (by rw [eΓ_27]; split; exact tg_rf (by decide); rfl)
  have hIM : Γ_27 (12, 4, 0) = Γ (12, 4, 0) := (by rw [eΓ_27]; split; exact tg_rf (by decide); rfl)
  have hs : (0 ≤ Γ_27 (40, 7666, 0) 1 ∧ Γ_27 (40, 7666, 0) 1 ≤ 24) ∧ (0 ≤ Γ_27 (40, 7666, 0) 2 ∧ Γ_27 (40, 7666, 0) 2 ≤ 40) ∧ (0 ≤ Γ_27 (40, 7666, 0) 3 ∧ Γ_27 (40, 7666, 0) 3 ≤ 60) ∧ (0 ≤ Γ_27 (40, 7666, 0) 4 ∧ Γ_27 (40, 7666, 0) 4 ≤ 10) ∧ (0 ≤ Γ_27 (40, 7666, 0) 7665 ∧ Γ_27 (40, 7666, 0) 7665 ≤ 8) := by rw [hSA1]; exact hs
  have hdp : ∀ l : Nat, (l : Int) < Γ_27 (40, 7666, 0) 3 → 1 ≤ Γ_27 (40, 7666, 0) (243 + 3 * l) := by rw [hSA1]; exact hdp
  refine lv_pop hx hb dL_law_265 rfl ?_
  refine lv_aload_n hx hb dL_law_266 rfl (lv_at hl 1 rfl) ?_
  refine lv_aload_n hx hb dL_law_267 rfl (lv_at hl 3 rfl) ?_
  refine lv_iload_n hx hb dL_law_268 rfl (lv_at hl 0 rfl) ?_
  refine lv_iconst (v := 1) hx hb dL_law_269 (by decide) ?_
  refine lv_iadd hx hb dL_law_270 ?_
  refine lv_topi (fun z_28 ez_28 => ?_)
  obtain rfl : z_1 = z_28 := ez_1.trans ez_28.symm
  refine va_sld hx hb hX hbl hbA hS (tl_in (by omega) (by omega)) dL_law_271 ?_
  refine lv_topi (fun z_29 ez_29 => ?_)
  obtain rfl : z_2 = z_29 := ez_2.trans ez_29.symm
  refine lv_aload_n hx hb dL_law_272 rfl (lv_at hl 3 rfl) ?_
  refine lv_iload_n hx hb dL_law_273 rfl (lv_at hl 0 rfl) ?_
  refine lv_iconst (v := 2) hx hb dL_law_274 (by decide) ?_
  refine lv_iadd hx hb dL_law_275 ?_
  refine lv_topi (fun z_30 ez_30 => ?_)
  obtain rfl : z_3 = z_30 := ez_3.trans ez_30.symm
  refine va_sld hx hb hX hbl hbA hS (tl_in (by omega) (by omega)) dL_law_276 ?_
  refine lv_topi (fun z_31 ez_31 => ?_)
  obtain rfl : z_4 = z_31 := ez_4.trans ez_31.symm
  obtain ⟨r_33, v_34, q_35, hf_32, hr_36, hv_37⟩ := (show tp_o_M L K 0 0 (Γ_27 (39, 0, 0)) (f_24 mq) from hI.at hmq)
  refine tq_ciR hS (hAf _ hS.1) (tq_rV (As := [.int z_2, .int z_4]) (rest := []) ⟨hx, hb, hml, hown, hta⟩ (tp_P.pre hK hN hL hU hI hP) (tp_recv hK hP hmq.1 hf_32 rfl) lk_L_22 (r_X12_row l D cy H.size L K Γ_27 f_24 mq z_2 z_4 hmq (by first | omega | (simp only [Int32.toInt_toInt64]; omega) | decide | assumption)) rfl rfl ⟨Nat.le_of_ble_eq_true rfl, Nat.le_of_ble_eq_true rfl⟩ rfl hl.1 rfl (Nat.le_of_ble_eq_true rfl) dL_law_277 ⟨by rw [hRc]; omega, by rw [hRs]; omega⟩) (fun r_39 f_40 Γ_42 H locs hw_38 hP hI hc_41 hcg_43 hS => ?_)
  have hD : va_D A (va_pl L f_40) := tp_D hL hAL
  have hf_44 := (tp_un hc_41 hxq (by decide)).trans hf_26
  have hf_45 := (tp_un hc_41 hmq (by decide)).trans hf_32
  have hw_38 : r_39.toInt = (if ¬ Γ_27 (40, 7666, 0) 1 = 24 ∧ (0 ≤ z_2.toInt ∧ z_2.toInt ≤ 3) ∧ 0 ≤ z_4.toInt ∧ z_4.toInt ≤ 999 then Γ_27 (40, 7666, 0) 1 else -1) ∧ Γ_42 (40, 7666, 0) = if ¬ Γ_27 (40, 7666, 0) 1 = 24 ∧ (0 ≤ z_2.toInt ∧ z_2.toInt ≤ 3) ∧ 0 ≤ z_4.toInt ∧ z_4.toInt ≤ 999 then tgu (tm_fill (tgu (tgu (tgu (Γ_27 (40, 7666, 0)) (9 + 3 * Γ_27 (40, 7666, 0) 1 + 0).toNat (z_2.toInt)) (9 + 3 * Γ_27 (40, 7666, 0) 1 + 1).toNat (z_4.toInt)) (9 + 3 * Γ_27 (40, 7666, 0) 1 + 2).toNat (Γ_27 (40, 7666, 0) 0)) (441 + 300 * Γ_27 (40, 7666, 0) 1).toNat (441 + 300 * Γ_27 (40, 7666, 0) 1 + 300).toNat (-1000000)) 1 (Γ_27 (40, 7666, 0) 1 + 1) else Γ_27 (40, 7666, 0) := hw_38
  have hst := s_row hlq eΓ_27 hcg_43 hw_38.2
  have hlq9 := hst.1
  have hfree9 : ∀ j : Nat, Γ_42 (12, 4, 0) j = 0 → ∀ a ∈ L, ¬ (K a).2.2 = j + 1 := fun j q a ha => hfree j (by rw [← (hcg_43 (12, 4, 0) (by decide)).trans hIM]; exact q) a ha
  refine lv_pop hx hb dL_law_280 rfl ?_
  refine lv_goto (tgt := 2005) hx hb dL_law_281 (by decide) ?_
  exact W.widen (k := cells + 41) (n := slots + 8199) (by omega) (by omega) (kk L K Γ_42 f_40 H locs ls ⟨hP, hI, hL, hU, hAL, hS, hxq, hmq, hlq9, hfree9⟩ (lv_sub hl [0, 1, 2, 3] rfl))
set_option maxHeartbeats 4000000 in
set_option maxRecDepth 100000 in
theorem tl_law_2 {p : Program} {e : Env} {s : State} {m : MethodId} {below : List Frame} {meth : Method} {c : Code} (l : Launch) {b N : Nat} {xs : Nat → Int32} (C0 : lw_At p s m meth c b N xs) (D : va_G) (cy : Nat → ClassId) (hK : va_K D vwCl (tl_T cy) s) (hN : tl_ok s) (Z : ts_Y) {A : Nat → Prop} (hAe : A = fun q : Nat => s.heap.size ≤ q) (hZ : ts_Z A Z s s.heap) (xq mq : Nat) (i : Int32) (hi : 0 ≤ i.toInt ∧ i.toInt + 7 ≤ N ∧ N ≤ 3584) {cells slots : Nat} (hcs : cells + 41 ≤ 600000 ∧ slots + 8199 ≤ 7302249) {L : List Nat} {K : Nat → tk_K} {Γ : tk_G} {f : Nat → va_E} {H : Heap} {locs : List Loc} {ls : Array Slot} (S : lq_S D cy A s L K Γ f H locs xq mq) (hl : lv_has ls 4 [(3, .int i), (2, .ref mq), (1, .ref xq), (0, .ref b)]) (kk : ∀ (L : List Nat) (K : Nat → tk_K) (Γ : tk_G) (f : Nat → va_E) (H : Heap) (locs : List Loc) (ls : Array Slot), lq_S D cy A s L K Γ f H locs xq mq → lv_has ls 4 [(3, .int i), (2, .ref mq), (1, .ref xq), (0, .ref b)] → W p l e room_1 s m #[Value.ref b] below meth c H locs (cells + 41) (slots + 8199) (lw_Z below #[Value.ref b] s) (F0 m 2005 ls [])) : W p l e room_1 s m #[Value.ref b] below meth c H locs cells slots (lw_Z below #[Value.ref b] s) (F0 m 284 ls []) := by
  obtain ⟨hx, hb, hr, hml, hown, hts, hX, hbl, hlocks, hgv⟩ := id C0
  obtain ⟨hP, hI, hL, hU, hAL, hS, hxq, hmq, hlq, hfree⟩ := S
  have hta : ∀ w ∈ tl_L, w.before #[Value.ref b] s = true := fun w h => hts w (List.mem_filter.mp h).1
  have hA : ∀ q : Nat, s.heap.size ≤ q → A q := fun q h => by rw [hAe]; exact h
  have hbA : ¬ A b := by rw [hAe]; exact Nat.not_le.mpr hbl
  have hAf : ∀ (H : Heap), s.heap.size ≤ H.size → ∀ q, tp_A L H.size q → A q := fun H h q hq => hq.elim (hAL q) (fun h2 => hA q (Nat.le_trans h h2))
  have hRc : room_1.cells = 600000 := rfl
  have hRs : room_1.slots = 7302249 := rfl
  have hI0 := hI
  have hD : va_D A (va_pl L f) := tp_D hL hAL
  have htx := hlq.2.2.2.2.1
  have hsd := hlq.2.2.1
  have hs := ts_hs hsd
  have hraw := ts_raw hsd
  have hslp := ts_slp hsd
  have hdp := ts_dp hsd
  have hm0 := hlq.2.2.2.2.2
  have hIM : Γ (12, 4, 0) = Γ (12, 4, 0) := rfl
  refine lv_aload_n hx hb dL_law_284 rfl (lv_at hl 2 rfl) ?_
  refine lv_aload_n hx hb dL_law_285 rfl (lv_at hl 3 rfl) ?_
  refine lv_iload_n hx hb dL_law_286 rfl (lv_at hl 0 rfl) ?_
  refine lv_iconst (v := 1) hx hb dL_law_287 (by decide) ?_
  refine lv_iadd hx hb dL_law_288 ?_
  refine lv_topi (fun z_1 ez_1 => ?_)
  try have iz_1 : z_1.toInt = i.toInt + (1 : Int) := by rw [ez_1]; exact tl_addN i 1 rfl rfl (by omega) (by omega)
  refine va_sld hx hb hX hbl hbA hS (tl_in (by omega) (by omega)) dL_law_289 ?_
  refine lv_topi (fun z_2 ez_2 => ?_)
  refine lv_aload_n hx hb dL_law_290 rfl (lv_at hl 3 rfl) ?_
  refine lv_iload_n hx hb dL_law_291 rfl (lv_at hl 0 rfl) ?_
  refine lv_iconst (v := 2) hx hb dL_law_292 (by decide) ?_
  refine lv_iadd hx hb dL_law_293 ?_
  refine lv_topi (fun z_3 ez_3 => ?_)
  try have iz_3 : z_3.toInt = i.toInt + (2 : Int) := by rw [ez_3]; exact tl_addN i 2 rfl rfl (by omega) (by omega)
  refine va_sld hx hb hX hbl hbA hS (tl_in (by omega) (by omega)) dL_law_294 ?_
  refine lv_topi (fun z_4 ez_4 => ?_)
  refine lv_aload_n hx hb dL_law_295 rfl (lv_at hl 3 rfl) ?_
  refine lv_iload_n hx hb dL_law_296 rfl (lv_at hl 0 rfl) ?_
  refine lv_iconst (v := 3) hx hb dL_law_297 (by decide) ?_
  refine lv_iadd hx hb dL_law_298 ?_
  refine lv_topi (fun z_5 ez_5 => ?_)
  try have iz_5 : z_5.toInt = i.toInt + (3 : Int) := by rw [ez_5]; exact tl_addN i 3 rfl rfl (by omega) (by omega)
  refine va_sld hx hb hX hbl hbA hS (tl_in (by omega) (by omega)) dL_law_299 ?_
  refine lv_topi (fun z_6 ez_6 => ?_)
  obtain ⟨x_8, x_9, x_10, x_11, x_12, x_13, x_14, x_15, x_16, x_17, x_18, x_19, x_20, x_21, x_22, x_23, hf_7, hx_8, hx_9, hx_10, hx_11, hx_12, hx_13, hx_14, hx_15, hx_16, hx_17, hx_18, hx_19, hx_20, hx_21, hx_22, hx_23⟩ := (show tp_o_X L K (0) 0 (Γ (0, 0, 0)) (f xq) from hI.at hxq)
  refine tq_ci hS (hAf _ hS.1) (tq_rV (As := [.int z_2, .int z_4, .int z_6]) (rest := []) ⟨hx, hb, hml, hown, hta⟩ (tp_P.pre hK hN hL hU hI hP) (tp_recv hK hP hxq.1 hf_7 rfl) lk_L_23 (t_X11_raw l D cy H.size L K Γ f xq z_2 z_4 z_6 hxq) rfl rfl ⟨Nat.le_of_ble_eq_true rfl, Nat.le_of_ble_eq_true rfl⟩ rfl hl.1 rfl (Nat.le_of_ble_eq_true rfl) dL_law_300 ⟨by rw [hRc]; omega, by rw [hRs]; omega⟩) (fun r_25 f_26 H locs hw_24 hP hI hc_27 hS => ?_)
  have hD : va_D A (va_pl L f_26) := tp_D hL hAL
  have hf_28 := (tp_un hc_27 hxq (by decide)).trans hf_7
  refine lv_pop hx hb dL_law_303 rfl ?_
  refine lv_aload_n hx hb dL_law_304 rfl (lv_at hl 1 rfl) ?_
  refine lv_aload_n hx hb dL_law_305 rfl (lv_at hl 3 rfl) ?_
  refine lv_iload_n hx hb dL_law_306 rfl (lv_at hl 0 rfl) ?_
  refine lv_iconst (v := 1) hx hb dL_law_307 (by decide) ?_
  refine lv_iadd hx hb dL_law_308 ?_
  refine lv_topi (fun z_29 ez_29 => ?_)
  obtain rfl : z_1 = z_29 := ez_1.trans ez_29.symm
  refine va_sld hx hb hX hbl hbA hS (tl_in (by omega) (by omega)) dL_law_309 ?_
  refine lv_topi (fun z_30 ez_30 => ?_)
  obtain rfl : z_2 = z_30 := ez_2.trans ez_30.symm
  refine lv_aload_n hx hb dL_law_310 rfl (lv_at hl 3 rfl) ?_
  refine lv_iload_n hx hb dL_law_311 rfl (lv_at hl 0 rfl) ?_
  refine lv_iconst (v := 2) hx hb dL_law_312 (by decide) ?_
  refine lv_iadd hx hb dL_law_313 ?_
  refine lv_topi (fun z_31 ez_31 => ?_)
  obtain rfl : z_3 = z_31 := ez_3.trans ez_31.symm
  refine va_sld hx hb hX hbl hbA hS (tl_in (by omega) (by omega)) dL_law_314 ?_
  refine lv_topi (fun z_32 ez_32 => ?_)
  obtain rfl : z_4 = z_32 := ez_4.trans ez_32.symm
  refine lv_aload_n hx hb dL_law_315 rfl (lv_at hl 3 rfl) ?_
  refine lv_iload_n hx hb dL_law_316 rfl (lv_at hl 0 rfl) ?_
  refine lv_iconst (v := 3) hx hb dL_law_317 (by decide) ?_
  refine lv_iadd hx hb dL_law_318 ?_
  refine lv_topi (fun z_33 ez_33 => ?_)
  obtain rfl : z_5 = z_33 := ez_5.trans ez_33.symm
  refine va_sld hx hb hX hbl hbA hS (tl_in (by omega) (by omega)) dL_law_319 ?_
  refine lv_topi (fun z_34 ez_34 => ?_)
  obtain rfl : z_6 = z_34 := ez_6.trans ez_34.symm
  obtain ⟨r_36, v_37, q_38, hf_35, hr_39, hv_40⟩ := (show tp_o_M L K 0 0 (Γ (39, 0, 0)) (f_26 mq) from hI.at hmq)
  refine tq_ciR hS (hAf _ hS.1) (tq_rV (As := [.int z_2, .int z_4, .int z_6]) (rest := []) ⟨hx, hb, hml, hown, hta⟩ (tp_P.pre hK hN hL hU hI hP) (tp_recv hK hP hmq.1 hf_35 rfl) lk_L_27 (r_X12_raw l D cy H.size L K Γ f_26 mq z_2 z_4 z_6 hmq (by first | omega | (simp only [Int32.toInt_toInt64]; omega) | decide | assumption)) rfl rfl ⟨Nat.le_of_ble_eq_true rfl, Nat.le_of_ble_eq_true rfl⟩ rfl hl.1 rfl (Nat.le_of_ble_eq_true rfl) dL_law_320 ⟨by rw [hRc]; omega, by rw [hRs]; omega⟩) (fun r_42 f_43 Γ_45 H locs hw_41 hP hI hc_44 hcg_46 hS => ?_)
  have hD : va_D A (va_pl L f_43) := tp_D hL hAL
  have hf_47 := (tp_un hc_44 hxq (by decide)).trans hf_28
  have hf_48 := (tp_un hc_44 hmq (by decide)).trans hf_35
  have hw_41 : Γ_45 (40, 7666, 0) = if (0 ≤ z_2.toInt ∧ z_2.toInt < Γ (40, 7666, 0) 1) ∧ (0 ≤ z_4.toInt ∧ z_4.toInt ≤ 299) ∧ (z_6.toInt = -1000000 ∨ (-100000 ≤ z_6.toInt ∧ z_6.toInt ≤ 100000)) then tgu (Γ (40, 7666, 0)) (441 + 300 * z_2.toInt + z_4.toInt).toNat z_6.toInt else Γ (40, 7666, 0) := hw_41
  have hlq9 := s_raw hlq hcg_46 hw_41
  have hfree9 : ∀ j : Nat, Γ_45 (12, 4, 0) j = 0 → ∀ a ∈ L, ¬ (K a).2.2 = j + 1 := fun j q a ha => hfree j (by rw [← (hcg_46 (12, 4, 0) (by decide)).trans hIM]; exact q) a ha
  refine lv_pop hx hb dL_law_323 rfl ?_
  refine lv_goto (tgt := 2005) hx hb dL_law_324 (by decide) ?_
  exact W.widen (k := cells + 41) (n := slots + 8199) (by omega) (by omega) (kk L K Γ_45 f_43 H locs ls ⟨hP, hI, hL, hU, hAL, hS, hxq, hmq, hlq9, hfree9⟩ (lv_sub hl [0, 1, 2, 3] rfl))
set_option maxHeartbeats 4000000 in
set_option maxRecDepth 100000 in
theorem tl_law_3 {p : Program} {e : Env} {s : State} {m : MethodId} {below : List Frame} {meth : Method} {c : Code} (l : Launch) {b N : Nat} {xs : Nat → Int32} (C0 : lw_At p s m meth c b N xs) (D : va_G) (cy : Nat → ClassId) (hK : va_K D vwCl (tl_T cy) s) (hN : tl_ok s) (Z : ts_Y) {A : Nat → Prop} (hAe : A = fun q : Nat => s.heap.size ≤ q) (hZ : ts_Z A Z s s.heap) (xq mq : Nat) (i : Int32) (hi : 0 ≤ i.toInt ∧ i.toInt + 7 ≤ N ∧ N ≤ 3584) {cells slots : Nat} (hcs : cells + 41 ≤ 600000 ∧ slots + 8199 ≤ 7302249) {L : List Nat} {K : Nat → tk_K} {Γ : tk_G} {f : Nat → va_E} {H : Heap} {locs : List Loc} {ls : Array Slot} (S : lq_S D cy A s L K Γ f H locs xq mq) (hl : lv_has ls 4 [(3, .int i), (2, .ref mq), (1, .ref xq), (0, .ref b)]) (kk : ∀ (L : List Nat) (K : Nat → tk_K) (Γ : tk_G) (f : Nat → va_E) (H : Heap) (locs : List Loc) (ls : Array Slot), lq_S D cy A s L K Γ f H locs xq mq → lv_has ls 4 [(3, .int i), (2, .ref mq), (1, .ref xq), (0, .ref b)] → W p l e room_1 s m #[Value.ref b] below meth c H locs (cells + 41) (slots + 8199) (lw_Z below #[Value.ref b] s) (F0 m 2005 ls [])) : W p l e room_1 s m #[Value.ref b] below meth c H locs cells slots (lw_Z below #[Value.ref b] s) (F0 m 327 ls []) := by
  obtain ⟨hx, hb, hr, hml, hown, hts, hX, hbl, hlocks, hgv⟩ := id C0
  obtain ⟨hP, hI, hL, hU, hAL, hS, hxq, hmq, hlq, hfree⟩ := S
  have hta : ∀ w ∈ tl_L, w.before #[Value.ref b] s = true := fun w h => hts w (List.mem_filter.mp h).1
  have hA : ∀ q : Nat, s.heap.size ≤ q → A q := fun q h => by rw [hAe]; exact h
  have hbA : ¬ A b := by rw [hAe]; exact Nat.not_le.mpr hbl
  have hAf : ∀ (H : Heap), s.heap.size ≤ H.size → ∀ q, tp_A L H.size q → A q := fun H h q hq => hq.elim (hAL q) (fun h2 => hA q (Nat.le_trans h h2))
  have hRc : room_1.cells = 600000 := rfl
  have hRs : room_1.slots = 7302249 := rfl
  have hI0 := hI
  have hD : va_D A (va_pl L f) := tp_D hL hAL
  have htx := hlq.2.2.2.2.1
  have hsd := hlq.2.2.1
  have hs := ts_hs hsd
  have hraw := ts_raw hsd
  have hslp := ts_slp hsd
  have hdp := ts_dp hsd
  have hm0 := hlq.2.2.2.2.2
  have hIM : Γ (12, 4, 0) = Γ (12, 4, 0) := rfl
  refine lv_aload_n hx hb dL_law_327 rfl (lv_at hl 2 rfl) ?_
  refine lv_aload_n hx hb dL_law_328 rfl (lv_at hl 3 rfl) ?_
  refine lv_iload_n hx hb dL_law_329 rfl (lv_at hl 0 rfl) ?_
  refine lv_iconst (v := 1) hx hb dL_law_330 (by decide) ?_
  refine lv_iadd hx hb dL_law_331 ?_
  refine lv_topi (fun z_1 ez_1 => ?_)
  try have iz_1 : z_1.toInt = i.toInt + (1 : Int) := by rw [ez_1]; exact tl_addN i 1 rfl rfl (by omega) (by omega)
  refine va_sld hx hb hX hbl hbA hS (tl_in (by omega) (by omega)) dL_law_332 ?_
  refine lv_topi (fun z_2 ez_2 => ?_)
  refine lv_aload_n hx hb dL_law_333 rfl (lv_at hl 3 rfl) ?_
  refine lv_iload_n hx hb dL_law_334 rfl (lv_at hl 0 rfl) ?_
  refine lv_iconst (v := 2) hx hb dL_law_335 (by decide) ?_
  refine lv_iadd hx hb dL_law_336 ?_
  refine lv_topi (fun z_3 ez_3 => ?_)
  try have iz_3 : z_3.toInt = i.toInt + (2 : Int) := by rw [ez_3]; exact tl_addN i 2 rfl rfl (by omega) (by omega)
  refine va_sld hx hb hX hbl hbA hS (tl_in (by omega) (by omega)) dL_law_337 ?_
  refine lv_topi (fun z_4 ez_4 => ?_)
  obtain ⟨x_6, x_7, x_8, x_9, x_10, x_11, x_12, x_13, x_14, x_15, x_16, x_17, x_18, x_19, x_20, x_21, hf_5, hx_6, hx_7, hx_8, hx_9, hx_10, hx_11, hx_12, hx_13, hx_14, hx_15, hx_16, hx_17, hx_18, hx_19, hx_20, hx_21⟩ := (show tp_o_X L K (0) 0 (Γ (0, 0, 0)) (f xq) from hI.at hxq)
  refine tl_si (tq_rV (As := [.int z_2, .int z_4]) (rest := []) ⟨hx, hb, hml, hown, hta⟩ (tp_P.pre hK hN hL hU hI hP) (tp_recv hK hP hxq.1 hf_5 rfl) lk_L_28 (t_X11_read l D cy H.size L K Γ f xq z_2 z_4 hxq) rfl rfl ⟨Nat.le_of_ble_eq_true rfl, Nat.le_of_ble_eq_true rfl⟩ rfl hl.1 rfl (Nat.le_of_ble_eq_true rfl) dL_law_338 ⟨by rw [hRc]; omega, by rw [hRs]; omega⟩) (fun r_23 hw_22 => ?_)
  refine lv_pop hx hb dL_law_341 rfl ?_
  refine lv_aload_n hx hb dL_law_342 rfl (lv_at hl 1 rfl) ?_
  refine lv_aload_n hx hb dL_law_343 rfl (lv_at hl 3 rfl) ?_
  refine lv_iload_n hx hb dL_law_344 rfl (lv_at hl 0 rfl) ?_
  refine lv_iconst (v := 1) hx hb dL_law_345 (by decide) ?_
  refine lv_iadd hx hb dL_law_346 ?_
  refine lv_topi (fun z_24 ez_24 => ?_)
  obtain rfl : z_1 = z_24 := ez_1.trans ez_24.symm
  refine va_sld hx hb hX hbl hbA hS (tl_in (by omega) (by omega)) dL_law_347 ?_
  refine lv_topi (fun z_25 ez_25 => ?_)
  obtain rfl : z_2 = z_25 := ez_2.trans ez_25.symm
  refine lv_aload_n hx hb dL_law_348 rfl (lv_at hl 3 rfl) ?_
  refine lv_iload_n hx hb dL_law_349 rfl (lv_at hl 0 rfl) ?_
  refine lv_iconst (v := 2) hx hb dL_law_350 (by decide) ?_
  refine lv_iadd hx hb dL_law_351 ?_
  refine lv_topi (fun z_26 ez_26 => ?_)
  obtain rfl : z_3 = z_26 := ez_3.trans ez_26.symm
  refine va_sld hx hb hX hbl hbA hS (tl_in (by omega) (by omega)) dL_law_352 ?_
  refine lv_topi (fun z_27 ez_27 => ?_)
  obtain rfl : z_4 = z_27 := ez_4.trans ez_27.symm
  obtain ⟨r_29, v_30, q_31, hf_28, hr_32, hv_33⟩ := (show tp_o_M L K 0 0 (Γ (39, 0, 0)) (f mq) from hI.at hmq)
  refine tl_si (tq_rV (As := [.int z_2, .int z_4]) (rest := []) ⟨hx, hb, hml, hown, hta⟩ (tp_P.pre hK hN hL hU hI hP) (tp_recv hK hP hmq.1 hf_28 rfl) lk_L_31 (r_X12_read l D cy H.size L K Γ f mq z_2 z_4 hmq (by first | omega | (simp only [Int32.toInt_toInt64]; omega) | decide | assumption) (by first | omega | (simp only [Int32.toInt_toInt64]; omega) | decide | assumption) (by first | omega | (simp only [Int32.toInt_toInt64]; omega) | decide | assumption)) rfl rfl ⟨Nat.le_of_ble_eq_true rfl, Nat.le_of_ble_eq_true rfl⟩ rfl hl.1 rfl (Nat.le_of_ble_eq_true rfl) dL_law_353 ⟨by rw [hRc]; omega, by rw [hRs]; omega⟩) (fun r_35 hw_34 => ?_)
  have hlq9 := hlq
  have hfree9 := hfree
  refine lv_pop hx hb dL_law_356 rfl ?_
  refine lv_goto (tgt := 2005) hx hb dL_law_357 (by decide) ?_
  exact W.widen (k := cells + 41) (n := slots + 8199) (by omega) (by omega) (kk L K Γ f H locs ls ⟨hP, hI, hL, hU, hAL, hS, hxq, hmq, hlq9, hfree9⟩ (lv_sub hl [0, 1, 2, 3] rfl))
set_option maxHeartbeats 4000000 in
set_option maxRecDepth 100000 in
theorem tl_law_4 {p : Program} {e : Env} {s : State} {m : MethodId} {below : List Frame} {meth : Method} {c : Code} (l : Launch) {b N : Nat} {xs : Nat → Int32} (C0 : lw_At p s m meth c b N xs) (D : va_G) (cy : Nat → ClassId) (hK : va_K D vwCl (tl_T cy) s) (hN : tl_ok s) (Z : ts_Y) {A : Nat → Prop} (hAe : A = fun q : Nat => s.heap.size ≤ q) (hZ : ts_Z A Z s s.heap) (xq mq : Nat) (i : Int32) (hi : 0 ≤ i.toInt ∧ i.toInt + 7 ≤ N ∧ N ≤ 3584) {cells slots : Nat} (hcs : cells + 41 ≤ 600000 ∧ slots + 8199 ≤ 7302249) {L : List Nat} {K : Nat → tk_K} {Γ : tk_G} {f : Nat → va_E} {H : Heap} {locs : List Loc} {ls : Array Slot} (S : lq_S D cy A s L K Γ f H locs xq mq) (hl : lv_has ls 4 [(3, .int i), (2, .ref mq), (1, .ref xq), (0, .ref b)]) (kk : ∀ (L : List Nat) (K : Nat → tk_K) (Γ : tk_G) (f : Nat → va_E) (H : Heap) (locs : List Loc) (ls : Array Slot), lq_S D cy A s L K Γ f H locs xq mq → lv_has ls 4 [(3, .int i), (2, .ref mq), (1, .ref xq), (0, .ref b)] → W p l e room_1 s m #[Value.ref b] below meth c H locs (cells + 41) (slots + 8199) (lw_Z below #[Value.ref b] s) (F0 m 2005 ls [])) : W p l e room_1 s m #[Value.ref b] below meth c H locs cells slots (lw_Z below #[Value.ref b] s) (F0 m 360 ls []) := by
  obtain ⟨hx, hb, hr, hml, hown, hts, hX, hbl, hlocks, hgv⟩ := id C0
  obtain ⟨hP, hI, hL, hU, hAL, hS, hxq, hmq, hlq, hfree⟩ := S
  have hta : ∀ w ∈ tl_L, w.before #[Value.ref b] s = true := fun w h => hts w (List.mem_filter.mp h).1
  have hA : ∀ q : Nat, s.heap.size ≤ q → A q := fun q h => by rw [hAe]; exact h
  have hbA : ¬ A b := by rw [hAe]; exact Nat.not_le.mpr hbl
  have hAf : ∀ (H : Heap), s.heap.size ≤ H.size → ∀ q, tp_A L H.size q → A q := fun H h q hq => hq.elim (hAL q) (fun h2 => hA q (Nat.le_trans h h2))
  have hRc : room_1.cells = 600000 := rfl
  have hRs : room_1.slots = 7302249 := rfl
  have hI0 := hI
  have hD : va_D A (va_pl L f) := tp_D hL hAL
  have htx := hlq.2.2.2.2.1
  have hsd := hlq.2.2.1
  have hs := ts_hs hsd
  have hraw := ts_raw hsd
  have hslp := ts_slp hsd
  have hdp := ts_dp hsd
  have hm0 := hlq.2.2.2.2.2
  have hIM : Γ (12, 4, 0) = Γ (12, 4, 0) := rfl
  refine lv_aload_n hx hb dL_law_360 rfl (lv_at hl 2 rfl) ?_
  refine lv_aload_n hx hb dL_law_361 rfl (lv_at hl 3 rfl) ?_
  refine lv_iload_n hx hb dL_law_362 rfl (lv_at hl 0 rfl) ?_
  refine lv_iconst (v := 1) hx hb dL_law_363 (by decide) ?_
  refine lv_iadd hx hb dL_law_364 ?_
  refine lv_topi (fun z_1 ez_1 => ?_)
  try have iz_1 : z_1.toInt = i.toInt + (1 : Int) := by rw [ez_1]; exact tl_addN i 1 rfl rfl (by omega) (by omega)
  refine va_sld hx hb hX hbl hbA hS (tl_in (by omega) (by omega)) dL_law_365 ?_
  refine lv_topi (fun z_2 ez_2 => ?_)
  refine lv_aload_n hx hb dL_law_366 rfl (lv_at hl 3 rfl) ?_
  refine lv_iload_n hx hb dL_law_367 rfl (lv_at hl 0 rfl) ?_
  refine lv_iconst (v := 2) hx hb dL_law_368 (by decide) ?_
  refine lv_iadd hx hb dL_law_369 ?_
  refine lv_topi (fun z_3 ez_3 => ?_)
  try have iz_3 : z_3.toInt = i.toInt + (2 : Int) := by rw [ez_3]; exact tl_addN i 2 rfl rfl (by omega) (by omega)
  refine va_sld hx hb hX hbl hbA hS (tl_in (by omega) (by omega)) dL_law_370 ?_
  refine lv_topi (fun z_4 ez_4 => ?_)
  refine lv_aload_n hx hb dL_law_371 rfl (lv_at hl 3 rfl) ?_
  refine lv_iload_n hx hb dL_law_372 rfl (lv_at hl 0 rfl) ?_
  refine lv_iconst (v := 3) hx hb dL_law_373 (by decide) ?_
  refine lv_iadd hx hb dL_law_374 ?_
  refine lv_topi (fun z_5 ez_5 => ?_)
  try have iz_5 : z_5.toInt = i.toInt + (3 : Int) := by rw [ez_5]; exact tl_addN i 3 rfl rfl (by omega) (by omega)
  refine va_sld hx hb hX hbl hbA hS (tl_in (by omega) (by omega)) dL_law_375 ?_
  refine lv_topi (fun z_6 ez_6 => ?_)
  refine lv_aload_n hx hb dL_law_376 rfl (lv_at hl 3 rfl) ?_
  refine lv_iload_n hx hb dL_law_377 rfl (lv_at hl 0 rfl) ?_
  refine lv_iconst (v := 4) hx hb dL_law_378 (by decide) ?_
  refine lv_iadd hx hb dL_law_379 ?_
  refine lv_topi (fun z_7 ez_7 => ?_)
  try have iz_7 : z_7.toInt = i.toInt + (4 : Int) := by rw [ez_7]; exact tl_addN i 4 rfl rfl (by omega) (by omega)
  refine va_sld hx hb hX hbl hbA hS (tl_in (by omega) (by omega)) dL_law_380 ?_
  refine lv_topi (fun z_8 ez_8 => ?_)
  obtain ⟨x_10, x_11, x_12, x_13, x_14, x_15, x_16, x_17, x_18, x_19, x_20, x_21, x_22, x_23, x_24, x_25, hf_9, hx_10, hx_11, hx_12, hx_13, hx_14, hx_15, hx_16, hx_17, hx_18, hx_19, hx_20, hx_21, hx_22, hx_23, hx_24, hx_25⟩ := (show tp_o_X L K (0) 0 (Γ (0, 0, 0)) (f xq) from hI.at hxq)
  refine tq_ci hS (hAf _ hS.1) (tq_rV (As := [.int z_2, .int z_4, .int z_6, .int z_8]) (rest := []) ⟨hx, hb, hml, hown, hta⟩ (tp_P.pre hK hN hL hU hI hP) (tp_recv hK hP hxq.1 hf_9 rfl) lk_L_32 (t_X11_slip l D cy H.size L K Γ f xq z_2 z_4 z_6 z_8 hxq) rfl rfl ⟨Nat.le_of_ble_eq_true rfl, Nat.le_of_ble_eq_true rfl⟩ rfl hl.1 rfl (Nat.le_of_ble_eq_true rfl) dL_law_381 ⟨by rw [hRc]; omega, by rw [hRs]; omega⟩) (fun r_27 f_28 H locs hw_26 hP hI hc_29 hS => ?_)
  have hD : va_D A (va_pl L f_28) := tp_D hL hAL
  have hf_30 := (tp_un hc_29 hxq (by decide)).trans hf_9
  obtain ⟨Γ_31, eΓ_31⟩ : ∃ y : tk_G, y = if (0 ≤ z_2.toInt ∧ z_2.toInt ≤ 3) ∧ (0 ≤ z_4.toInt ∧ z_4.toInt ≤ 299) ∧ (0 ≤ z_6.toInt ∧ z_6.toInt ≤ 299) ∧ z_4.toInt ≤ z_6.toInt ∧ -9999 ≤ z_8.toInt ∧ z_8.toInt ≤ 9999 then tm_add Γ (7, 40, 0) (8, 4 * 40, 0) 40 z_2.toInt z_4.toInt z_6.toInt z_8.toInt else Γ := ⟨_, rfl⟩
  have hI : tp_I cy L K Γ_31 f_28 := by rw [eΓ_31]; exact hI
  have hw_26 : r_27.toInt = if (0 ≤ z_2.toInt ∧ z_2.toInt ≤ 3) ∧ (0 ≤ z_4.toInt ∧ z_4.toInt ≤ 299) ∧ (0 ≤ z_6.toInt ∧ z_6.toInt ≤ 299) ∧ z_4.toInt ≤ z_6.toInt ∧ -9999 ≤ z_8.toInt ∧ z_8.toInt ≤ 9999 then tm_at 40 (Γ (7, 40, 0) 0) else -1 := hw_26
  have hSA1 : Γ_31 (40, 7666, 0) = Γ (40, 7666, 0) := (by rw [eΓ_31]; split; exact lq_add _ _ _ (by decide); rfl)
  have hIM : Γ_31 (12, 4, 0) = Γ (12, 4, 0) := (by rw [eΓ_31]; split; exact lq_add _ _ _ (by decide); rfl)
  have hs : (0 ≤ Γ_31 (40, 7666, 0) 1 ∧ Γ_31 (40, 7666, 0) 1 ≤ 24) ∧ (0 ≤ Γ_31 (40, 7666, 0) 2 ∧ Γ_31 (40, 7666, 0) 2 ≤ 40) ∧ (0 ≤ Γ_31 (40, 7666, 0) 3 ∧ Γ_31 (40, 7666, 0) 3 ≤ 60) ∧ (0 ≤ Γ_31 (40, 7666, 0) 4 ∧ Γ_31 (40, 7666, 0) 4 ≤ 10) ∧ (0 ≤ Γ_31 (40, 7666, 0) 7665 ∧ Γ_31 (40, 7666, 0) 7665 ≤ 8) := by rw [hSA1]; exact hs
  have hdp : ∀ l : Nat, (l : Int) < Γ_31 (40, 7666, 0) 3 → 1 ≤ Γ_31 (40, 7666, 0) (243 + 3 * l) := by rw [hSA1]; exact hdp
  refine lv_pop hx hb dL_law_384 rfl ?_
  refine lv_aload_n hx hb dL_law_385 rfl (lv_at hl 1 rfl) ?_
  refine lv_aload_n hx hb dL_law_386 rfl (lv_at hl 3 rfl) ?_
  refine lv_iload_n hx hb dL_law_387 rfl (lv_at hl 0 rfl) ?_
  refine lv_iconst (v := 1) hx hb dL_law_388 (by decide) ?_
  refine lv_iadd hx hb dL_law_389 ?_
  refine lv_topi (fun z_32 ez_32 => ?_)
  obtain rfl : z_1 = z_32 := ez_1.trans ez_32.symm
  refine va_sld hx hb hX hbl hbA hS (tl_in (by omega) (by omega)) dL_law_390 ?_
  refine lv_topi (fun z_33 ez_33 => ?_)
  obtain rfl : z_2 = z_33 := ez_2.trans ez_33.symm
  refine lv_aload_n hx hb dL_law_391 rfl (lv_at hl 3 rfl) ?_
  refine lv_iload_n hx hb dL_law_392 rfl (lv_at hl 0 rfl) ?_
  refine lv_iconst (v := 2) hx hb dL_law_393 (by decide) ?_
  refine lv_iadd hx hb dL_law_394 ?_
  refine lv_topi (fun z_34 ez_34 => ?_)
  obtain rfl : z_3 = z_34 := ez_3.trans ez_34.symm
  refine va_sld hx hb hX hbl hbA hS (tl_in (by omega) (by omega)) dL_law_395 ?_
  refine lv_topi (fun z_35 ez_35 => ?_)
  obtain rfl : z_4 = z_35 := ez_4.trans ez_35.symm
  refine lv_aload_n hx hb dL_law_396 rfl (lv_at hl 3 rfl) ?_
  refine lv_iload_n hx hb dL_law_397 rfl (lv_at hl 0 rfl) ?_
  refine lv_iconst (v := 3) hx hb dL_law_398 (by decide) ?_
  refine lv_iadd hx hb dL_law_399 ?_
  refine lv_topi (fun z_36 ez_36 => ?_)
  obtain rfl : z_5 = z_36 := ez_5.trans ez_36.symm
  refine va_sld hx hb hX hbl hbA hS (tl_in (by omega) (by omega)) dL_law_400 ?_
  refine lv_topi (fun z_37 ez_37 => ?_)
  obtain rfl : z_6 = z_37 := ez_6.trans ez_37.symm
  refine lv_aload_n hx hb dL_law_401 rfl (lv_at hl 3 rfl) ?_
  refine lv_iload_n hx hb dL_law_402 rfl (lv_at hl 0 rfl) ?_
  refine lv_iconst (v := 4) hx hb dL_law_403 (by decide) ?_
  refine lv_iadd hx hb dL_law_404 ?_
  refine lv_topi (fun z_38 ez_38 => ?_)
  obtain rfl : z_7 = z_38 := ez_7.trans ez_38.symm
  refine va_sld hx hb hX hbl hbA hS (tl_in (by omega) (by omega)) dL_law_405 ?_
  refine lv_topi (fun z_39 ez_39 => ?_)
  obtain rfl : z_8 = z_39 := ez_8.trans ez_39.symm
  obtain ⟨r_41, v_42, q_43, hf_40, hr_44, hv_45⟩ := (show tp_o_M L K 0 0 (Γ_31 (39, 0, 0)) (f_28 mq) from hI.at hmq)
  refine tq_ciR hS (hAf _ hS.1) (tq_rV (As := [.int z_2, .int z_4, .int z_6, .int z_8]) (rest := []) ⟨hx, hb, hml, hown, hta⟩ (tp_P.pre hK hN hL hU hI hP) (tp_recv hK hP hmq.1 hf_40 rfl) lk_L_36 (r_X12_slip l D cy H.size L K Γ_31 f_28 mq z_2 z_4 z_6 z_8 hmq (by first | omega | (simp only [Int32.toInt_toInt64]; omega) | decide | assumption)) rfl rfl ⟨Nat.le_of_ble_eq_true rfl, Nat.le_of_ble_eq_true rfl⟩ rfl hl.1 rfl (Nat.le_of_ble_eq_true rfl) dL_law_406 ⟨by rw [hRc]; omega, by rw [hRs]; omega⟩) (fun r_47 f_48 Γ_50 H locs hw_46 hP hI hc_49 hcg_51 hS => ?_)
  have hD : va_D A (va_pl L f_48) := tp_D hL hAL
  have hf_52 := (tp_un hc_49 hxq (by decide)).trans hf_30
  have hf_53 := (tp_un hc_49 hmq (by decide)).trans hf_40
  have hw_46 : r_47.toInt = (if ¬ Γ_31 (40, 7666, 0) 2 = 40 ∧ (0 ≤ z_2.toInt ∧ z_2.toInt ≤ 3) ∧ (0 ≤ z_4.toInt ∧ z_4.toInt ≤ 299) ∧ (0 ≤ z_6.toInt ∧ z_6.toInt ≤ 299) ∧ z_4.toInt ≤ z_6.toInt ∧ -9999 ≤ z_8.toInt ∧ z_8.toInt ≤ 9999 then Γ_31 (40, 7666, 0) 2 else -1) ∧ Γ_50 (40, 7666, 0) = if ¬ Γ_31 (40, 7666, 0) 2 = 40 ∧ (0 ≤ z_2.toInt ∧ z_2.toInt ≤ 3) ∧ (0 ≤ z_4.toInt ∧ z_4.toInt ≤ 299) ∧ (0 ≤ z_6.toInt ∧ z_6.toInt ≤ 299) ∧ z_4.toInt ≤ z_6.toInt ∧ -9999 ≤ z_8.toInt ∧ z_8.toInt ≤ 9999 then tgu (tgu (tgu (tgu (tgu (Γ_31 (40, 7666, 0)) (81 + 4 * Γ_31 (40, 7666, 0) 2 + 0).toNat (z_2.toInt)) (81 + 4 * Γ_31 (40, 7666, 0) 2 + 1).toNat (z_4.toInt)) (81 + 4 * Γ_31 (40, 7666, 0) 2 + 2).toNat (z_6.toInt)) (81 + 4 * Γ_31 (40, 7666, 0) 2 + 3).toNat (z_8.toInt)) 2 (Γ_31 (40, 7666, 0) 2 + 1) else Γ_31 (40, 7666, 0) := hw_46
  have hst := s_slip hlq eΓ_31 hcg_51 hw_46.2
  have hlq9 := hst.1
  have hfree9 : ∀ j : Nat, Γ_50 (12, 4, 0) j = 0 → ∀ a ∈ L, ¬ (K a).2.2 = j + 1 := fun j q a ha => hfree j (by rw [← (hcg_51 (12, 4, 0) (by decide)).trans hIM]; exact q) a ha
  refine lv_pop hx hb dL_law_409 rfl ?_
  refine lv_goto (tgt := 2005) hx hb dL_law_410 (by decide) ?_
  exact W.widen (k := cells + 41) (n := slots + 8199) (by omega) (by omega) (kk L K Γ_50 f_48 H locs ls ⟨hP, hI, hL, hU, hAL, hS, hxq, hmq, hlq9, hfree9⟩ (lv_sub hl [0, 1, 2, 3] rfl))
set_option maxHeartbeats 4000000 in
set_option maxRecDepth 100000 in
theorem tl_law_5 {p : Program} {e : Env} {s : State} {m : MethodId} {below : List Frame} {meth : Method} {c : Code} (l : Launch) {b N : Nat} {xs : Nat → Int32} (C0 : lw_At p s m meth c b N xs) (D : va_G) (cy : Nat → ClassId) (hK : va_K D vwCl (tl_T cy) s) (hN : tl_ok s) (Z : ts_Y) {A : Nat → Prop} (hAe : A = fun q : Nat => s.heap.size ≤ q) (hZ : ts_Z A Z s s.heap) (xq mq : Nat) (i : Int32) (hi : 0 ≤ i.toInt ∧ i.toInt + 7 ≤ N ∧ N ≤ 3584) {cells slots : Nat} (hcs : cells + 41 ≤ 600000 ∧ slots + 8199 ≤ 7302249) {L : List Nat} {K : Nat → tk_K} {Γ : tk_G} {f : Nat → va_E} {H : Heap} {locs : List Loc} {ls : Array Slot} (S : lq_S D cy A s L K Γ f H locs xq mq) (hl : lv_has ls 4 [(3, .int i), (2, .ref mq), (1, .ref xq), (0, .ref b)]) (kk : ∀ (L : List Nat) (K : Nat → tk_K) (Γ : tk_G) (f : Nat → va_E) (H : Heap) (locs : List Loc) (ls : Array Slot), lq_S D cy A s L K Γ f H locs xq mq → lv_has ls 4 [(3, .int i), (2, .ref mq), (1, .ref xq), (0, .ref b)] → W p l e room_1 s m #[Value.ref b] below meth c H locs (cells + 41) (slots + 8199) (lw_Z below #[Value.ref b] s) (F0 m 2005 ls [])) : W p l e room_1 s m #[Value.ref b] below meth c H locs cells slots (lw_Z below #[Value.ref b] s) (F0 m 413 ls []) := by
  obtain ⟨hx, hb, hr, hml, hown, hts, hX, hbl, hlocks, hgv⟩ := id C0
  obtain ⟨hP, hI, hL, hU, hAL, hS, hxq, hmq, hlq, hfree⟩ := S
  have hta : ∀ w ∈ tl_L, w.before #[Value.ref b] s = true := fun w h => hts w (List.mem_filter.mp h).1
  have hA : ∀ q : Nat, s.heap.size ≤ q → A q := fun q h => by rw [hAe]; exact h
  have hbA : ¬ A b := by rw [hAe]; exact Nat.not_le.mpr hbl
  have hAf : ∀ (H : Heap), s.heap.size ≤ H.size → ∀ q, tp_A L H.size q → A q := fun H h q hq => hq.elim (hAL q) (fun h2 => hA q (Nat.le_trans h h2))
  have hRc : room_1.cells = 600000 := rfl
  have hRs : room_1.slots = 7302249 := rfl
  have hI0 := hI
  have hD : va_D A (va_pl L f) := tp_D hL hAL
  have htx := hlq.2.2.2.2.1
  have hsd := hlq.2.2.1
  have hs := ts_hs hsd
  have hraw := ts_raw hsd
  have hslp := ts_slp hsd
  have hdp := ts_dp hsd
  have hm0 := hlq.2.2.2.2.2
  have hIM : Γ (12, 4, 0) = Γ (12, 4, 0) := rfl
  refine lv_aload_n hx hb dL_law_413 rfl (lv_at hl 2 rfl) ?_
  refine lv_aload_n hx hb dL_law_414 rfl (lv_at hl 3 rfl) ?_
  refine lv_iload_n hx hb dL_law_415 rfl (lv_at hl 0 rfl) ?_
  refine lv_iconst (v := 1) hx hb dL_law_416 (by decide) ?_
  refine lv_iadd hx hb dL_law_417 ?_
  refine lv_topi (fun z_1 ez_1 => ?_)
  try have iz_1 : z_1.toInt = i.toInt + (1 : Int) := by rw [ez_1]; exact tl_addN i 1 rfl rfl (by omega) (by omega)
  refine va_sld hx hb hX hbl hbA hS (tl_in (by omega) (by omega)) dL_law_418 ?_
  refine lv_topi (fun z_2 ez_2 => ?_)
  refine lv_aload_n hx hb dL_law_419 rfl (lv_at hl 3 rfl) ?_
  refine lv_iload_n hx hb dL_law_420 rfl (lv_at hl 0 rfl) ?_
  refine lv_iconst (v := 2) hx hb dL_law_421 (by decide) ?_
  refine lv_iadd hx hb dL_law_422 ?_
  refine lv_topi (fun z_3 ez_3 => ?_)
  try have iz_3 : z_3.toInt = i.toInt + (2 : Int) := by rw [ez_3]; exact tl_addN i 2 rfl rfl (by omega) (by omega)
  refine va_sld hx hb hX hbl hbA hS (tl_in (by omega) (by omega)) dL_law_423 ?_
  refine lv_topi (fun z_4 ez_4 => ?_)
  obtain ⟨x_6, x_7, x_8, x_9, x_10, x_11, x_12, x_13, x_14, x_15, x_16, x_17, x_18, x_19, x_20, x_21, hf_5, hx_6, hx_7, hx_8, hx_9, hx_10, hx_11, hx_12, hx_13, hx_14, hx_15, hx_16, hx_17, hx_18, hx_19, hx_20, hx_21⟩ := (show tp_o_X L K (0) 0 (Γ (0, 0, 0)) (f xq) from hI.at hxq)
  refine tq_ci hS (hAf _ hS.1) (tq_rV (As := [.int z_2, .int z_4]) (rest := []) ⟨hx, hb, hml, hown, hta⟩ (tp_P.pre hK hN hL hU hI hP) (tp_recv hK hP hxq.1 hf_5 rfl) lk_L_37 (t_X11_anew l D cy H.size L K Γ f xq z_2 z_4 hxq) rfl rfl ⟨Nat.le_of_ble_eq_true rfl, Nat.le_of_ble_eq_true rfl⟩ rfl hl.1 rfl (Nat.le_of_ble_eq_true rfl) dL_law_424 ⟨by rw [hRc]; omega, by rw [hRs]; omega⟩) (fun r_23 f_24 H locs hw_22 hP hI hc_25 hS => ?_)
  have hD : va_D A (va_pl L f_24) := tp_D hL hAL
  have hf_26 := (tp_un hc_25 hxq (by decide)).trans hf_5
  obtain ⟨Γ_27, eΓ_27⟩ : ∃ y : tk_G, y = if (0 ≤ z_2.toInt ∧ z_2.toInt < Γ (7, 40, 0) 0) ∧ -9999 ≤ z_4.toInt ∧ z_4.toInt ≤ 9999 then tg Γ (8, 4 * 40, 0) (4 * z_2.toInt + 3).toNat z_4.toInt else Γ := ⟨_, rfl⟩
  have hI : tp_I cy L K Γ_27 f_24 := by rw [eΓ_27]; exact hI
  have hw_22 : r_23.toInt = if (0 ≤ z_2.toInt ∧ z_2.toInt < Γ (7, 40, 0) 0) ∧ -9999 ≤ z_4.toInt ∧ z_4.toInt ≤ 9999 then Γ (8, 4 * 40, 0) (4 * z_2.toInt + 3).toNat else -2000000 := hw_22
  have hSA1 : Γ_27 (40, 7666, 0) = Γ (40, 7666, 0) := (by rw [eΓ_27]; split; exact tg_rf (by decide); rfl)
  have hIM : Γ_27 (12, 4, 0) = Γ (12, 4, 0) := (by rw [eΓ_27]; split; exact tg_rf (by decide); rfl)
  have hs : (0 ≤ Γ_27 (40, 7666, 0) 1 ∧ Γ_27 (40, 7666, 0) 1 ≤ 24) ∧ (0 ≤ Γ_27 (40, 7666, 0) 2 ∧ Γ_27 (40, 7666, 0) 2 ≤ 40) ∧ (0 ≤ Γ_27 (40, 7666, 0) 3 ∧ Γ_27 (40, 7666, 0) 3 ≤ 60) ∧ (0 ≤ Γ_27 (40, 7666, 0) 4 ∧ Γ_27 (40, 7666, 0) 4 ≤ 10) ∧ (0 ≤ Γ_27 (40, 7666, 0) 7665 ∧ Γ_27 (40, 7666, 0) 7665 ≤ 8) := by rw [hSA1]; exact hs
  have hdp : ∀ l : Nat, (l : Int) < Γ_27 (40, 7666, 0) 3 → 1 ≤ Γ_27 (40, 7666, 0) (243 + 3 * l) := by rw [hSA1]; exact hdp
  refine lv_pop hx hb dL_law_427 rfl ?_
  refine lv_aload_n hx hb dL_law_428 rfl (lv_at hl 1 rfl) ?_
  refine lv_aload_n hx hb dL_law_429 rfl (lv_at hl 3 rfl) ?_
  refine lv_iload_n hx hb dL_law_430 rfl (lv_at hl 0 rfl) ?_
  refine lv_iconst (v := 1) hx hb dL_law_431 (by decide) ?_
  refine lv_iadd hx hb dL_law_432 ?_
  refine lv_topi (fun z_28 ez_28 => ?_)
  obtain rfl : z_1 = z_28 := ez_1.trans ez_28.symm
  refine va_sld hx hb hX hbl hbA hS (tl_in (by omega) (by omega)) dL_law_433 ?_
  refine lv_topi (fun z_29 ez_29 => ?_)
  obtain rfl : z_2 = z_29 := ez_2.trans ez_29.symm
  refine lv_aload_n hx hb dL_law_434 rfl (lv_at hl 3 rfl) ?_
  refine lv_iload_n hx hb dL_law_435 rfl (lv_at hl 0 rfl) ?_
  refine lv_iconst (v := 2) hx hb dL_law_436 (by decide) ?_
  refine lv_iadd hx hb dL_law_437 ?_
  refine lv_topi (fun z_30 ez_30 => ?_)
  obtain rfl : z_3 = z_30 := ez_3.trans ez_30.symm
  refine va_sld hx hb hX hbl hbA hS (tl_in (by omega) (by omega)) dL_law_438 ?_
  refine lv_topi (fun z_31 ez_31 => ?_)
  obtain rfl : z_4 = z_31 := ez_4.trans ez_31.symm
  obtain ⟨r_33, v_34, q_35, hf_32, hr_36, hv_37⟩ := (show tp_o_M L K 0 0 (Γ_27 (39, 0, 0)) (f_24 mq) from hI.at hmq)
  refine tq_ciR hS (hAf _ hS.1) (tq_rV (As := [.int z_2, .int z_4]) (rest := []) ⟨hx, hb, hml, hown, hta⟩ (tp_P.pre hK hN hL hU hI hP) (tp_recv hK hP hmq.1 hf_32 rfl) lk_L_40 (r_X12_anew l D cy H.size L K Γ_27 f_24 mq z_2 z_4 hmq (by first | omega | (simp only [Int32.toInt_toInt64]; omega) | decide | assumption)) rfl rfl ⟨Nat.le_of_ble_eq_true rfl, Nat.le_of_ble_eq_true rfl⟩ rfl hl.1 rfl (Nat.le_of_ble_eq_true rfl) dL_law_439 ⟨by rw [hRc]; omega, by rw [hRs]; omega⟩) (fun r_39 f_40 Γ_42 H locs hw_38 hP hI hc_41 hcg_43 hS => ?_)
  have hD : va_D A (va_pl L f_40) := tp_D hL hAL
  have hf_44 := (tp_un hc_41 hxq (by decide)).trans hf_26
  have hf_45 := (tp_un hc_41 hmq (by decide)).trans hf_32
  have hw_38 : r_39.toInt = (if (0 ≤ z_2.toInt ∧ z_2.toInt < Γ_27 (40, 7666, 0) 2) ∧ -9999 ≤ z_4.toInt ∧ z_4.toInt ≤ 9999 then Γ_27 (40, 7666, 0) (81 + 4 * z_2.toInt + 3).toNat else -2000000) ∧ Γ_42 (40, 7666, 0) = if (0 ≤ z_2.toInt ∧ z_2.toInt < Γ_27 (40, 7666, 0) 2) ∧ -9999 ≤ z_4.toInt ∧ z_4.toInt ≤ 9999 then tgu (Γ_27 (40, 7666, 0)) (81 + 4 * z_2.toInt + 3).toNat z_4.toInt else Γ_27 (40, 7666, 0) := hw_38
  have hst := s_anew hlq eΓ_27 hcg_43 hw_38.2
  have hlq9 := hst.1
  have hfree9 : ∀ j : Nat, Γ_42 (12, 4, 0) j = 0 → ∀ a ∈ L, ¬ (K a).2.2 = j + 1 := fun j q a ha => hfree j (by rw [← (hcg_43 (12, 4, 0) (by decide)).trans hIM]; exact q) a ha
  refine lv_pop hx hb dL_law_442 rfl ?_
  refine lv_goto (tgt := 2005) hx hb dL_law_443 (by decide) ?_
  exact W.widen (k := cells + 41) (n := slots + 8199) (by omega) (by omega) (kk L K Γ_42 f_40 H locs ls ⟨hP, hI, hL, hU, hAL, hS, hxq, hmq, hlq9, hfree9⟩ (lv_sub hl [0, 1, 2, 3] rfl))
set_option maxHeartbeats 4000000 in
set_option maxRecDepth 100000 in
theorem tl_law_6 {p : Program} {e : Env} {s : State} {m : MethodId} {below : List Frame} {meth : Method} {c : Code} (l : Launch) {b N : Nat} {xs : Nat → Int32} (C0 : lw_At p s m meth c b N xs) (D : va_G) (cy : Nat → ClassId) (hK : va_K D vwCl (tl_T cy) s) (hN : tl_ok s) (Z : ts_Y) {A : Nat → Prop} (hAe : A = fun q : Nat => s.heap.size ≤ q) (hZ : ts_Z A Z s s.heap) (xq mq : Nat) (i : Int32) (hi : 0 ≤ i.toInt ∧ i.toInt + 7 ≤ N ∧ N ≤ 3584) {cells slots : Nat} (hcs : cells + 41 ≤ 600000 ∧ slots + 8199 ≤ 7302249) {L : List Nat} {K : Nat → tk_K} {Γ : tk_G} {f : Nat → va_E} {H : Heap} {locs : List Loc} {ls : Array Slot} (S : lq_S D cy A s L K Γ f H locs xq mq) (hl : lv_has ls 4 [(3, .int i), (2, .ref mq), (1, .ref xq), (0, .ref b)]) (kk : ∀ (L : List Nat) (K : Nat → tk_K) (Γ : tk_G) (f : Nat → va_E) (H : Heap) (locs : List Loc) (ls : Array Slot), lq_S D cy A s L K Γ f H locs xq mq → lv_has ls 4 [(3, .int i), (2, .ref mq), (1, .ref xq), (0, .ref b)] → W p l e room_1 s m #[Value.ref b] below meth c H locs (cells + 41) (slots + 8199) (lw_Z below #[Value.ref b] s) (F0 m 2005 ls [])) : W p l e room_1 s m #[Value.ref b] below meth c H locs cells slots (lw_Z below #[Value.ref b] s) (F0 m 446 ls []) := by
  obtain ⟨hx, hb, hr, hml, hown, hts, hX, hbl, hlocks, hgv⟩ := id C0
  obtain ⟨hP, hI, hL, hU, hAL, hS, hxq, hmq, hlq, hfree⟩ := S
  have hta : ∀ w ∈ tl_L, w.before #[Value.ref b] s = true := fun w h => hts w (List.mem_filter.mp h).1
  have hA : ∀ q : Nat, s.heap.size ≤ q → A q := fun q h => by rw [hAe]; exact h
  have hbA : ¬ A b := by rw [hAe]; exact Nat.not_le.mpr hbl
  have hAf : ∀ (H : Heap), s.heap.size ≤ H.size → ∀ q, tp_A L H.size q → A q := fun H h q hq => hq.elim (hAL q) (fun h2 => hA q (Nat.le_trans h h2))
  have hRc : room_1.cells = 600000 := rfl
  have hRs : room_1.slots = 7302249 := rfl
  have hI0 := hI
  have hD : va_D A (va_pl L f) := tp_D hL hAL
  have htx := hlq.2.2.2.2.1
  have hsd := hlq.2.2.1
  have hs := ts_hs hsd
  have hraw := ts_raw hsd
  have hslp := ts_slp hsd
  have hdp := ts_dp hsd
  have hm0 := hlq.2.2.2.2.2
  have hIM : Γ (12, 4, 0) = Γ (12, 4, 0) := rfl
  refine lv_aload_n hx hb dL_law_446 rfl (lv_at hl 2 rfl) ?_
  refine lv_aload_n hx hb dL_law_447 rfl (lv_at hl 3 rfl) ?_
  refine lv_iload_n hx hb dL_law_448 rfl (lv_at hl 0 rfl) ?_
  refine lv_iconst (v := 1) hx hb dL_law_449 (by decide) ?_
  refine lv_iadd hx hb dL_law_450 ?_
  refine lv_topi (fun z_1 ez_1 => ?_)
  try have iz_1 : z_1.toInt = i.toInt + (1 : Int) := by rw [ez_1]; exact tl_addN i 1 rfl rfl (by omega) (by omega)
  refine va_sld hx hb hX hbl hbA hS (tl_in (by omega) (by omega)) dL_law_451 ?_
  refine lv_topi (fun z_2 ez_2 => ?_)
  refine lv_aload_n hx hb dL_law_452 rfl (lv_at hl 3 rfl) ?_
  refine lv_iload_n hx hb dL_law_453 rfl (lv_at hl 0 rfl) ?_
  refine lv_iconst (v := 2) hx hb dL_law_454 (by decide) ?_
  refine lv_iadd hx hb dL_law_455 ?_
  refine lv_topi (fun z_3 ez_3 => ?_)
  try have iz_3 : z_3.toInt = i.toInt + (2 : Int) := by rw [ez_3]; exact tl_addN i 2 rfl rfl (by omega) (by omega)
  refine va_sld hx hb hX hbl hbA hS (tl_in (by omega) (by omega)) dL_law_456 ?_
  refine lv_topi (fun z_4 ez_4 => ?_)
  refine lv_aload_n hx hb dL_law_457 rfl (lv_at hl 3 rfl) ?_
  refine lv_iload_n hx hb dL_law_458 rfl (lv_at hl 0 rfl) ?_
  refine lv_iconst (v := 3) hx hb dL_law_459 (by decide) ?_
  refine lv_iadd hx hb dL_law_460 ?_
  refine lv_topi (fun z_5 ez_5 => ?_)
  try have iz_5 : z_5.toInt = i.toInt + (3 : Int) := by rw [ez_5]; exact tl_addN i 3 rfl rfl (by omega) (by omega)
  refine va_sld hx hb hX hbl hbA hS (tl_in (by omega) (by omega)) dL_law_461 ?_
  refine lv_topi (fun z_6 ez_6 => ?_)
  obtain ⟨x_8, x_9, x_10, x_11, x_12, x_13, x_14, x_15, x_16, x_17, x_18, x_19, x_20, x_21, x_22, x_23, hf_7, hx_8, hx_9, hx_10, hx_11, hx_12, hx_13, hx_14, hx_15, hx_16, hx_17, hx_18, hx_19, hx_20, hx_21, hx_22, hx_23⟩ := (show tp_o_X L K (0) 0 (Γ (0, 0, 0)) (f xq) from hI.at hxq)
  refine tq_ci hS (hAf _ hS.1) (tq_rV (As := [.int z_2, .int z_4, .int z_6]) (rest := []) ⟨hx, hb, hml, hown, hta⟩ (tp_P.pre hK hN hL hU hI hP) (tp_recv hK hP hxq.1 hf_7 rfl) lk_L_41 (t_X11_line l D cy H.size L K Γ f xq z_2 z_4 z_6 hxq) rfl rfl ⟨Nat.le_of_ble_eq_true rfl, Nat.le_of_ble_eq_true rfl⟩ rfl hl.1 rfl (Nat.le_of_ble_eq_true rfl) dL_law_462 ⟨by rw [hRc]; omega, by rw [hRs]; omega⟩) (fun r_25 f_26 H locs hw_24 hP hI hc_27 hS => ?_)
  have hD : va_D A (va_pl L f_26) := tp_D hL hAL
  have hf_28 := (tp_un hc_27 hxq (by decide)).trans hf_7
  obtain ⟨Γ_29, eΓ_29⟩ : ∃ y : tk_G, y = tm_if (((0 ≤ z_2.toInt ∧ z_2.toInt ≤ 11) ∧ (0 ≤ z_4.toInt ∧ z_4.toInt ≤ 299) ∧ (1 ≤ z_6.toInt ∧ z_6.toInt ≤ 1000)) ∧ ¬ tm_hasL (Γ (8, 4 * 60, 0)) (Γ (7, 60, 0) 0).toNat z_2.toInt z_4.toInt) (tm_add Γ (7, 60, 0) (8, 4 * 60, 0) 60 z_2.toInt z_4.toInt z_6.toInt 0) Γ := ⟨_, rfl⟩
  have hI : tp_I cy L K Γ_29 f_26 := by rw [eΓ_29]; exact hI
  have hw_24 : r_25.toInt = tm_if (((0 ≤ z_2.toInt ∧ z_2.toInt ≤ 11) ∧ (0 ≤ z_4.toInt ∧ z_4.toInt ≤ 299) ∧ (1 ≤ z_6.toInt ∧ z_6.toInt ≤ 1000)) ∧ ¬ tm_hasL (Γ (8, 4 * 60, 0)) (Γ (7, 60, 0) 0).toNat z_2.toInt z_4.toInt ∧ Γ (7, 60, 0) 0 < 60) (Γ (7, 60, 0) 0 + 1) (-1) := hw_24
  have hSA1 : Γ_29 (40, 7666, 0) = Γ (40, 7666, 0) := (by rw [eΓ_29]; exact tm_if_at (lq_add _ _ _ (by decide)))
  have hIM : Γ_29 (12, 4, 0) = Γ (12, 4, 0) := (by rw [eΓ_29]; exact tm_if_at (lq_add _ _ _ (by decide)))
  have hs : (0 ≤ Γ_29 (40, 7666, 0) 1 ∧ Γ_29 (40, 7666, 0) 1 ≤ 24) ∧ (0 ≤ Γ_29 (40, 7666, 0) 2 ∧ Γ_29 (40, 7666, 0) 2 ≤ 40) ∧ (0 ≤ Γ_29 (40, 7666, 0) 3 ∧ Γ_29 (40, 7666, 0) 3 ≤ 60) ∧ (0 ≤ Γ_29 (40, 7666, 0) 4 ∧ Γ_29 (40, 7666, 0) 4 ≤ 10) ∧ (0 ≤ Γ_29 (40, 7666, 0) 7665 ∧ Γ_29 (40, 7666, 0) 7665 ≤ 8) := by rw [hSA1]; exact hs
  have hdp : ∀ l : Nat, (l : Int) < Γ_29 (40, 7666, 0) 3 → 1 ≤ Γ_29 (40, 7666, 0) (243 + 3 * l) := by rw [hSA1]; exact hdp
  refine lv_pop hx hb dL_law_465 rfl ?_
  refine lv_aload_n hx hb dL_law_466 rfl (lv_at hl 1 rfl) ?_
  refine lv_aload_n hx hb dL_law_467 rfl (lv_at hl 3 rfl) ?_
  refine lv_iload_n hx hb dL_law_468 rfl (lv_at hl 0 rfl) ?_
  refine lv_iconst (v := 1) hx hb dL_law_469 (by decide) ?_
  refine lv_iadd hx hb dL_law_470 ?_
  refine lv_topi (fun z_30 ez_30 => ?_)
  obtain rfl : z_1 = z_30 := ez_1.trans ez_30.symm
  refine va_sld hx hb hX hbl hbA hS (tl_in (by omega) (by omega)) dL_law_471 ?_
  refine lv_topi (fun z_31 ez_31 => ?_)
  obtain rfl : z_2 = z_31 := ez_2.trans ez_31.symm
  refine lv_aload_n hx hb dL_law_472 rfl (lv_at hl 3 rfl) ?_
  refine lv_iload_n hx hb dL_law_473 rfl (lv_at hl 0 rfl) ?_
  refine lv_iconst (v := 2) hx hb dL_law_474 (by decide) ?_
  refine lv_iadd hx hb dL_law_475 ?_
  refine lv_topi (fun z_32 ez_32 => ?_)
  obtain rfl : z_3 = z_32 := ez_3.trans ez_32.symm
  refine va_sld hx hb hX hbl hbA hS (tl_in (by omega) (by omega)) dL_law_476 ?_
  refine lv_topi (fun z_33 ez_33 => ?_)
  obtain rfl : z_4 = z_33 := ez_4.trans ez_33.symm
  refine lv_aload_n hx hb dL_law_477 rfl (lv_at hl 3 rfl) ?_
  refine lv_iload_n hx hb dL_law_478 rfl (lv_at hl 0 rfl) ?_
  refine lv_iconst (v := 3) hx hb dL_law_479 (by decide) ?_
  refine lv_iadd hx hb dL_law_480 ?_
  refine lv_topi (fun z_34 ez_34 => ?_)
  obtain rfl : z_5 = z_34 := ez_5.trans ez_34.symm
  refine va_sld hx hb hX hbl hbA hS (tl_in (by omega) (by omega)) dL_law_481 ?_
  refine lv_topi (fun z_35 ez_35 => ?_)
  obtain rfl : z_6 = z_35 := ez_6.trans ez_35.symm
  obtain ⟨r_37, v_38, q_39, hf_36, hr_40, hv_41⟩ := (show tp_o_M L K 0 0 (Γ_29 (39, 0, 0)) (f_26 mq) from hI.at hmq)
  refine tq_ciR hS (hAf _ hS.1) (tq_rV (As := [.int z_2, .int z_4, .int z_6]) (rest := []) ⟨hx, hb, hml, hown, hta⟩ (tp_P.pre hK hN hL hU hI hP) (tp_recv hK hP hmq.1 hf_36 rfl) lk_L_44 (r_X12_line l D cy H.size L K Γ_29 f_26 mq z_2 z_4 z_6 hmq (by first | omega | (simp only [Int32.toInt_toInt64]; omega) | decide | assumption) (by first | omega | (simp only [Int32.toInt_toInt64]; omega) | decide | assumption)) rfl rfl ⟨Nat.le_of_ble_eq_true rfl, Nat.le_of_ble_eq_true rfl⟩ rfl hl.1 rfl (Nat.le_of_ble_eq_true rfl) dL_law_482 ⟨by rw [hRc]; omega, by rw [hRs]; omega⟩) (fun r_43 f_44 Γ_46 H locs hw_42 hP hI hc_45 hcg_47 hS => ?_)
  have hD : va_D A (va_pl L f_44) := tp_D hL hAL
  have hf_48 := (tp_un hc_45 hxq (by decide)).trans hf_28
  have hf_49 := (tp_un hc_45 hmq (by decide)).trans hf_36
  have hw_42 : r_43.toInt = tm_if ((¬ Γ_29 (40, 7666, 0) 3 = 60 ∧ (0 ≤ z_2.toInt ∧ z_2.toInt ≤ 11) ∧ (0 ≤ z_4.toInt ∧ z_4.toInt ≤ 299) ∧ (1 ≤ z_6.toInt ∧ z_6.toInt ≤ 1000)) ∧ ¬ tm_hasM (Γ_29 (40, 7666, 0)) (Γ_29 (40, 7666, 0) 3).toNat z_2.toInt z_4.toInt) (Γ_29 (40, 7666, 0) 3 + 1) (-1) ∧ Γ_46 (40, 7666, 0) = tm_if ((¬ Γ_29 (40, 7666, 0) 3 = 60 ∧ (0 ≤ z_2.toInt ∧ z_2.toInt ≤ 11) ∧ (0 ≤ z_4.toInt ∧ z_4.toInt ≤ 299) ∧ (1 ≤ z_6.toInt ∧ z_6.toInt ≤ 1000)) ∧ ¬ tm_hasM (Γ_29 (40, 7666, 0)) (Γ_29 (40, 7666, 0) 3).toNat z_2.toInt z_4.toInt) (tgu (tgu (tgu (tgu (Γ_29 (40, 7666, 0)) (241 + 3 * Γ_29 (40, 7666, 0) 3 + 0).toNat (z_2.toInt)) (241 + 3 * Γ_29 (40, 7666, 0) 3 + 1).toNat (z_4.toInt)) (241 + 3 * Γ_29 (40, 7666, 0) 3 + 2).toNat (z_6.toInt)) 3 (Γ_29 (40, 7666, 0) 3 + 1)) (Γ_29 (40, 7666, 0)) := hw_42
  have hst := s_line hlq eΓ_29 hcg_47 hw_42.2
  have hlq9 := hst.1
  have hfree9 : ∀ j : Nat, Γ_46 (12, 4, 0) j = 0 → ∀ a ∈ L, ¬ (K a).2.2 = j + 1 := fun j q a ha => hfree j (by rw [← (hcg_47 (12, 4, 0) (by decide)).trans hIM]; exact q) a ha
  refine lv_pop hx hb dL_law_485 rfl ?_
  refine lv_goto (tgt := 2005) hx hb dL_law_486 (by decide) ?_
  exact W.widen (k := cells + 41) (n := slots + 8199) (by omega) (by omega) (kk L K Γ_46 f_44 H locs ls ⟨hP, hI, hL, hU, hAL, hS, hxq, hmq, hlq9, hfree9⟩ (lv_sub hl [0, 1, 2, 3] rfl))
set_option maxHeartbeats 4000000 in
set_option maxRecDepth 100000 in
theorem tl_law_7 {p : Program} {e : Env} {s : State} {m : MethodId} {below : List Frame} {meth : Method} {c : Code} (l : Launch) {b N : Nat} {xs : Nat → Int32} (C0 : lw_At p s m meth c b N xs) (D : va_G) (cy : Nat → ClassId) (hK : va_K D vwCl (tl_T cy) s) (hN : tl_ok s) (Z : ts_Y) {A : Nat → Prop} (hAe : A = fun q : Nat => s.heap.size ≤ q) (hZ : ts_Z A Z s s.heap) (xq mq : Nat) (i : Int32) (hi : 0 ≤ i.toInt ∧ i.toInt + 7 ≤ N ∧ N ≤ 3584) {cells slots : Nat} (hcs : cells + 41 ≤ 600000 ∧ slots + 8199 ≤ 7302249) {L : List Nat} {K : Nat → tk_K} {Γ : tk_G} {f : Nat → va_E} {H : Heap} {locs : List Loc} {ls : Array Slot} (S : lq_S D cy A s L K Γ f H locs xq mq) (hl : lv_has ls 4 [(3, .int i), (2, .ref mq), (1, .ref xq), (0, .ref b)]) (kk : ∀ (L : List Nat) (K : Nat → tk_K) (Γ : tk_G) (f : Nat → va_E) (H : Heap) (locs : List Loc) (ls : Array Slot), lq_S D cy A s L K Γ f H locs xq mq → lv_has ls 4 [(3, .int i), (2, .ref mq), (1, .ref xq), (0, .ref b)] → W p l e room_1 s m #[Value.ref b] below meth c H locs (cells + 41) (slots + 8199) (lw_Z below #[Value.ref b] s) (F0 m 2005 ls [])) : W p l e room_1 s m #[Value.ref b] below meth c H locs cells slots (lw_Z below #[Value.ref b] s) (F0 m 489 ls []) := by
  obtain ⟨hx, hb, hr, hml, hown, hts, hX, hbl, hlocks, hgv⟩ := id C0
  obtain ⟨hP, hI, hL, hU, hAL, hS, hxq, hmq, hlq, hfree⟩ := S
  have hta : ∀ w ∈ tl_L, w.before #[Value.ref b] s = true := fun w h => hts w (List.mem_filter.mp h).1
  have hA : ∀ q : Nat, s.heap.size ≤ q → A q := fun q h => by rw [hAe]; exact h
  have hbA : ¬ A b := by rw [hAe]; exact Nat.not_le.mpr hbl
  have hAf : ∀ (H : Heap), s.heap.size ≤ H.size → ∀ q, tp_A L H.size q → A q := fun H h q hq => hq.elim (hAL q) (fun h2 => hA q (Nat.le_trans h h2))
  have hRc : room_1.cells = 600000 := rfl
  have hRs : room_1.slots = 7302249 := rfl
  have hI0 := hI
  have hD : va_D A (va_pl L f) := tp_D hL hAL
  have htx := hlq.2.2.2.2.1
  have hsd := hlq.2.2.1
  have hs := ts_hs hsd
  have hraw := ts_raw hsd
  have hslp := ts_slp hsd
  have hdp := ts_dp hsd
  have hm0 := hlq.2.2.2.2.2
  have hIM : Γ (12, 4, 0) = Γ (12, 4, 0) := rfl
  refine lv_aload_n hx hb dL_law_489 rfl (lv_at hl 2 rfl) ?_
  refine lv_aload_n hx hb dL_law_490 rfl (lv_at hl 3 rfl) ?_
  refine lv_iload_n hx hb dL_law_491 rfl (lv_at hl 0 rfl) ?_
  refine lv_iconst (v := 1) hx hb dL_law_492 (by decide) ?_
  refine lv_iadd hx hb dL_law_493 ?_
  refine lv_topi (fun z_1 ez_1 => ?_)
  try have iz_1 : z_1.toInt = i.toInt + (1 : Int) := by rw [ez_1]; exact tl_addN i 1 rfl rfl (by omega) (by omega)
  refine va_sld hx hb hX hbl hbA hS (tl_in (by omega) (by omega)) dL_law_494 ?_
  refine lv_topi (fun z_2 ez_2 => ?_)
  refine lv_aload_n hx hb dL_law_495 rfl (lv_at hl 3 rfl) ?_
  refine lv_iload_n hx hb dL_law_496 rfl (lv_at hl 0 rfl) ?_
  refine lv_iconst (v := 2) hx hb dL_law_497 (by decide) ?_
  refine lv_iadd hx hb dL_law_498 ?_
  refine lv_topi (fun z_3 ez_3 => ?_)
  try have iz_3 : z_3.toInt = i.toInt + (2 : Int) := by rw [ez_3]; exact tl_addN i 2 rfl rfl (by omega) (by omega)
  refine va_sld hx hb hX hbl hbA hS (tl_in (by omega) (by omega)) dL_law_499 ?_
  refine lv_topi (fun z_4 ez_4 => ?_)
  refine lv_aload_n hx hb dL_law_500 rfl (lv_at hl 3 rfl) ?_
  refine lv_iload_n hx hb dL_law_501 rfl (lv_at hl 0 rfl) ?_
  refine lv_iconst (v := 3) hx hb dL_law_502 (by decide) ?_
  refine lv_iadd hx hb dL_law_503 ?_
  refine lv_topi (fun z_5 ez_5 => ?_)
  try have iz_5 : z_5.toInt = i.toInt + (3 : Int) := by rw [ez_5]; exact tl_addN i 3 rfl rfl (by omega) (by omega)
  refine va_sld hx hb hX hbl hbA hS (tl_in (by omega) (by omega)) dL_law_504 ?_
  refine lv_topi (fun z_6 ez_6 => ?_)
  refine lv_aload_n hx hb dL_law_505 rfl (lv_at hl 3 rfl) ?_
  refine lv_iload_n hx hb dL_law_506 rfl (lv_at hl 0 rfl) ?_
  refine lv_iconst (v := 4) hx hb dL_law_507 (by decide) ?_
  refine lv_iadd hx hb dL_law_508 ?_
  refine lv_topi (fun z_7 ez_7 => ?_)
  try have iz_7 : z_7.toInt = i.toInt + (4 : Int) := by rw [ez_7]; exact tl_addN i 4 rfl rfl (by omega) (by omega)
  refine va_sld hx hb hX hbl hbA hS (tl_in (by omega) (by omega)) dL_law_509 ?_
  refine lv_topi (fun z_8 ez_8 => ?_)
  refine lv_aload_n hx hb dL_law_510 rfl (lv_at hl 3 rfl) ?_
  refine lv_iload_n hx hb dL_law_511 rfl (lv_at hl 0 rfl) ?_
  refine lv_iconst (v := 5) hx hb dL_law_512 (by decide) ?_
  refine lv_iadd hx hb dL_law_513 ?_
  refine lv_topi (fun z_9 ez_9 => ?_)
  try have iz_9 : z_9.toInt = i.toInt + (5 : Int) := by rw [ez_9]; exact tl_addN i 5 rfl rfl (by omega) (by omega)
  refine va_sld hx hb hX hbl hbA hS (tl_in (by omega) (by omega)) dL_law_514 ?_
  refine lv_topi (fun z_10 ez_10 => ?_)
  obtain ⟨x_12, x_13, x_14, x_15, x_16, x_17, x_18, x_19, x_20, x_21, x_22, x_23, x_24, x_25, x_26, x_27, hf_11, hx_12, hx_13, hx_14, hx_15, hx_16, hx_17, hx_18, hx_19, hx_20, hx_21, hx_22, hx_23, hx_24, hx_25, hx_26, hx_27⟩ := (show tp_o_X L K (0) 0 (Γ (0, 0, 0)) (f xq) from hI.at hxq)
  refine tq_ci hS (hAf _ hS.1) (tq_rV (As := [.int z_2, .int z_4, .int z_6, .int z_8, .int z_10]) (rest := []) ⟨hx, hb, hml, hown, hta⟩ (tp_P.pre hK hN hL hU hI hP) (tp_recv hK hP hxq.1 hf_11 rfl) lk_L_45 (t_X11_feed l D cy H.size L K Γ f xq z_2 z_4 z_6 z_8 z_10 hxq) rfl rfl ⟨Nat.le_of_ble_eq_true rfl, Nat.le_of_ble_eq_true rfl⟩ rfl hl.1 rfl (Nat.le_of_ble_eq_true rfl) dL_law_515 ⟨by rw [hRc]; omega, by rw [hRs]; omega⟩) (fun r_29 f_30 H locs hw_28 hP hI hc_31 hS => ?_)
  have hD : va_D A (va_pl L f_30) := tp_D hL hAL
  have hf_32 := (tp_un hc_31 hxq (by decide)).trans hf_11
  refine lv_pop hx hb dL_law_518 rfl ?_
  refine lv_aload_n hx hb dL_law_519 rfl (lv_at hl 1 rfl) ?_
  refine lv_aload_n hx hb dL_law_520 rfl (lv_at hl 3 rfl) ?_
  refine lv_iload_n hx hb dL_law_521 rfl (lv_at hl 0 rfl) ?_
  refine lv_iconst (v := 1) hx hb dL_law_522 (by decide) ?_
  refine lv_iadd hx hb dL_law_523 ?_
  refine lv_topi (fun z_33 ez_33 => ?_)
  obtain rfl : z_1 = z_33 := ez_1.trans ez_33.symm
  refine va_sld hx hb hX hbl hbA hS (tl_in (by omega) (by omega)) dL_law_524 ?_
  refine lv_topi (fun z_34 ez_34 => ?_)
  obtain rfl : z_2 = z_34 := ez_2.trans ez_34.symm
  refine lv_aload_n hx hb dL_law_525 rfl (lv_at hl 3 rfl) ?_
  refine lv_iload_n hx hb dL_law_526 rfl (lv_at hl 0 rfl) ?_
  refine lv_iconst (v := 2) hx hb dL_law_527 (by decide) ?_
  refine lv_iadd hx hb dL_law_528 ?_
  refine lv_topi (fun z_35 ez_35 => ?_)
  obtain rfl : z_3 = z_35 := ez_3.trans ez_35.symm
  refine va_sld hx hb hX hbl hbA hS (tl_in (by omega) (by omega)) dL_law_529 ?_
  refine lv_topi (fun z_36 ez_36 => ?_)
  obtain rfl : z_4 = z_36 := ez_4.trans ez_36.symm
  refine lv_aload_n hx hb dL_law_530 rfl (lv_at hl 3 rfl) ?_
  refine lv_iload_n hx hb dL_law_531 rfl (lv_at hl 0 rfl) ?_
  refine lv_iconst (v := 3) hx hb dL_law_532 (by decide) ?_
  refine lv_iadd hx hb dL_law_533 ?_
  refine lv_topi (fun z_37 ez_37 => ?_)
  obtain rfl : z_5 = z_37 := ez_5.trans ez_37.symm
  refine va_sld hx hb hX hbl hbA hS (tl_in (by omega) (by omega)) dL_law_534 ?_
  refine lv_topi (fun z_38 ez_38 => ?_)
  obtain rfl : z_6 = z_38 := ez_6.trans ez_38.symm
  refine lv_aload_n hx hb dL_law_535 rfl (lv_at hl 3 rfl) ?_
  refine lv_iload_n hx hb dL_law_536 rfl (lv_at hl 0 rfl) ?_
  refine lv_iconst (v := 4) hx hb dL_law_537 (by decide) ?_
  refine lv_iadd hx hb dL_law_538 ?_
  refine lv_topi (fun z_39 ez_39 => ?_)
  obtain rfl : z_7 = z_39 := ez_7.trans ez_39.symm
  refine va_sld hx hb hX hbl hbA hS (tl_in (by omega) (by omega)) dL_law_539 ?_
  refine lv_topi (fun z_40 ez_40 => ?_)
  obtain rfl : z_8 = z_40 := ez_8.trans ez_40.symm
  refine lv_aload_n hx hb dL_law_540 rfl (lv_at hl 3 rfl) ?_
  refine lv_iload_n hx hb dL_law_541 rfl (lv_at hl 0 rfl) ?_
  refine lv_iconst (v := 5) hx hb dL_law_542 (by decide) ?_
  refine lv_iadd hx hb dL_law_543 ?_
  refine lv_topi (fun z_41 ez_41 => ?_)
  obtain rfl : z_9 = z_41 := ez_9.trans ez_41.symm
  refine va_sld hx hb hX hbl hbA hS (tl_in (by omega) (by omega)) dL_law_544 ?_
  refine lv_topi (fun z_42 ez_42 => ?_)
  obtain rfl : z_10 = z_42 := ez_10.trans ez_42.symm
  obtain ⟨r_44, v_45, q_46, hf_43, hr_47, hv_48⟩ := (show tp_o_M L K 0 0 (Γ (39, 0, 0)) (f_30 mq) from hI.at hmq)
  refine tq_ciR hS (hAf _ hS.1) (tq_rV (As := [.int z_2, .int z_4, .int z_6, .int z_8, .int z_10]) (rest := []) ⟨hx, hb, hml, hown, hta⟩ (tp_P.pre hK hN hL hU hI hP) (tp_recv hK hP hmq.1 hf_43 rfl) lk_L_49 (r_X12_feed l D cy H.size L K Γ f_30 mq z_2 z_4 z_6 z_8 z_10 hmq (by first | omega | (simp only [Int32.toInt_toInt64]; omega) | decide | assumption)) rfl rfl ⟨Nat.le_of_ble_eq_true rfl, Nat.le_of_ble_eq_true rfl⟩ rfl hl.1 rfl (Nat.le_of_ble_eq_true rfl) dL_law_545 ⟨by rw [hRc]; omega, by rw [hRs]; omega⟩) (fun r_50 f_51 Γ_53 H locs hw_49 hP hI hc_52 hcg_54 hS => ?_)
  have hD : va_D A (va_pl L f_51) := tp_D hL hAL
  have hf_55 := (tp_un hc_52 hxq (by decide)).trans hf_32
  have hw_49 : 0 ≤ Γ_53 (39, 0, 0) 0 ∧ Γ_53 (39, 0, 0) 0 ≤ 400 := hw_49
  have hlq9 : lq Γ_53 := hlq.quiet hcg_54 (by decide) (by omega)
  have hfree9 : ∀ j : Nat, Γ_53 (12, 4, 0) j = 0 → ∀ a ∈ L, ¬ (K a).2.2 = j + 1 := fun j q a ha => hfree j (by rw [← (hcg_54 (12, 4, 0) (by decide)).trans hIM]; exact q) a ha
  refine lv_pop hx hb dL_law_548 rfl ?_
  refine lv_goto (tgt := 2005) hx hb dL_law_549 (by decide) ?_
  exact W.widen (k := cells + 41) (n := slots + 8199) (by omega) (by omega) (kk L K Γ_53 f_51 H locs ls ⟨hP, hI, hL, hU, hAL, hS, hxq, hmq, hlq9, hfree9⟩ (lv_sub hl [0, 1, 2, 3] rfl))
set_option maxHeartbeats 4000000 in
set_option maxRecDepth 100000 in
theorem tl_law_8 {p : Program} {e : Env} {s : State} {m : MethodId} {below : List Frame} {meth : Method} {c : Code} (l : Launch) {b N : Nat} {xs : Nat → Int32} (C0 : lw_At p s m meth c b N xs) (D : va_G) (cy : Nat → ClassId) (hK : va_K D vwCl (tl_T cy) s) (hN : tl_ok s) (Z : ts_Y) {A : Nat → Prop} (hAe : A = fun q : Nat => s.heap.size ≤ q) (hZ : ts_Z A Z s s.heap) (xq mq : Nat) (i : Int32) (hi : 0 ≤ i.toInt ∧ i.toInt + 7 ≤ N ∧ N ≤ 3584) {cells slots : Nat} (hcs : cells + 41 ≤ 600000 ∧ slots + 8199 ≤ 7302249) {L : List Nat} {K : Nat → tk_K} {Γ : tk_G} {f : Nat → va_E} {H : Heap} {locs : List Loc} {ls : Array Slot} (S : lq_S D cy A s L K Γ f H locs xq mq) (hl : lv_has ls 4 [(3, .int i), (2, .ref mq), (1, .ref xq), (0, .ref b)]) (kk : ∀ (L : List Nat) (K : Nat → tk_K) (Γ : tk_G) (f : Nat → va_E) (H : Heap) (locs : List Loc) (ls : Array Slot), lq_S D cy A s L K Γ f H locs xq mq → lv_has ls 4 [(3, .int i), (2, .ref mq), (1, .ref xq), (0, .ref b)] → W p l e room_1 s m #[Value.ref b] below meth c H locs (cells + 41) (slots + 8199) (lw_Z below #[Value.ref b] s) (F0 m 2005 ls [])) : W p l e room_1 s m #[Value.ref b] below meth c H locs cells slots (lw_Z below #[Value.ref b] s) (F0 m 552 ls []) := by
  obtain ⟨hx, hb, hr, hml, hown, hts, hX, hbl, hlocks, hgv⟩ := id C0
  obtain ⟨hP, hI, hL, hU, hAL, hS, hxq, hmq, hlq, hfree⟩ := S
  have hta : ∀ w ∈ tl_L, w.before #[Value.ref b] s = true := fun w h => hts w (List.mem_filter.mp h).1
  have hA : ∀ q : Nat, s.heap.size ≤ q → A q := fun q h => by rw [hAe]; exact h
  have hbA : ¬ A b := by rw [hAe]; exact Nat.not_le.mpr hbl
  have hAf : ∀ (H : Heap), s.heap.size ≤ H.size → ∀ q, tp_A L H.size q → A q := fun H h q hq => hq.elim (hAL q) (fun h2 => hA q (Nat.le_trans h h2))
  have hRc : room_1.cells = 600000 := rfl
  have hRs : room_1.slots = 7302249 := rfl
  have hI0 := hI
  have hD : va_D A (va_pl L f) := tp_D hL hAL
  have htx := hlq.2.2.2.2.1
  have hsd := hlq.2.2.1
  have hs := ts_hs hsd
  have hraw := ts_raw hsd
  have hslp := ts_slp hsd
  have hdp := ts_dp hsd
  have hm0 := hlq.2.2.2.2.2
  have hIM : Γ (12, 4, 0) = Γ (12, 4, 0) := rfl
  refine lv_aload_n hx hb dL_law_552 rfl (lv_at hl 2 rfl) ?_
  refine lv_aload_n hx hb dL_law_553 rfl (lv_at hl 3 rfl) ?_
  refine lv_iload_n hx hb dL_law_554 rfl (lv_at hl 0 rfl) ?_
  refine lv_iconst (v := 1) hx hb dL_law_555 (by decide) ?_
  refine lv_iadd hx hb dL_law_556 ?_
  refine lv_topi (fun z_1 ez_1 => ?_)
  try have iz_1 : z_1.toInt = i.toInt + (1 : Int) := by rw [ez_1]; exact tl_addN i 1 rfl rfl (by omega) (by omega)
  refine va_sld hx hb hX hbl hbA hS (tl_in (by omega) (by omega)) dL_law_557 ?_
  refine lv_topi (fun z_2 ez_2 => ?_)
  obtain ⟨x_4, x_5, x_6, x_7, x_8, x_9, x_10, x_11, x_12, x_13, x_14, x_15, x_16, x_17, x_18, x_19, hf_3, hx_4, hx_5, hx_6, hx_7, hx_8, hx_9, hx_10, hx_11, hx_12, hx_13, hx_14, hx_15, hx_16, hx_17, hx_18, hx_19⟩ := (show tp_o_X L K (0) 0 (Γ (0, 0, 0)) (f xq) from hI.at hxq)
  refine tq_ci hS (hAf _ hS.1) (tq_rV (As := [.int z_2]) (rest := []) ⟨hx, hb, hml, hown, hta⟩ (tp_P.pre hK hN hL hU hI hP) (tp_recv hK hP hxq.1 hf_3 rfl) lk_L_50 (t_X11_end l D cy H.size L K Γ f xq z_2 hxq) rfl rfl ⟨Nat.le_of_ble_eq_true rfl, Nat.le_of_ble_eq_true rfl⟩ rfl hl.1 rfl (Nat.le_of_ble_eq_true rfl) dL_law_558 ⟨by rw [hRc]; omega, by rw [hRs]; omega⟩) (fun r_21 f_22 H locs hw_20 hP hI hc_23 hS => ?_)
  have hD : va_D A (va_pl L f_22) := tp_D hL hAL
  have hf_24 := (tp_un hc_23 hxq (by decide)).trans hf_3
  refine lv_pop hx hb dL_law_561 rfl ?_
  refine lv_aload_n hx hb dL_law_562 rfl (lv_at hl 1 rfl) ?_
  refine lv_aload_n hx hb dL_law_563 rfl (lv_at hl 3 rfl) ?_
  refine lv_iload_n hx hb dL_law_564 rfl (lv_at hl 0 rfl) ?_
  refine lv_iconst (v := 1) hx hb dL_law_565 (by decide) ?_
  refine lv_iadd hx hb dL_law_566 ?_
  refine lv_topi (fun z_25 ez_25 => ?_)
  obtain rfl : z_1 = z_25 := ez_1.trans ez_25.symm
  refine va_sld hx hb hX hbl hbA hS (tl_in (by omega) (by omega)) dL_law_567 ?_
  refine lv_topi (fun z_26 ez_26 => ?_)
  obtain rfl : z_2 = z_26 := ez_2.trans ez_26.symm
  obtain ⟨r_28, v_29, q_30, hf_27, hr_31, hv_32⟩ := (show tp_o_M L K 0 0 (Γ (39, 0, 0)) (f_22 mq) from hI.at hmq)
  refine tq_ciR hS (hAf _ hS.1) (tq_rV (As := [.int z_2]) (rest := []) ⟨hx, hb, hml, hown, hta⟩ (tp_P.pre hK hN hL hU hI hP) (tp_recv hK hP hmq.1 hf_27 rfl) lk_L_54 (r_X12_end l D cy H.size L K Γ f_22 mq z_2 hmq (by first | omega | (simp only [Int32.toInt_toInt64]; omega) | decide | assumption)) rfl rfl ⟨Nat.le_of_ble_eq_true rfl, Nat.le_of_ble_eq_true rfl⟩ rfl hl.1 rfl (Nat.le_of_ble_eq_true rfl) dL_law_568 ⟨by rw [hRc]; omega, by rw [hRs]; omega⟩) (fun r_34 f_35 Γ_37 H locs hw_33 hP hI hc_36 hcg_38 hS => ?_)
  have hD : va_D A (va_pl L f_35) := tp_D hL hAL
  have hf_39 := (tp_un hc_36 hxq (by decide)).trans hf_24
  have hw_33 : 0 ≤ Γ_37 (39, 0, 0) 0 ∧ Γ_37 (39, 0, 0) 0 ≤ 400 := hw_33
  have hlq9 : lq Γ_37 := hlq.quiet hcg_38 (by decide) (by omega)
  have hfree9 : ∀ j : Nat, Γ_37 (12, 4, 0) j = 0 → ∀ a ∈ L, ¬ (K a).2.2 = j + 1 := fun j q a ha => hfree j (by rw [← (hcg_38 (12, 4, 0) (by decide)).trans hIM]; exact q) a ha
  refine lv_pop hx hb dL_law_571 rfl ?_
  refine lv_goto (tgt := 2005) hx hb dL_law_572 (by decide) ?_
  exact W.widen (k := cells + 41) (n := slots + 8199) (by omega) (by omega) (kk L K Γ_37 f_35 H locs ls ⟨hP, hI, hL, hU, hAL, hS, hxq, hmq, hlq9, hfree9⟩ (lv_sub hl [0, 1, 2, 3] rfl))
set_option maxHeartbeats 4000000 in
set_option maxRecDepth 100000 in
theorem tl_law_9 {p : Program} {e : Env} {s : State} {m : MethodId} {below : List Frame} {meth : Method} {c : Code} (l : Launch) {b N : Nat} {xs : Nat → Int32} (C0 : lw_At p s m meth c b N xs) (D : va_G) (cy : Nat → ClassId) (hK : va_K D vwCl (tl_T cy) s) (hN : tl_ok s) (Z : ts_Y) {A : Nat → Prop} (hAe : A = fun q : Nat => s.heap.size ≤ q) (hZ : ts_Z A Z s s.heap) (xq mq : Nat) (i : Int32) (hi : 0 ≤ i.toInt ∧ i.toInt + 7 ≤ N ∧ N ≤ 3584) {cells slots : Nat} (hcs : cells + 41 ≤ 600000 ∧ slots + 8199 ≤ 7302249) {L : List Nat} {K : Nat → tk_K} {Γ : tk_G} {f : Nat → va_E} {H : Heap} {locs : List Loc} {ls : Array Slot} (S : lq_S D cy A s L K Γ f H locs xq mq) (hl : lv_has ls 4 [(3, .int i), (2, .ref mq), (1, .ref xq), (0, .ref b)]) (kk : ∀ (L : List Nat) (K : Nat → tk_K) (Γ : tk_G) (f : Nat → va_E) (H : Heap) (locs : List Loc) (ls : Array Slot), lq_S D cy A s L K Γ f H locs xq mq → lv_has ls 4 [(3, .int i), (2, .ref mq), (1, .ref xq), (0, .ref b)] → W p l e room_1 s m #[Value.ref b] below meth c H locs (cells + 41) (slots + 8199) (lw_Z below #[Value.ref b] s) (F0 m 2005 ls [])) : W p l e room_1 s m #[Value.ref b] below meth c H locs cells slots (lw_Z below #[Value.ref b] s) (F0 m 575 ls []) := by
  obtain ⟨hx, hb, hr, hml, hown, hts, hX, hbl, hlocks, hgv⟩ := id C0
  obtain ⟨hP, hI, hL, hU, hAL, hS, hxq, hmq, hlq, hfree⟩ := S
  have hta : ∀ w ∈ tl_L, w.before #[Value.ref b] s = true := fun w h => hts w (List.mem_filter.mp h).1
  have hA : ∀ q : Nat, s.heap.size ≤ q → A q := fun q h => by rw [hAe]; exact h
  have hbA : ¬ A b := by rw [hAe]; exact Nat.not_le.mpr hbl
  have hAf : ∀ (H : Heap), s.heap.size ≤ H.size → ∀ q, tp_A L H.size q → A q := fun H h q hq => hq.elim (hAL q) (fun h2 => hA q (Nat.le_trans h h2))
  have hRc : room_1.cells = 600000 := rfl
  have hRs : room_1.slots = 7302249 := rfl
  have hI0 := hI
  have hD : va_D A (va_pl L f) := tp_D hL hAL
  have htx := hlq.2.2.2.2.1
  have hsd := hlq.2.2.1
  have hs := ts_hs hsd
  have hraw := ts_raw hsd
  have hslp := ts_slp hsd
  have hdp := ts_dp hsd
  have hm0 := hlq.2.2.2.2.2
  have hIM : Γ (12, 4, 0) = Γ (12, 4, 0) := rfl
  refine lv_aload_n hx hb dL_law_575 rfl (lv_at hl 2 rfl) ?_
  refine lv_aload_n hx hb dL_law_576 rfl (lv_at hl 3 rfl) ?_
  refine lv_iload_n hx hb dL_law_577 rfl (lv_at hl 0 rfl) ?_
  refine lv_iconst (v := 1) hx hb dL_law_578 (by decide) ?_
  refine lv_iadd hx hb dL_law_579 ?_
  refine lv_topi (fun z_1 ez_1 => ?_)
  try have iz_1 : z_1.toInt = i.toInt + (1 : Int) := by rw [ez_1]; exact tl_addN i 1 rfl rfl (by omega) (by omega)
  refine va_sld hx hb hX hbl hbA hS (tl_in (by omega) (by omega)) dL_law_580 ?_
  refine lv_topi (fun z_2 ez_2 => ?_)
  obtain ⟨x_4, x_5, x_6, x_7, x_8, x_9, x_10, x_11, x_12, x_13, x_14, x_15, x_16, x_17, x_18, x_19, hf_3, hx_4, hx_5, hx_6, hx_7, hx_8, hx_9, hx_10, hx_11, hx_12, hx_13, hx_14, hx_15, hx_16, hx_17, hx_18, hx_19⟩ := (show tp_o_X L K (0) 0 (Γ (0, 0, 0)) (f xq) from hI.at hxq)
  have hsz0 := hS.1
  refine tq_ciX hS (hAf _ hS.1) (tq_rV (As := [.int z_2]) (rest := []) ⟨hx, hb, hml, hown, hta⟩ (tp_PS.pre hK hN hL hU hI hP hZ hS (hAf _ hS.1)) (tp_recv hK hP hxq.1 hf_3 rfl) lk_L_55 (t_X11_text l D cy H.size L K Γ f Z xq z_2 hxq) rfl rfl ⟨Nat.le_of_ble_eq_true rfl, Nat.le_of_ble_eq_true rfl⟩ rfl hl.1 rfl (Nat.le_of_ble_eq_true rfl) dL_law_581 ⟨by rw [hRc]; omega, by rw [hRs]; omega⟩) (fun r_21 L K f_24 H locs hw_20 hP hI hL hU hmo hnw hS => ?_)
  have hxq := hmo _ _ _ _ hxq
  have hmq := hmo _ _ _ _ hmq
  have hAL : ∀ q ∈ L, A q := fun q hq => (hnw q hq).elim (hAL q) (fun h => hA q (Nat.le_trans hsz0 h.1))
  have hAf : ∀ (H : Heap), s.heap.size ≤ H.size → ∀ q, tp_A L H.size q → A q := fun H h q hq => hq.elim (hAL q) (fun h2 => hA q (Nat.le_trans h h2))
  have hfree : ∀ j : Nat, Γ (12, 4, 0) j = 0 → ∀ a ∈ L, ¬ (K a).2.2 = j + 1 := lq_free hfree hmo hnw (fun _ q => q) (Or.inr (fun j _ => by omega))
  have hD : va_D A (va_pl L f_24) := tp_D hL hAL
  refine lv_pop hx hb dL_law_584 rfl ?_
  refine lv_aload_n hx hb dL_law_585 rfl (lv_at hl 1 rfl) ?_
  refine lv_aload_n hx hb dL_law_586 rfl (lv_at hl 3 rfl) ?_
  refine lv_iload_n hx hb dL_law_587 rfl (lv_at hl 0 rfl) ?_
  refine lv_iconst (v := 1) hx hb dL_law_588 (by decide) ?_
  refine lv_iadd hx hb dL_law_589 ?_
  refine lv_topi (fun z_26 ez_26 => ?_)
  obtain rfl : z_1 = z_26 := ez_1.trans ez_26.symm
  refine va_sld hx hb hX hbl hbA hS (tl_in (by omega) (by omega)) dL_law_590 ?_
  refine lv_topi (fun z_27 ez_27 => ?_)
  obtain rfl : z_2 = z_27 := ez_2.trans ez_27.symm
  obtain ⟨r_29, v_30, q_31, hf_28, hr_32, hv_33⟩ := (show tp_o_M L K 0 0 (Γ (39, 0, 0)) (f_24 mq) from hI.at hmq)
  refine tq_ciR hS (hAf _ hS.1) (tq_rV (As := [.int z_2]) (rest := []) ⟨hx, hb, hml, hown, hta⟩ (tp_P.pre hK hN hL hU hI hP) (tp_recv hK hP hmq.1 hf_28 rfl) lk_L_58 (r_X12_text l D cy H.size L K Γ f_24 mq z_2 hmq (by first | omega | (simp only [Int32.toInt_toInt64]; omega) | decide | assumption) (by first | omega | (simp only [Int32.toInt_toInt64]; omega) | decide | assumption)) rfl rfl ⟨Nat.le_of_ble_eq_true rfl, Nat.le_of_ble_eq_true rfl⟩ rfl hl.1 rfl (Nat.le_of_ble_eq_true rfl) dL_law_591 ⟨by rw [hRc]; omega, by rw [hRs]; omega⟩) (fun r_35 f_36 Γ_38 H locs hw_34 hP hI hc_37 hcg_39 hS => ?_)
  have hD : va_D A (va_pl L f_36) := tp_D hL hAL
  have hw_34 : tx_ok (Γ_38 (43, 8800, 0)) (Γ_38 (45, 1056, 0)) (Γ_38 (46, 22, 0)) (Γ_38 (47, 6, 0)) (Γ_38 (48, 22, 0)) (Γ_38 (49, 22, 0)) (Γ_38 (50, 22, 0)) (Γ_38 (51, 22, 0)) (Γ_38 (42, 3, 0)) ∧ (0 ≤ Γ_38 (39, 0, 0) 0 ∧ Γ_38 (39, 0, 0) 0 ≤ 400) ∧ Γ (42, 3, 0) 1 ≤ Γ_38 (42, 3, 0) 1 := hw_34
  have hlq9 := s_text hlq hcg_39 (by decide) hw_34.1 hw_34.2.1 hw_34.2.2
  have hfree9 : ∀ j : Nat, Γ_38 (12, 4, 0) j = 0 → ∀ a ∈ L, ¬ (K a).2.2 = j + 1 := fun j q a ha => hfree j (by rw [← (hcg_39 (12, 4, 0) (by decide)).trans hIM]; exact q) a ha
  refine lv_pop hx hb dL_law_594 rfl ?_
  refine lv_goto (tgt := 2005) hx hb dL_law_595 (by decide) ?_
  exact W.widen (k := cells + 41) (n := slots + 8199) (by omega) (by omega) (kk L K Γ_38 f_36 H locs ls ⟨hP, hI, hL, hU, hAL, hS, hxq, hmq, hlq9, hfree9⟩ (lv_sub hl [0, 1, 2, 3] rfl))
set_option maxHeartbeats 4000000 in
set_option maxRecDepth 100000 in
theorem tl_law_10 {p : Program} {e : Env} {s : State} {m : MethodId} {below : List Frame} {meth : Method} {c : Code} (l : Launch) {b N : Nat} {xs : Nat → Int32} (C0 : lw_At p s m meth c b N xs) (D : va_G) (cy : Nat → ClassId) (hK : va_K D vwCl (tl_T cy) s) (hN : tl_ok s) (Z : ts_Y) {A : Nat → Prop} (hAe : A = fun q : Nat => s.heap.size ≤ q) (hZ : ts_Z A Z s s.heap) (xq mq : Nat) (i : Int32) (hi : 0 ≤ i.toInt ∧ i.toInt + 7 ≤ N ∧ N ≤ 3584) {cells slots : Nat} (hcs : cells + 41 ≤ 600000 ∧ slots + 8199 ≤ 7302249) {L : List Nat} {K : Nat → tk_K} {Γ : tk_G} {f : Nat → va_E} {H : Heap} {locs : List Loc} {ls : Array Slot} (S : lq_S D cy A s L K Γ f H locs xq mq) (hl : lv_has ls 4 [(3, .int i), (2, .ref mq), (1, .ref xq), (0, .ref b)]) (kk : ∀ (L : List Nat) (K : Nat → tk_K) (Γ : tk_G) (f : Nat → va_E) (H : Heap) (locs : List Loc) (ls : Array Slot), lq_S D cy A s L K Γ f H locs xq mq → lv_has ls 4 [(3, .int i), (2, .ref mq), (1, .ref xq), (0, .ref b)] → W p l e room_1 s m #[Value.ref b] below meth c H locs (cells + 41) (slots + 8199) (lw_Z below #[Value.ref b] s) (F0 m 2005 ls [])) : W p l e room_1 s m #[Value.ref b] below meth c H locs cells slots (lw_Z below #[Value.ref b] s) (F0 m 598 ls []) := by
  obtain ⟨hx, hb, hr, hml, hown, hts, hX, hbl, hlocks, hgv⟩ := id C0
  obtain ⟨hP, hI, hL, hU, hAL, hS, hxq, hmq, hlq, hfree⟩ := S
  have hta : ∀ w ∈ tl_L, w.before #[Value.ref b] s = true := fun w h => hts w (List.mem_filter.mp h).1
  have hA : ∀ q : Nat, s.heap.size ≤ q → A q := fun q h => by rw [hAe]; exact h
  have hbA : ¬ A b := by rw [hAe]; exact Nat.not_le.mpr hbl
  have hAf : ∀ (H : Heap), s.heap.size ≤ H.size → ∀ q, tp_A L H.size q → A q := fun H h q hq => hq.elim (hAL q) (fun h2 => hA q (Nat.le_trans h h2))
  have hRc : room_1.cells = 600000 := rfl
  have hRs : room_1.slots = 7302249 := rfl
  have hI0 := hI
  have hD : va_D A (va_pl L f) := tp_D hL hAL
  have htx := hlq.2.2.2.2.1
  have hsd := hlq.2.2.1
  have hs := ts_hs hsd
  have hraw := ts_raw hsd
  have hslp := ts_slp hsd
  have hdp := ts_dp hsd
  have hm0 := hlq.2.2.2.2.2
  have hIM : Γ (12, 4, 0) = Γ (12, 4, 0) := rfl
  refine lv_aload_n hx hb dL_law_598 rfl (lv_at hl 2 rfl) ?_
  refine lv_aload_n hx hb dL_law_599 rfl (lv_at hl 3 rfl) ?_
  refine lv_iload_n hx hb dL_law_600 rfl (lv_at hl 0 rfl) ?_
  refine lv_iconst (v := 1) hx hb dL_law_601 (by decide) ?_
  refine lv_iadd hx hb dL_law_602 ?_
  refine lv_topi (fun z_1 ez_1 => ?_)
  try have iz_1 : z_1.toInt = i.toInt + (1 : Int) := by rw [ez_1]; exact tl_addN i 1 rfl rfl (by omega) (by omega)
  refine va_sld hx hb hX hbl hbA hS (tl_in (by omega) (by omega)) dL_law_603 ?_
  refine lv_topi (fun z_2 ez_2 => ?_)
  refine lv_aload_n hx hb dL_law_604 rfl (lv_at hl 3 rfl) ?_
  refine lv_iload_n hx hb dL_law_605 rfl (lv_at hl 0 rfl) ?_
  refine lv_iconst (v := 2) hx hb dL_law_606 (by decide) ?_
  refine lv_iadd hx hb dL_law_607 ?_
  refine lv_topi (fun z_3 ez_3 => ?_)
  try have iz_3 : z_3.toInt = i.toInt + (2 : Int) := by rw [ez_3]; exact tl_addN i 2 rfl rfl (by omega) (by omega)
  refine va_sld hx hb hX hbl hbA hS (tl_in (by omega) (by omega)) dL_law_608 ?_
  refine lv_topi (fun z_4 ez_4 => ?_)
  refine lv_aload_n hx hb dL_law_609 rfl (lv_at hl 3 rfl) ?_
  refine lv_iload_n hx hb dL_law_610 rfl (lv_at hl 0 rfl) ?_
  refine lv_iconst (v := 3) hx hb dL_law_611 (by decide) ?_
  refine lv_iadd hx hb dL_law_612 ?_
  refine lv_topi (fun z_5 ez_5 => ?_)
  try have iz_5 : z_5.toInt = i.toInt + (3 : Int) := by rw [ez_5]; exact tl_addN i 3 rfl rfl (by omega) (by omega)
  refine va_sld hx hb hX hbl hbA hS (tl_in (by omega) (by omega)) dL_law_613 ?_
  refine lv_topi (fun z_6 ez_6 => ?_)
  refine lv_aload_n hx hb dL_law_614 rfl (lv_at hl 3 rfl) ?_
  refine lv_iload_n hx hb dL_law_615 rfl (lv_at hl 0 rfl) ?_
  refine lv_iconst (v := 4) hx hb dL_law_616 (by decide) ?_
  refine lv_iadd hx hb dL_law_617 ?_
  refine lv_topi (fun z_7 ez_7 => ?_)
  try have iz_7 : z_7.toInt = i.toInt + (4 : Int) := by rw [ez_7]; exact tl_addN i 4 rfl rfl (by omega) (by omega)
  refine va_sld hx hb hX hbl hbA hS (tl_in (by omega) (by omega)) dL_law_618 ?_
  refine lv_topi (fun z_8 ez_8 => ?_)
  refine lv_aload_n hx hb dL_law_619 rfl (lv_at hl 3 rfl) ?_
  refine lv_iload_n hx hb dL_law_620 rfl (lv_at hl 0 rfl) ?_
  refine lv_iconst (v := 5) hx hb dL_law_621 (by decide) ?_
  refine lv_iadd hx hb dL_law_622 ?_
  refine lv_topi (fun z_9 ez_9 => ?_)
  try have iz_9 : z_9.toInt = i.toInt + (5 : Int) := by rw [ez_9]; exact tl_addN i 5 rfl rfl (by omega) (by omega)
  refine va_sld hx hb hX hbl hbA hS (tl_in (by omega) (by omega)) dL_law_623 ?_
  refine lv_topi (fun z_10 ez_10 => ?_)
  obtain ⟨x_12, x_13, x_14, x_15, x_16, x_17, x_18, x_19, x_20, x_21, x_22, x_23, x_24, x_25, x_26, x_27, hf_11, hx_12, hx_13, hx_14, hx_15, hx_16, hx_17, hx_18, hx_19, hx_20, hx_21, hx_22, hx_23, hx_24, hx_25, hx_26, hx_27⟩ := (show tp_o_X L K (0) 0 (Γ (0, 0, 0)) (f xq) from hI.at hxq)
  refine tq_ci hS (hAf _ hS.1) (tq_rV (As := [.int z_2, .int z_4, .int z_6, .int z_8, .int z_10]) (rest := []) ⟨hx, hb, hml, hown, hta⟩ (tp_P.pre hK hN hL hU hI hP) (tp_recv hK hP hxq.1 hf_11 rfl) lk_L_59 (t_X11_make l D cy H.size L K Γ f xq z_2 z_4 z_6 z_8 z_10 hxq) rfl rfl ⟨Nat.le_of_ble_eq_true rfl, Nat.le_of_ble_eq_true rfl⟩ rfl hl.1 rfl (Nat.le_of_ble_eq_true rfl) dL_law_624 ⟨by rw [hRc]; omega, by rw [hRs]; omega⟩) (fun r_29 f_30 H locs hw_28 hP hI hc_31 hS => ?_)
  have hD : va_D A (va_pl L f_30) := tp_D hL hAL
  have hf_32 := (tp_un hc_31 hxq (by decide)).trans hf_11
  refine lv_pop hx hb dL_law_627 rfl ?_
  refine lv_aload_n hx hb dL_law_628 rfl (lv_at hl 1 rfl) ?_
  refine lv_aload_n hx hb dL_law_629 rfl (lv_at hl 3 rfl) ?_
  refine lv_iload_n hx hb dL_law_630 rfl (lv_at hl 0 rfl) ?_
  refine lv_iconst (v := 1) hx hb dL_law_631 (by decide) ?_
  refine lv_iadd hx hb dL_law_632 ?_
  refine lv_topi (fun z_33 ez_33 => ?_)
  obtain rfl : z_1 = z_33 := ez_1.trans ez_33.symm
  refine va_sld hx hb hX hbl hbA hS (tl_in (by omega) (by omega)) dL_law_633 ?_
  refine lv_topi (fun z_34 ez_34 => ?_)
  obtain rfl : z_2 = z_34 := ez_2.trans ez_34.symm
  refine lv_aload_n hx hb dL_law_634 rfl (lv_at hl 3 rfl) ?_
  refine lv_iload_n hx hb dL_law_635 rfl (lv_at hl 0 rfl) ?_
  refine lv_iconst (v := 2) hx hb dL_law_636 (by decide) ?_
  refine lv_iadd hx hb dL_law_637 ?_
  refine lv_topi (fun z_35 ez_35 => ?_)
  obtain rfl : z_3 = z_35 := ez_3.trans ez_35.symm
  refine va_sld hx hb hX hbl hbA hS (tl_in (by omega) (by omega)) dL_law_638 ?_
  refine lv_topi (fun z_36 ez_36 => ?_)
  obtain rfl : z_4 = z_36 := ez_4.trans ez_36.symm
  refine lv_aload_n hx hb dL_law_639 rfl (lv_at hl 3 rfl) ?_
  refine lv_iload_n hx hb dL_law_640 rfl (lv_at hl 0 rfl) ?_
  refine lv_iconst (v := 3) hx hb dL_law_641 (by decide) ?_
  refine lv_iadd hx hb dL_law_642 ?_
  refine lv_topi (fun z_37 ez_37 => ?_)
  obtain rfl : z_5 = z_37 := ez_5.trans ez_37.symm
  refine va_sld hx hb hX hbl hbA hS (tl_in (by omega) (by omega)) dL_law_643 ?_
  refine lv_topi (fun z_38 ez_38 => ?_)
  obtain rfl : z_6 = z_38 := ez_6.trans ez_38.symm
  refine lv_aload_n hx hb dL_law_644 rfl (lv_at hl 3 rfl) ?_
  refine lv_iload_n hx hb dL_law_645 rfl (lv_at hl 0 rfl) ?_
  refine lv_iconst (v := 4) hx hb dL_law_646 (by decide) ?_
  refine lv_iadd hx hb dL_law_647 ?_
  refine lv_topi (fun z_39 ez_39 => ?_)
  obtain rfl : z_7 = z_39 := ez_7.trans ez_39.symm
  refine va_sld hx hb hX hbl hbA hS (tl_in (by omega) (by omega)) dL_law_648 ?_
  refine lv_topi (fun z_40 ez_40 => ?_)
  obtain rfl : z_8 = z_40 := ez_8.trans ez_40.symm
  refine lv_aload_n hx hb dL_law_649 rfl (lv_at hl 3 rfl) ?_
  refine lv_iload_n hx hb dL_law_650 rfl (lv_at hl 0 rfl) ?_
  refine lv_iconst (v := 5) hx hb dL_law_651 (by decide) ?_
  refine lv_iadd hx hb dL_law_652 ?_
  refine lv_topi (fun z_41 ez_41 => ?_)
  obtain rfl : z_9 = z_41 := ez_9.trans ez_41.symm
  refine va_sld hx hb hX hbl hbA hS (tl_in (by omega) (by omega)) dL_law_653 ?_
  refine lv_topi (fun z_42 ez_42 => ?_)
  obtain rfl : z_10 = z_42 := ez_10.trans ez_42.symm
  obtain ⟨r_44, v_45, q_46, hf_43, hr_47, hv_48⟩ := (show tp_o_M L K 0 0 (Γ (39, 0, 0)) (f_30 mq) from hI.at hmq)
  refine tq_ciR hS (hAf _ hS.1) (tq_rV (As := [.int z_2, .int z_4, .int z_6, .int z_8, .int z_10]) (rest := []) ⟨hx, hb, hml, hown, hta⟩ (tp_P.pre hK hN hL hU hI hP) (tp_recv hK hP hmq.1 hf_43 rfl) lk_L_62 (r_X12_make l D cy H.size L K Γ f_30 mq z_2 z_4 z_6 z_8 z_10 hmq (by first | omega | (simp only [Int32.toInt_toInt64]; omega) | decide | assumption) (by first | omega | (simp only [Int32.toInt_toInt64]; omega) | decide | assumption)) rfl rfl ⟨Nat.le_of_ble_eq_true rfl, Nat.le_of_ble_eq_true rfl⟩ rfl hl.1 rfl (Nat.le_of_ble_eq_true rfl) dL_law_654 ⟨by rw [hRc]; omega, by rw [hRs]; omega⟩) (fun r_50 f_51 Γ_53 H locs hw_49 hP hI hc_52 hcg_54 hS => ?_)
  have hD : va_D A (va_pl L f_51) := tp_D hL hAL
  have hf_55 := (tp_un hc_52 hxq (by decide)).trans hf_32
  have hw_49 : Γ_53 (39, 0, 0) 0 = Γ (39, 0, 0) 0 ∧ ts_said (Γ_53 (40, 7666, 0)) (Γ (42, 3, 0) 1) ∧ (∀ j : Nat, (j < 441 ∨ 7641 ≤ j) → Γ_53 (40, 7666, 0) j = Γ (40, 7666, 0) j) := hw_49
  have hlq9 := s_make hlq hcg_54 (by decide) hw_49.1 hw_49.2.1 hw_49.2.2
  have hfree9 : ∀ j : Nat, Γ_53 (12, 4, 0) j = 0 → ∀ a ∈ L, ¬ (K a).2.2 = j + 1 := fun j q a ha => hfree j (by rw [← (hcg_54 (12, 4, 0) (by decide)).trans hIM]; exact q) a ha
  refine lv_pop hx hb dL_law_657 rfl ?_
  refine lv_goto (tgt := 2005) hx hb dL_law_658 (by decide) ?_
  exact W.widen (k := cells + 41) (n := slots + 8199) (by omega) (by omega) (kk L K Γ_53 f_51 H locs ls ⟨hP, hI, hL, hU, hAL, hS, hxq, hmq, hlq9, hfree9⟩ (lv_sub hl [0, 1, 2, 3] rfl))
set_option maxHeartbeats 4000000 in
set_option maxRecDepth 100000 in
theorem tl_law_11 {p : Program} {e : Env} {s : State} {m : MethodId} {below : List Frame} {meth : Method} {c : Code} (l : Launch) {b N : Nat} {xs : Nat → Int32} (C0 : lw_At p s m meth c b N xs) (D : va_G) (cy : Nat → ClassId) (hK : va_K D vwCl (tl_T cy) s) (hN : tl_ok s) (Z : ts_Y) {A : Nat → Prop} (hAe : A = fun q : Nat => s.heap.size ≤ q) (hZ : ts_Z A Z s s.heap) (xq mq : Nat) (i : Int32) (hi : 0 ≤ i.toInt ∧ i.toInt + 7 ≤ N ∧ N ≤ 3584) {cells slots : Nat} (hcs : cells + 41 ≤ 600000 ∧ slots + 8199 ≤ 7302249) {L : List Nat} {K : Nat → tk_K} {Γ : tk_G} {f : Nat → va_E} {H : Heap} {locs : List Loc} {ls : Array Slot} (S : lq_S D cy A s L K Γ f H locs xq mq) (hl : lv_has ls 4 [(3, .int i), (2, .ref mq), (1, .ref xq), (0, .ref b)]) (kk : ∀ (L : List Nat) (K : Nat → tk_K) (Γ : tk_G) (f : Nat → va_E) (H : Heap) (locs : List Loc) (ls : Array Slot), lq_S D cy A s L K Γ f H locs xq mq → lv_has ls 4 [(3, .int i), (2, .ref mq), (1, .ref xq), (0, .ref b)] → W p l e room_1 s m #[Value.ref b] below meth c H locs (cells + 41) (slots + 8199) (lw_Z below #[Value.ref b] s) (F0 m 2005 ls [])) : W p l e room_1 s m #[Value.ref b] below meth c H locs cells slots (lw_Z below #[Value.ref b] s) (F0 m 661 ls []) := by
  obtain ⟨hx, hb, hr, hml, hown, hts, hX, hbl, hlocks, hgv⟩ := id C0
  obtain ⟨hP, hI, hL, hU, hAL, hS, hxq, hmq, hlq, hfree⟩ := S
  have hta : ∀ w ∈ tl_L, w.before #[Value.ref b] s = true := fun w h => hts w (List.mem_filter.mp h).1
  have hA : ∀ q : Nat, s.heap.size ≤ q → A q := fun q h => by rw [hAe]; exact h
  have hbA : ¬ A b := by rw [hAe]; exact Nat.not_le.mpr hbl
  have hAf : ∀ (H : Heap), s.heap.size ≤ H.size → ∀ q, tp_A L H.size q → A q := fun H h q hq => hq.elim (hAL q) (fun h2 => hA q (Nat.le_trans h h2))
  have hRc : room_1.cells = 600000 := rfl
  have hRs : room_1.slots = 7302249 := rfl
  have hI0 := hI
  have hD : va_D A (va_pl L f) := tp_D hL hAL
  have htx := hlq.2.2.2.2.1
  have hsd := hlq.2.2.1
  have hs := ts_hs hsd
  have hraw := ts_raw hsd
  have hslp := ts_slp hsd
  have hdp := ts_dp hsd
  have hm0 := hlq.2.2.2.2.2
  have hIM : Γ (12, 4, 0) = Γ (12, 4, 0) := rfl
  refine lv_aload_n hx hb dL_law_661 rfl (lv_at hl 2 rfl) ?_
  refine lv_aload_n hx hb dL_law_662 rfl (lv_at hl 3 rfl) ?_
  refine lv_iload_n hx hb dL_law_663 rfl (lv_at hl 0 rfl) ?_
  refine lv_iconst (v := 1) hx hb dL_law_664 (by decide) ?_
  refine lv_iadd hx hb dL_law_665 ?_
  refine lv_topi (fun z_1 ez_1 => ?_)
  try have iz_1 : z_1.toInt = i.toInt + (1 : Int) := by rw [ez_1]; exact tl_addN i 1 rfl rfl (by omega) (by omega)
  refine va_sld hx hb hX hbl hbA hS (tl_in (by omega) (by omega)) dL_law_666 ?_
  refine lv_topi (fun z_2 ez_2 => ?_)
  refine lv_aload_n hx hb dL_law_667 rfl (lv_at hl 3 rfl) ?_
  refine lv_iload_n hx hb dL_law_668 rfl (lv_at hl 0 rfl) ?_
  refine lv_iconst (v := 2) hx hb dL_law_669 (by decide) ?_
  refine lv_iadd hx hb dL_law_670 ?_
  refine lv_topi (fun z_3 ez_3 => ?_)
  try have iz_3 : z_3.toInt = i.toInt + (2 : Int) := by rw [ez_3]; exact tl_addN i 2 rfl rfl (by omega) (by omega)
  refine va_sld hx hb hX hbl hbA hS (tl_in (by omega) (by omega)) dL_law_671 ?_
  refine lv_topi (fun z_4 ez_4 => ?_)
  refine lv_aload_n hx hb dL_law_672 rfl (lv_at hl 3 rfl) ?_
  refine lv_iload_n hx hb dL_law_673 rfl (lv_at hl 0 rfl) ?_
  refine lv_iconst (v := 3) hx hb dL_law_674 (by decide) ?_
  refine lv_iadd hx hb dL_law_675 ?_
  refine lv_topi (fun z_5 ez_5 => ?_)
  try have iz_5 : z_5.toInt = i.toInt + (3 : Int) := by rw [ez_5]; exact tl_addN i 3 rfl rfl (by omega) (by omega)
  refine va_sld hx hb hX hbl hbA hS (tl_in (by omega) (by omega)) dL_law_676 ?_
  refine lv_topi (fun z_6 ez_6 => ?_)
  refine lv_aload_n hx hb dL_law_677 rfl (lv_at hl 3 rfl) ?_
  refine lv_iload_n hx hb dL_law_678 rfl (lv_at hl 0 rfl) ?_
  refine lv_iconst (v := 4) hx hb dL_law_679 (by decide) ?_
  refine lv_iadd hx hb dL_law_680 ?_
  refine lv_topi (fun z_7 ez_7 => ?_)
  try have iz_7 : z_7.toInt = i.toInt + (4 : Int) := by rw [ez_7]; exact tl_addN i 4 rfl rfl (by omega) (by omega)
  refine va_sld hx hb hX hbl hbA hS (tl_in (by omega) (by omega)) dL_law_681 ?_
  refine lv_topi (fun z_8 ez_8 => ?_)
  obtain ⟨x_10, x_11, x_12, x_13, x_14, x_15, x_16, x_17, x_18, x_19, x_20, x_21, x_22, x_23, x_24, x_25, hf_9, hx_10, hx_11, hx_12, hx_13, hx_14, hx_15, hx_16, hx_17, hx_18, hx_19, hx_20, hx_21, hx_22, hx_23, hx_24, hx_25⟩ := (show tp_o_X L K (0) 0 (Γ (0, 0, 0)) (f xq) from hI.at hxq)
  refine tq_ci hS (hAf _ hS.1) (tq_rV (As := [.int z_2, .int z_4, .int z_6, .int z_8]) (rest := []) ⟨hx, hb, hml, hown, hta⟩ (tp_P.pre hK hN hL hU hI hP) (tp_recv hK hP hxq.1 hf_9 rfl) lk_L_63 (t_X11_curve l D cy H.size L K Γ f xq z_2 z_4 z_6 z_8 hxq) rfl rfl ⟨Nat.le_of_ble_eq_true rfl, Nat.le_of_ble_eq_true rfl⟩ rfl hl.1 rfl (Nat.le_of_ble_eq_true rfl) dL_law_682 ⟨by rw [hRc]; omega, by rw [hRs]; omega⟩) (fun r_27 f_28 H locs hw_26 hP hI hc_29 hS => ?_)
  have hD : va_D A (va_pl L f_28) := tp_D hL hAL
  have hf_30 := (tp_un hc_29 hxq (by decide)).trans hf_9
  refine lv_pop hx hb dL_law_685 rfl ?_
  refine lv_aload_n hx hb dL_law_686 rfl (lv_at hl 1 rfl) ?_
  refine lv_aload_n hx hb dL_law_687 rfl (lv_at hl 3 rfl) ?_
  refine lv_iload_n hx hb dL_law_688 rfl (lv_at hl 0 rfl) ?_
  refine lv_iconst (v := 1) hx hb dL_law_689 (by decide) ?_
  refine lv_iadd hx hb dL_law_690 ?_
  refine lv_topi (fun z_31 ez_31 => ?_)
  obtain rfl : z_1 = z_31 := ez_1.trans ez_31.symm
  refine va_sld hx hb hX hbl hbA hS (tl_in (by omega) (by omega)) dL_law_691 ?_
  refine lv_topi (fun z_32 ez_32 => ?_)
  obtain rfl : z_2 = z_32 := ez_2.trans ez_32.symm
  refine lv_aload_n hx hb dL_law_692 rfl (lv_at hl 3 rfl) ?_
  refine lv_iload_n hx hb dL_law_693 rfl (lv_at hl 0 rfl) ?_
  refine lv_iconst (v := 2) hx hb dL_law_694 (by decide) ?_
  refine lv_iadd hx hb dL_law_695 ?_
  refine lv_topi (fun z_33 ez_33 => ?_)
  obtain rfl : z_3 = z_33 := ez_3.trans ez_33.symm
  refine va_sld hx hb hX hbl hbA hS (tl_in (by omega) (by omega)) dL_law_696 ?_
  refine lv_topi (fun z_34 ez_34 => ?_)
  obtain rfl : z_4 = z_34 := ez_4.trans ez_34.symm
  refine lv_aload_n hx hb dL_law_697 rfl (lv_at hl 3 rfl) ?_
  refine lv_iload_n hx hb dL_law_698 rfl (lv_at hl 0 rfl) ?_
  refine lv_iconst (v := 3) hx hb dL_law_699 (by decide) ?_
  refine lv_iadd hx hb dL_law_700 ?_
  refine lv_topi (fun z_35 ez_35 => ?_)
  obtain rfl : z_5 = z_35 := ez_5.trans ez_35.symm
  refine va_sld hx hb hX hbl hbA hS (tl_in (by omega) (by omega)) dL_law_701 ?_
  refine lv_topi (fun z_36 ez_36 => ?_)
  obtain rfl : z_6 = z_36 := ez_6.trans ez_36.symm
  refine lv_aload_n hx hb dL_law_702 rfl (lv_at hl 3 rfl) ?_
  refine lv_iload_n hx hb dL_law_703 rfl (lv_at hl 0 rfl) ?_
  refine lv_iconst (v := 4) hx hb dL_law_704 (by decide) ?_
  refine lv_iadd hx hb dL_law_705 ?_
  refine lv_topi (fun z_37 ez_37 => ?_)
  obtain rfl : z_7 = z_37 := ez_7.trans ez_37.symm
  refine va_sld hx hb hX hbl hbA hS (tl_in (by omega) (by omega)) dL_law_706 ?_
  refine lv_topi (fun z_38 ez_38 => ?_)
  obtain rfl : z_8 = z_38 := ez_8.trans ez_38.symm
  obtain ⟨r_40, v_41, q_42, hf_39, hr_43, hv_44⟩ := (show tp_o_M L K 0 0 (Γ (39, 0, 0)) (f_28 mq) from hI.at hmq)
  refine tq_ciR hS (hAf _ hS.1) (tq_rV (As := [.int z_2, .int z_4, .int z_6, .int z_8]) (rest := []) ⟨hx, hb, hml, hown, hta⟩ (tp_P.pre hK hN hL hU hI hP) (tp_recv hK hP hmq.1 hf_39 rfl) lk_L_66 (r_X12_curve l D cy H.size L K Γ f_28 mq z_2 z_4 z_6 z_8 hmq (by first | omega | (simp only [Int32.toInt_toInt64]; omega) | decide | assumption) (by first | omega | (simp only [Int32.toInt_toInt64]; omega) | decide | assumption)) rfl rfl ⟨Nat.le_of_ble_eq_true rfl, Nat.le_of_ble_eq_true rfl⟩ rfl hl.1 rfl (Nat.le_of_ble_eq_true rfl) dL_law_707 ⟨by rw [hRc]; omega, by rw [hRs]; omega⟩) (fun r_46 f_47 Γ_49 H locs hw_45 hP hI hc_48 hcg_50 hS => ?_)
  have hD : va_D A (va_pl L f_47) := tp_D hL hAL
  have hf_51 := (tp_un hc_48 hxq (by decide)).trans hf_30
  have hw_45 : Γ_49 (39, 0, 0) 0 = Γ (39, 0, 0) 0 := hw_45
  have hlq9 : lq Γ_49 := hlq.quiet hcg_50 (by decide) (by omega)
  have hfree9 : ∀ j : Nat, Γ_49 (12, 4, 0) j = 0 → ∀ a ∈ L, ¬ (K a).2.2 = j + 1 := fun j q a ha => hfree j (by rw [← (hcg_50 (12, 4, 0) (by decide)).trans hIM]; exact q) a ha
  refine lv_pop hx hb dL_law_710 rfl ?_
  refine lv_goto (tgt := 2005) hx hb dL_law_711 (by decide) ?_
  exact W.widen (k := cells + 41) (n := slots + 8199) (by omega) (by omega) (kk L K Γ_49 f_47 H locs ls ⟨hP, hI, hL, hU, hAL, hS, hxq, hmq, hlq9, hfree9⟩ (lv_sub hl [0, 1, 2, 3] rfl))
set_option maxHeartbeats 4000000 in
set_option maxRecDepth 100000 in
theorem tl_law_12 {p : Program} {e : Env} {s : State} {m : MethodId} {below : List Frame} {meth : Method} {c : Code} (l : Launch) {b N : Nat} {xs : Nat → Int32} (C0 : lw_At p s m meth c b N xs) (D : va_G) (cy : Nat → ClassId) (hK : va_K D vwCl (tl_T cy) s) (hN : tl_ok s) (Z : ts_Y) {A : Nat → Prop} (hAe : A = fun q : Nat => s.heap.size ≤ q) (hZ : ts_Z A Z s s.heap) (xq mq : Nat) (i : Int32) (hi : 0 ≤ i.toInt ∧ i.toInt + 7 ≤ N ∧ N ≤ 3584) {cells slots : Nat} (hcs : cells + 41 ≤ 600000 ∧ slots + 8199 ≤ 7302249) {L : List Nat} {K : Nat → tk_K} {Γ : tk_G} {f : Nat → va_E} {H : Heap} {locs : List Loc} {ls : Array Slot} (S : lq_S D cy A s L K Γ f H locs xq mq) (hl : lv_has ls 4 [(3, .int i), (2, .ref mq), (1, .ref xq), (0, .ref b)]) (kk : ∀ (L : List Nat) (K : Nat → tk_K) (Γ : tk_G) (f : Nat → va_E) (H : Heap) (locs : List Loc) (ls : Array Slot), lq_S D cy A s L K Γ f H locs xq mq → lv_has ls 4 [(3, .int i), (2, .ref mq), (1, .ref xq), (0, .ref b)] → W p l e room_1 s m #[Value.ref b] below meth c H locs (cells + 41) (slots + 8199) (lw_Z below #[Value.ref b] s) (F0 m 2005 ls [])) : W p l e room_1 s m #[Value.ref b] below meth c H locs cells slots (lw_Z below #[Value.ref b] s) (F0 m 714 ls []) := by
  obtain ⟨hx, hb, hr, hml, hown, hts, hX, hbl, hlocks, hgv⟩ := id C0
  obtain ⟨hP, hI, hL, hU, hAL, hS, hxq, hmq, hlq, hfree⟩ := S
  have hta : ∀ w ∈ tl_L, w.before #[Value.ref b] s = true := fun w h => hts w (List.mem_filter.mp h).1
  have hA : ∀ q : Nat, s.heap.size ≤ q → A q := fun q h => by rw [hAe]; exact h
  have hbA : ¬ A b := by rw [hAe]; exact Nat.not_le.mpr hbl
  have hAf : ∀ (H : Heap), s.heap.size ≤ H.size → ∀ q, tp_A L H.size q → A q := fun H h q hq => hq.elim (hAL q) (fun h2 => hA q (Nat.le_trans h h2))
  have hRc : room_1.cells = 600000 := rfl
  have hRs : room_1.slots = 7302249 := rfl
  have hI0 := hI
  have hD : va_D A (va_pl L f) := tp_D hL hAL
  have htx := hlq.2.2.2.2.1
  have hsd := hlq.2.2.1
  have hs := ts_hs hsd
  have hraw := ts_raw hsd
  have hslp := ts_slp hsd
  have hdp := ts_dp hsd
  have hm0 := hlq.2.2.2.2.2
  have hIM : Γ (12, 4, 0) = Γ (12, 4, 0) := rfl
  refine lv_aload_n hx hb dL_law_714 rfl (lv_at hl 2 rfl) ?_
  refine lv_aload_n hx hb dL_law_715 rfl (lv_at hl 3 rfl) ?_
  refine lv_iload_n hx hb dL_law_716 rfl (lv_at hl 0 rfl) ?_
  refine lv_iconst (v := 1) hx hb dL_law_717 (by decide) ?_
  refine lv_iadd hx hb dL_law_718 ?_
  refine lv_topi (fun z_1 ez_1 => ?_)
  try have iz_1 : z_1.toInt = i.toInt + (1 : Int) := by rw [ez_1]; exact tl_addN i 1 rfl rfl (by omega) (by omega)
  refine va_sld hx hb hX hbl hbA hS (tl_in (by omega) (by omega)) dL_law_719 ?_
  refine lv_topi (fun z_2 ez_2 => ?_)
  refine lv_aload_n hx hb dL_law_720 rfl (lv_at hl 3 rfl) ?_
  refine lv_iload_n hx hb dL_law_721 rfl (lv_at hl 0 rfl) ?_
  refine lv_iconst (v := 2) hx hb dL_law_722 (by decide) ?_
  refine lv_iadd hx hb dL_law_723 ?_
  refine lv_topi (fun z_3 ez_3 => ?_)
  try have iz_3 : z_3.toInt = i.toInt + (2 : Int) := by rw [ez_3]; exact tl_addN i 2 rfl rfl (by omega) (by omega)
  refine va_sld hx hb hX hbl hbA hS (tl_in (by omega) (by omega)) dL_law_724 ?_
  refine lv_topi (fun z_4 ez_4 => ?_)
  refine lv_aload_n hx hb dL_law_725 rfl (lv_at hl 3 rfl) ?_
  refine lv_iload_n hx hb dL_law_726 rfl (lv_at hl 0 rfl) ?_
  refine lv_iconst (v := 3) hx hb dL_law_727 (by decide) ?_
  refine lv_iadd hx hb dL_law_728 ?_
  refine lv_topi (fun z_5 ez_5 => ?_)
  try have iz_5 : z_5.toInt = i.toInt + (3 : Int) := by rw [ez_5]; exact tl_addN i 3 rfl rfl (by omega) (by omega)
  refine va_sld hx hb hX hbl hbA hS (tl_in (by omega) (by omega)) dL_law_729 ?_
  refine lv_topi (fun z_6 ez_6 => ?_)
  obtain ⟨x_8, x_9, x_10, x_11, x_12, x_13, x_14, x_15, x_16, x_17, x_18, x_19, x_20, x_21, x_22, x_23, hf_7, hx_8, hx_9, hx_10, hx_11, hx_12, hx_13, hx_14, hx_15, hx_16, hx_17, hx_18, hx_19, hx_20, hx_21, hx_22, hx_23⟩ := (show tp_o_X L K (0) 0 (Γ (0, 0, 0)) (f xq) from hI.at hxq)
  refine tq_cl hS (hAf _ hS.1) (tq_rV (As := [.int z_2, .int z_4, .int z_6]) (rest := []) ⟨hx, hb, hml, hown, hta⟩ (tp_P.pre hK hN hL hU hI hP) (tp_recv hK hP hxq.1 hf_7 rfl) lk_L_67 (t_X11_deep l D cy H.size L K Γ f xq z_2 z_4 z_6 hxq) rfl rfl ⟨Nat.le_of_ble_eq_true rfl, Nat.le_of_ble_eq_true rfl⟩ rfl hl.1 rfl (Nat.le_of_ble_eq_true rfl) dL_law_730 ⟨by rw [hRc]; omega, by rw [hRs]; omega⟩) (fun r_25 f_26 H locs hw_24 hP hI hc_27 hS => ?_)
  have hD : va_D A (va_pl L f_26) := tp_D hL hAL
  have hf_28 := (tp_un hc_27 hxq (by decide)).trans hf_7
  refine lv_pop2_2 hx hb dL_law_733 rfl ?_
  refine lv_aload_n hx hb dL_law_734 rfl (lv_at hl 1 rfl) ?_
  refine lv_aload_n hx hb dL_law_735 rfl (lv_at hl 3 rfl) ?_
  refine lv_iload_n hx hb dL_law_736 rfl (lv_at hl 0 rfl) ?_
  refine lv_iconst (v := 1) hx hb dL_law_737 (by decide) ?_
  refine lv_iadd hx hb dL_law_738 ?_
  refine lv_topi (fun z_29 ez_29 => ?_)
  obtain rfl : z_1 = z_29 := ez_1.trans ez_29.symm
  refine va_sld hx hb hX hbl hbA hS (tl_in (by omega) (by omega)) dL_law_739 ?_
  refine lv_topi (fun z_30 ez_30 => ?_)
  obtain rfl : z_2 = z_30 := ez_2.trans ez_30.symm
  refine lv_aload_n hx hb dL_law_740 rfl (lv_at hl 3 rfl) ?_
  refine lv_iload_n hx hb dL_law_741 rfl (lv_at hl 0 rfl) ?_
  refine lv_iconst (v := 2) hx hb dL_law_742 (by decide) ?_
  refine lv_iadd hx hb dL_law_743 ?_
  refine lv_topi (fun z_31 ez_31 => ?_)
  obtain rfl : z_3 = z_31 := ez_3.trans ez_31.symm
  refine va_sld hx hb hX hbl hbA hS (tl_in (by omega) (by omega)) dL_law_744 ?_
  refine lv_topi (fun z_32 ez_32 => ?_)
  obtain rfl : z_4 = z_32 := ez_4.trans ez_32.symm
  refine lv_aload_n hx hb dL_law_745 rfl (lv_at hl 3 rfl) ?_
  refine lv_iload_n hx hb dL_law_746 rfl (lv_at hl 0 rfl) ?_
  refine lv_iconst (v := 3) hx hb dL_law_747 (by decide) ?_
  refine lv_iadd hx hb dL_law_748 ?_
  refine lv_topi (fun z_33 ez_33 => ?_)
  obtain rfl : z_5 = z_33 := ez_5.trans ez_33.symm
  refine va_sld hx hb hX hbl hbA hS (tl_in (by omega) (by omega)) dL_law_749 ?_
  refine lv_topi (fun z_34 ez_34 => ?_)
  obtain rfl : z_6 = z_34 := ez_6.trans ez_34.symm
  obtain ⟨r_36, v_37, q_38, hf_35, hr_39, hv_40⟩ := (show tp_o_M L K 0 0 (Γ (39, 0, 0)) (f_26 mq) from hI.at hmq)
  refine tq_clR hS (hAf _ hS.1) (tq_rV (As := [.int z_2, .int z_4, .int z_6]) (rest := []) ⟨hx, hb, hml, hown, hta⟩ (tp_P.pre hK hN hL hU hI hP) (tp_recv hK hP hmq.1 hf_35 rfl) lk_L_71 (r_X12_deep l D cy H.size L K Γ f_26 mq z_2 z_4 z_6 hmq (by first | omega | (simp only [Int32.toInt_toInt64]; omega) | decide | assumption) (by first | omega | (simp only [Int32.toInt_toInt64]; omega) | decide | assumption)) rfl rfl ⟨Nat.le_of_ble_eq_true rfl, Nat.le_of_ble_eq_true rfl⟩ rfl hl.1 rfl (Nat.le_of_ble_eq_true rfl) dL_law_750 ⟨by rw [hRc]; omega, by rw [hRs]; omega⟩) (fun r_42 f_43 Γ_45 H locs hw_41 hP hI hc_44 hcg_46 hS => ?_)
  have hD : va_D A (va_pl L f_43) := tp_D hL hAL
  have hf_47 := (tp_un hc_44 hxq (by decide)).trans hf_28
  have hw_41 : Γ_45 (39, 0, 0) 0 = Γ (39, 0, 0) 0 := hw_41
  have hlq9 : lq Γ_45 := hlq.quiet hcg_46 (by decide) (by omega)
  have hfree9 : ∀ j : Nat, Γ_45 (12, 4, 0) j = 0 → ∀ a ∈ L, ¬ (K a).2.2 = j + 1 := fun j q a ha => hfree j (by rw [← (hcg_46 (12, 4, 0) (by decide)).trans hIM]; exact q) a ha
  refine lv_pop2_2 hx hb dL_law_753 rfl ?_
  refine lv_goto (tgt := 2005) hx hb dL_law_754 (by decide) ?_
  exact W.widen (k := cells + 41) (n := slots + 8199) (by omega) (by omega) (kk L K Γ_45 f_43 H locs ls ⟨hP, hI, hL, hU, hAL, hS, hxq, hmq, hlq9, hfree9⟩ (lv_sub hl [0, 1, 2, 3] rfl))
set_option maxHeartbeats 4000000 in
set_option maxRecDepth 100000 in
theorem tl_law_13 {p : Program} {e : Env} {s : State} {m : MethodId} {below : List Frame} {meth : Method} {c : Code} (l : Launch) {b N : Nat} {xs : Nat → Int32} (C0 : lw_At p s m meth c b N xs) (D : va_G) (cy : Nat → ClassId) (hK : va_K D vwCl (tl_T cy) s) (hN : tl_ok s) (Z : ts_Y) {A : Nat → Prop} (hAe : A = fun q : Nat => s.heap.size ≤ q) (hZ : ts_Z A Z s s.heap) (xq mq : Nat) (i : Int32) (hi : 0 ≤ i.toInt ∧ i.toInt + 7 ≤ N ∧ N ≤ 3584) {cells slots : Nat} (hcs : cells + 41 ≤ 600000 ∧ slots + 8199 ≤ 7302249) {L : List Nat} {K : Nat → tk_K} {Γ : tk_G} {f : Nat → va_E} {H : Heap} {locs : List Loc} {ls : Array Slot} (S : lq_S D cy A s L K Γ f H locs xq mq) (hl : lv_has ls 4 [(3, .int i), (2, .ref mq), (1, .ref xq), (0, .ref b)]) (kk : ∀ (L : List Nat) (K : Nat → tk_K) (Γ : tk_G) (f : Nat → va_E) (H : Heap) (locs : List Loc) (ls : Array Slot), lq_S D cy A s L K Γ f H locs xq mq → lv_has ls 4 [(3, .int i), (2, .ref mq), (1, .ref xq), (0, .ref b)] → W p l e room_1 s m #[Value.ref b] below meth c H locs (cells + 41) (slots + 8199) (lw_Z below #[Value.ref b] s) (F0 m 2005 ls [])) : W p l e room_1 s m #[Value.ref b] below meth c H locs cells slots (lw_Z below #[Value.ref b] s) (F0 m 757 ls []) := by
  obtain ⟨hx, hb, hr, hml, hown, hts, hX, hbl, hlocks, hgv⟩ := id C0
  obtain ⟨hP, hI, hL, hU, hAL, hS, hxq, hmq, hlq, hfree⟩ := S
  have hta : ∀ w ∈ tl_L, w.before #[Value.ref b] s = true := fun w h => hts w (List.mem_filter.mp h).1
  have hA : ∀ q : Nat, s.heap.size ≤ q → A q := fun q h => by rw [hAe]; exact h
  have hbA : ¬ A b := by rw [hAe]; exact Nat.not_le.mpr hbl
  have hAf : ∀ (H : Heap), s.heap.size ≤ H.size → ∀ q, tp_A L H.size q → A q := fun H h q hq => hq.elim (hAL q) (fun h2 => hA q (Nat.le_trans h h2))
  have hRc : room_1.cells = 600000 := rfl
  have hRs : room_1.slots = 7302249 := rfl
  have hI0 := hI
  have hD : va_D A (va_pl L f) := tp_D hL hAL
  have htx := hlq.2.2.2.2.1
  have hsd := hlq.2.2.1
  have hs := ts_hs hsd
  have hraw := ts_raw hsd
  have hslp := ts_slp hsd
  have hdp := ts_dp hsd
  have hm0 := hlq.2.2.2.2.2
  have hIM : Γ (12, 4, 0) = Γ (12, 4, 0) := rfl
  refine lv_aload_n hx hb dL_law_757 rfl (lv_at hl 2 rfl) ?_
  refine lv_aload_n hx hb dL_law_758 rfl (lv_at hl 3 rfl) ?_
  refine lv_iload_n hx hb dL_law_759 rfl (lv_at hl 0 rfl) ?_
  refine lv_iconst (v := 1) hx hb dL_law_760 (by decide) ?_
  refine lv_iadd hx hb dL_law_761 ?_
  refine lv_topi (fun z_1 ez_1 => ?_)
  try have iz_1 : z_1.toInt = i.toInt + (1 : Int) := by rw [ez_1]; exact tl_addN i 1 rfl rfl (by omega) (by omega)
  refine va_sld hx hb hX hbl hbA hS (tl_in (by omega) (by omega)) dL_law_762 ?_
  refine lv_topi (fun z_2 ez_2 => ?_)
  refine lv_aload_n hx hb dL_law_763 rfl (lv_at hl 3 rfl) ?_
  refine lv_iload_n hx hb dL_law_764 rfl (lv_at hl 0 rfl) ?_
  refine lv_iconst (v := 2) hx hb dL_law_765 (by decide) ?_
  refine lv_iadd hx hb dL_law_766 ?_
  refine lv_topi (fun z_3 ez_3 => ?_)
  try have iz_3 : z_3.toInt = i.toInt + (2 : Int) := by rw [ez_3]; exact tl_addN i 2 rfl rfl (by omega) (by omega)
  refine va_sld hx hb hX hbl hbA hS (tl_in (by omega) (by omega)) dL_law_767 ?_
  refine lv_topi (fun z_4 ez_4 => ?_)
  refine lv_aload_n hx hb dL_law_768 rfl (lv_at hl 3 rfl) ?_
  refine lv_iload_n hx hb dL_law_769 rfl (lv_at hl 0 rfl) ?_
  refine lv_iconst (v := 3) hx hb dL_law_770 (by decide) ?_
  refine lv_iadd hx hb dL_law_771 ?_
  refine lv_topi (fun z_5 ez_5 => ?_)
  try have iz_5 : z_5.toInt = i.toInt + (3 : Int) := by rw [ez_5]; exact tl_addN i 3 rfl rfl (by omega) (by omega)
  refine va_sld hx hb hX hbl hbA hS (tl_in (by omega) (by omega)) dL_law_772 ?_
  refine lv_topi (fun z_6 ez_6 => ?_)
  obtain ⟨x_8, x_9, x_10, x_11, x_12, x_13, x_14, x_15, x_16, x_17, x_18, x_19, x_20, x_21, x_22, x_23, hf_7, hx_8, hx_9, hx_10, hx_11, hx_12, hx_13, hx_14, hx_15, hx_16, hx_17, hx_18, hx_19, hx_20, hx_21, hx_22, hx_23⟩ := (show tp_o_X L K (0) 0 (Γ (0, 0, 0)) (f xq) from hI.at hxq)
  refine tq_cl hS (hAf _ hS.1) (tq_rV (As := [.int z_2, .int z_4, .int z_6]) (rest := []) ⟨hx, hb, hml, hown, hta⟩ (tp_P.pre hK hN hL hU hI hP) (tp_recv hK hP hxq.1 hf_7 rfl) lk_L_72 (t_X11_moved l D cy H.size L K Γ f xq z_2 z_4 z_6 hxq) rfl rfl ⟨Nat.le_of_ble_eq_true rfl, Nat.le_of_ble_eq_true rfl⟩ rfl hl.1 rfl (Nat.le_of_ble_eq_true rfl) dL_law_773 ⟨by rw [hRc]; omega, by rw [hRs]; omega⟩) (fun r_25 f_26 H locs hw_24 hP hI hc_27 hS => ?_)
  have hD : va_D A (va_pl L f_26) := tp_D hL hAL
  have hf_28 := (tp_un hc_27 hxq (by decide)).trans hf_7
  refine lv_pop2_2 hx hb dL_law_776 rfl ?_
  refine lv_aload_n hx hb dL_law_777 rfl (lv_at hl 1 rfl) ?_
  refine lv_aload_n hx hb dL_law_778 rfl (lv_at hl 3 rfl) ?_
  refine lv_iload_n hx hb dL_law_779 rfl (lv_at hl 0 rfl) ?_
  refine lv_iconst (v := 1) hx hb dL_law_780 (by decide) ?_
  refine lv_iadd hx hb dL_law_781 ?_
  refine lv_topi (fun z_29 ez_29 => ?_)
  obtain rfl : z_1 = z_29 := ez_1.trans ez_29.symm
  refine va_sld hx hb hX hbl hbA hS (tl_in (by omega) (by omega)) dL_law_782 ?_
  refine lv_topi (fun z_30 ez_30 => ?_)
  obtain rfl : z_2 = z_30 := ez_2.trans ez_30.symm
  refine lv_aload_n hx hb dL_law_783 rfl (lv_at hl 3 rfl) ?_
  refine lv_iload_n hx hb dL_law_784 rfl (lv_at hl 0 rfl) ?_
  refine lv_iconst (v := 2) hx hb dL_law_785 (by decide) ?_
  refine lv_iadd hx hb dL_law_786 ?_
  refine lv_topi (fun z_31 ez_31 => ?_)
  obtain rfl : z_3 = z_31 := ez_3.trans ez_31.symm
  refine va_sld hx hb hX hbl hbA hS (tl_in (by omega) (by omega)) dL_law_787 ?_
  refine lv_topi (fun z_32 ez_32 => ?_)
  obtain rfl : z_4 = z_32 := ez_4.trans ez_32.symm
  refine lv_aload_n hx hb dL_law_788 rfl (lv_at hl 3 rfl) ?_
  refine lv_iload_n hx hb dL_law_789 rfl (lv_at hl 0 rfl) ?_
  refine lv_iconst (v := 3) hx hb dL_law_790 (by decide) ?_
  refine lv_iadd hx hb dL_law_791 ?_
  refine lv_topi (fun z_33 ez_33 => ?_)
  obtain rfl : z_5 = z_33 := ez_5.trans ez_33.symm
  refine va_sld hx hb hX hbl hbA hS (tl_in (by omega) (by omega)) dL_law_792 ?_
  refine lv_topi (fun z_34 ez_34 => ?_)
  obtain rfl : z_6 = z_34 := ez_6.trans ez_34.symm
  obtain ⟨r_36, v_37, q_38, hf_35, hr_39, hv_40⟩ := (show tp_o_M L K 0 0 (Γ (39, 0, 0)) (f_26 mq) from hI.at hmq)
  refine tq_clR hS (hAf _ hS.1) (tq_rV (As := [.int z_2, .int z_4, .int z_6]) (rest := []) ⟨hx, hb, hml, hown, hta⟩ (tp_P.pre hK hN hL hU hI hP) (tp_recv hK hP hmq.1 hf_35 rfl) lk_L_75 (r_X12_moved l D cy H.size L K Γ f_26 mq z_2 z_4 z_6 hmq (by first | omega | (simp only [Int32.toInt_toInt64]; omega) | decide | assumption) (by first | omega | (simp only [Int32.toInt_toInt64]; omega) | decide | assumption)) rfl rfl ⟨Nat.le_of_ble_eq_true rfl, Nat.le_of_ble_eq_true rfl⟩ rfl hl.1 rfl (Nat.le_of_ble_eq_true rfl) dL_law_793 ⟨by rw [hRc]; omega, by rw [hRs]; omega⟩) (fun r_42 f_43 Γ_45 H locs hw_41 hP hI hc_44 hcg_46 hS => ?_)
  have hD : va_D A (va_pl L f_43) := tp_D hL hAL
  have hf_47 := (tp_un hc_44 hxq (by decide)).trans hf_28
  have hw_41 : Γ_45 (39, 0, 0) 0 = Γ (39, 0, 0) 0 := hw_41
  have hlq9 : lq Γ_45 := hlq.quiet hcg_46 (by decide) (by omega)
  have hfree9 : ∀ j : Nat, Γ_45 (12, 4, 0) j = 0 → ∀ a ∈ L, ¬ (K a).2.2 = j + 1 := fun j q a ha => hfree j (by rw [← (hcg_46 (12, 4, 0) (by decide)).trans hIM]; exact q) a ha
  refine lv_pop2_2 hx hb dL_law_796 rfl ?_
  refine lv_goto (tgt := 2005) hx hb dL_law_797 (by decide) ?_
  exact W.widen (k := cells + 41) (n := slots + 8199) (by omega) (by omega) (kk L K Γ_45 f_43 H locs ls ⟨hP, hI, hL, hU, hAL, hS, hxq, hmq, hlq9, hfree9⟩ (lv_sub hl [0, 1, 2, 3] rfl))
set_option maxHeartbeats 4000000 in
set_option maxRecDepth 100000 in
theorem tl_law_14 {p : Program} {e : Env} {s : State} {m : MethodId} {below : List Frame} {meth : Method} {c : Code} (l : Launch) {b N : Nat} {xs : Nat → Int32} (C0 : lw_At p s m meth c b N xs) (D : va_G) (cy : Nat → ClassId) (hK : va_K D vwCl (tl_T cy) s) (hN : tl_ok s) (Z : ts_Y) {A : Nat → Prop} (hAe : A = fun q : Nat => s.heap.size ≤ q) (hZ : ts_Z A Z s s.heap) (xq mq : Nat) (i : Int32) (hi : 0 ≤ i.toInt ∧ i.toInt + 7 ≤ N ∧ N ≤ 3584) {cells slots : Nat} (hcs : cells + 41 ≤ 600000 ∧ slots + 8199 ≤ 7302249) {L : List Nat} {K : Nat → tk_K} {Γ : tk_G} {f : Nat → va_E} {H : Heap} {locs : List Loc} {ls : Array Slot} (S : lq_S D cy A s L K Γ f H locs xq mq) (hl : lv_has ls 4 [(3, .int i), (2, .ref mq), (1, .ref xq), (0, .ref b)]) (kk : ∀ (L : List Nat) (K : Nat → tk_K) (Γ : tk_G) (f : Nat → va_E) (H : Heap) (locs : List Loc) (ls : Array Slot), lq_S D cy A s L K Γ f H locs xq mq → lv_has ls 4 [(3, .int i), (2, .ref mq), (1, .ref xq), (0, .ref b)] → W p l e room_1 s m #[Value.ref b] below meth c H locs (cells + 41) (slots + 8199) (lw_Z below #[Value.ref b] s) (F0 m 2005 ls [])) : W p l e room_1 s m #[Value.ref b] below meth c H locs cells slots (lw_Z below #[Value.ref b] s) (F0 m 800 ls []) := by
  obtain ⟨hx, hb, hr, hml, hown, hts, hX, hbl, hlocks, hgv⟩ := id C0
  obtain ⟨hP, hI, hL, hU, hAL, hS, hxq, hmq, hlq, hfree⟩ := S
  have hta : ∀ w ∈ tl_L, w.before #[Value.ref b] s = true := fun w h => hts w (List.mem_filter.mp h).1
  have hA : ∀ q : Nat, s.heap.size ≤ q → A q := fun q h => by rw [hAe]; exact h
  have hbA : ¬ A b := by rw [hAe]; exact Nat.not_le.mpr hbl
  have hAf : ∀ (H : Heap), s.heap.size ≤ H.size → ∀ q, tp_A L H.size q → A q := fun H h q hq => hq.elim (hAL q) (fun h2 => hA q (Nat.le_trans h h2))
  have hRc : room_1.cells = 600000 := rfl
  have hRs : room_1.slots = 7302249 := rfl
  have hI0 := hI
  have hD : va_D A (va_pl L f) := tp_D hL hAL
  have htx := hlq.2.2.2.2.1
  have hsd := hlq.2.2.1
  have hs := ts_hs hsd
  have hraw := ts_raw hsd
  have hslp := ts_slp hsd
  have hdp := ts_dp hsd
  have hm0 := hlq.2.2.2.2.2
  have hIM : Γ (12, 4, 0) = Γ (12, 4, 0) := rfl
  refine lv_aload_n hx hb dL_law_800 rfl (lv_at hl 2 rfl) ?_
  refine lv_aload_n hx hb dL_law_801 rfl (lv_at hl 3 rfl) ?_
  refine lv_iload_n hx hb dL_law_802 rfl (lv_at hl 0 rfl) ?_
  refine lv_iconst (v := 1) hx hb dL_law_803 (by decide) ?_
  refine lv_iadd hx hb dL_law_804 ?_
  refine lv_topi (fun z_1 ez_1 => ?_)
  try have iz_1 : z_1.toInt = i.toInt + (1 : Int) := by rw [ez_1]; exact tl_addN i 1 rfl rfl (by omega) (by omega)
  refine va_sld hx hb hX hbl hbA hS (tl_in (by omega) (by omega)) dL_law_805 ?_
  refine lv_topi (fun z_2 ez_2 => ?_)
  refine lv_aload_n hx hb dL_law_806 rfl (lv_at hl 3 rfl) ?_
  refine lv_iload_n hx hb dL_law_807 rfl (lv_at hl 0 rfl) ?_
  refine lv_iconst (v := 2) hx hb dL_law_808 (by decide) ?_
  refine lv_iadd hx hb dL_law_809 ?_
  refine lv_topi (fun z_3 ez_3 => ?_)
  try have iz_3 : z_3.toInt = i.toInt + (2 : Int) := by rw [ez_3]; exact tl_addN i 2 rfl rfl (by omega) (by omega)
  refine va_sld hx hb hX hbl hbA hS (tl_in (by omega) (by omega)) dL_law_810 ?_
  refine lv_topi (fun z_4 ez_4 => ?_)
  refine lv_aload_n hx hb dL_law_811 rfl (lv_at hl 3 rfl) ?_
  refine lv_iload_n hx hb dL_law_812 rfl (lv_at hl 0 rfl) ?_
  refine lv_iconst (v := 3) hx hb dL_law_813 (by decide) ?_
  refine lv_iadd hx hb dL_law_814 ?_
  refine lv_topi (fun z_5 ez_5 => ?_)
  try have iz_5 : z_5.toInt = i.toInt + (3 : Int) := by rw [ez_5]; exact tl_addN i 3 rfl rfl (by omega) (by omega)
  refine va_sld hx hb hX hbl hbA hS (tl_in (by omega) (by omega)) dL_law_815 ?_
  refine lv_topi (fun z_6 ez_6 => ?_)
  obtain ⟨x_8, x_9, x_10, x_11, x_12, x_13, x_14, x_15, x_16, x_17, x_18, x_19, x_20, x_21, x_22, x_23, hf_7, hx_8, hx_9, hx_10, hx_11, hx_12, hx_13, hx_14, hx_15, hx_16, hx_17, hx_18, hx_19, hx_20, hx_21, hx_22, hx_23⟩ := (show tp_o_X L K (0) 0 (Γ (0, 0, 0)) (f xq) from hI.at hxq)
  refine tq_ci hS (hAf _ hS.1) (tq_rV (As := [.int z_2, .int z_4, .int z_6]) (rest := []) ⟨hx, hb, hml, hown, hta⟩ (tp_P.pre hK hN hL hU hI hP) (tp_recv hK hP hxq.1 hf_7 rfl) lk_L_76 (t_X11_elsewhere l D cy H.size L K Γ f xq z_2 z_4 z_6 hxq) rfl rfl ⟨Nat.le_of_ble_eq_true rfl, Nat.le_of_ble_eq_true rfl⟩ rfl hl.1 rfl (Nat.le_of_ble_eq_true rfl) dL_law_816 ⟨by rw [hRc]; omega, by rw [hRs]; omega⟩) (fun r_25 f_26 H locs hw_24 hP hI hc_27 hS => ?_)
  have hD : va_D A (va_pl L f_26) := tp_D hL hAL
  have hf_28 := (tp_un hc_27 hxq (by decide)).trans hf_7
  refine lv_pop hx hb dL_law_819 rfl ?_
  refine lv_aload_n hx hb dL_law_820 rfl (lv_at hl 1 rfl) ?_
  refine lv_aload_n hx hb dL_law_821 rfl (lv_at hl 3 rfl) ?_
  refine lv_iload_n hx hb dL_law_822 rfl (lv_at hl 0 rfl) ?_
  refine lv_iconst (v := 1) hx hb dL_law_823 (by decide) ?_
  refine lv_iadd hx hb dL_law_824 ?_
  refine lv_topi (fun z_29 ez_29 => ?_)
  obtain rfl : z_1 = z_29 := ez_1.trans ez_29.symm
  refine va_sld hx hb hX hbl hbA hS (tl_in (by omega) (by omega)) dL_law_825 ?_
  refine lv_topi (fun z_30 ez_30 => ?_)
  obtain rfl : z_2 = z_30 := ez_2.trans ez_30.symm
  refine lv_aload_n hx hb dL_law_826 rfl (lv_at hl 3 rfl) ?_
  refine lv_iload_n hx hb dL_law_827 rfl (lv_at hl 0 rfl) ?_
  refine lv_iconst (v := 2) hx hb dL_law_828 (by decide) ?_
  refine lv_iadd hx hb dL_law_829 ?_
  refine lv_topi (fun z_31 ez_31 => ?_)
  obtain rfl : z_3 = z_31 := ez_3.trans ez_31.symm
  refine va_sld hx hb hX hbl hbA hS (tl_in (by omega) (by omega)) dL_law_830 ?_
  refine lv_topi (fun z_32 ez_32 => ?_)
  obtain rfl : z_4 = z_32 := ez_4.trans ez_32.symm
  refine lv_aload_n hx hb dL_law_831 rfl (lv_at hl 3 rfl) ?_
  refine lv_iload_n hx hb dL_law_832 rfl (lv_at hl 0 rfl) ?_
  refine lv_iconst (v := 3) hx hb dL_law_833 (by decide) ?_
  refine lv_iadd hx hb dL_law_834 ?_
  refine lv_topi (fun z_33 ez_33 => ?_)
  obtain rfl : z_5 = z_33 := ez_5.trans ez_33.symm
  refine va_sld hx hb hX hbl hbA hS (tl_in (by omega) (by omega)) dL_law_835 ?_
  refine lv_topi (fun z_34 ez_34 => ?_)
  obtain rfl : z_6 = z_34 := ez_6.trans ez_34.symm
  obtain ⟨r_36, v_37, q_38, hf_35, hr_39, hv_40⟩ := (show tp_o_M L K 0 0 (Γ (39, 0, 0)) (f_26 mq) from hI.at hmq)
  refine tq_ciR hS (hAf _ hS.1) (tq_rV (As := [.int z_2, .int z_4, .int z_6]) (rest := []) ⟨hx, hb, hml, hown, hta⟩ (tp_P.pre hK hN hL hU hI hP) (tp_recv hK hP hmq.1 hf_35 rfl) lk_L_79 (r_X12_elsewhere l D cy H.size L K Γ f_26 mq z_2 z_4 z_6 hmq (by first | omega | (simp only [Int32.toInt_toInt64]; omega) | decide | assumption) (by first | omega | (simp only [Int32.toInt_toInt64]; omega) | decide | assumption)) rfl rfl ⟨Nat.le_of_ble_eq_true rfl, Nat.le_of_ble_eq_true rfl⟩ rfl hl.1 rfl (Nat.le_of_ble_eq_true rfl) dL_law_836 ⟨by rw [hRc]; omega, by rw [hRs]; omega⟩) (fun r_42 f_43 Γ_45 H locs hw_41 hP hI hc_44 hcg_46 hS => ?_)
  have hD : va_D A (va_pl L f_43) := tp_D hL hAL
  have hf_47 := (tp_un hc_44 hxq (by decide)).trans hf_28
  have hw_41 : Γ_45 (39, 0, 0) 0 = Γ (39, 0, 0) 0 := hw_41
  have hlq9 : lq Γ_45 := hlq.quiet hcg_46 (by decide) (by omega)
  have hfree9 : ∀ j : Nat, Γ_45 (12, 4, 0) j = 0 → ∀ a ∈ L, ¬ (K a).2.2 = j + 1 := fun j q a ha => hfree j (by rw [← (hcg_46 (12, 4, 0) (by decide)).trans hIM]; exact q) a ha
  refine lv_pop hx hb dL_law_839 rfl ?_
  refine lv_goto (tgt := 2005) hx hb dL_law_840 (by decide) ?_
  exact W.widen (k := cells + 41) (n := slots + 8199) (by omega) (by omega) (kk L K Γ_45 f_43 H locs ls ⟨hP, hI, hL, hU, hAL, hS, hxq, hmq, hlq9, hfree9⟩ (lv_sub hl [0, 1, 2, 3] rfl))
