theorem wk_0 : Cond.classLink RL 7 RX11 ∈ tl_L := List.mem_filter.mpr ⟨by decide +kernel, rfl⟩
theorem wk_1 : Cond.instantiable RX11 16 ∈ tl_L := List.mem_filter.mpr ⟨by decide +kernel, rfl⟩
theorem wk_3 : Cond.classLink RL 10 RX12 ∈ tl_L := List.mem_filter.mpr ⟨by decide +kernel, rfl⟩
theorem wk_4 : Cond.instantiable RX12 49 ∈ tl_L := List.mem_filter.mpr ⟨by decide +kernel, rfl⟩
theorem wk_6 : Cond.methodLink RL 9 yX11_init ∈ tl_L := List.mem_filter.mpr ⟨by decide +kernel, rfl⟩
theorem wk_7 : Cond.instanceMethod yX11_init ∈ tl_L := List.mem_filter.mpr ⟨by decide +kernel, rfl⟩
theorem wk_8 : Cond.code yX11_init cX11_init 1 none ∈ tl_L := List.mem_filter.mpr ⟨List.mem_of_getElem? (i := 202) (by decide +kernel), rfl⟩
theorem wk_145 : Cond.methodLink RL 12 yX12_init ∈ tl_L := List.mem_filter.mpr ⟨by decide +kernel, rfl⟩
theorem wk_146 : Cond.instanceMethod yX12_init ∈ tl_L := List.mem_filter.mpr ⟨by decide +kernel, rfl⟩
theorem wk_147 : Cond.code yX12_init cX12_init 2 none ∈ tl_L := List.mem_filter.mpr ⟨List.mem_of_getElem? (i := 1438) (by decide +kernel), rfl⟩
theorem wk_183 : Cond.methodLink RL 13 yX11_clock ∈ tl_L := List.mem_filter.mpr ⟨by decide +kernel, rfl⟩
theorem wk_184 : Cond.instanceMethod yX11_clock ∈ tl_L := List.mem_filter.mpr ⟨by decide +kernel, rfl⟩
theorem wk_185 : Cond.selects RX11 yX11_clock yX11_clock ∈ tl_L := List.mem_filter.mpr ⟨by decide +kernel, rfl⟩
theorem wk_186 : Cond.code yX11_clock cX11_clock 2 (some .boolean) ∈ tl_L := List.mem_filter.mpr ⟨List.mem_of_getElem? (i := 607) (by decide +kernel), rfl⟩
theorem wk_193 : Cond.methodLink RL 17 yX12_clock ∈ tl_L := List.mem_filter.mpr ⟨by decide +kernel, rfl⟩
theorem wk_194 : Cond.instanceMethod yX12_clock ∈ tl_L := List.mem_filter.mpr ⟨by decide +kernel, rfl⟩
theorem wk_195 : Cond.selects RX12 yX12_clock yX12_clock ∈ tl_L := List.mem_filter.mpr ⟨by decide +kernel, rfl⟩
theorem wk_196 : Cond.code yX12_clock cX12_clock 2 (some .boolean) ∈ tl_L := List.mem_filter.mpr ⟨List.mem_of_getElem? (i := 1592) (by decide +kernel), rfl⟩
theorem wk_201 : Cond.methodLink RL 18 yX11_row ∈ tl_L := List.mem_filter.mpr ⟨by decide +kernel, rfl⟩
theorem wk_202 : Cond.instanceMethod yX11_row ∈ tl_L := List.mem_filter.mpr ⟨by decide +kernel, rfl⟩
theorem wk_203 : Cond.selects RX11 yX11_row yX11_row ∈ tl_L := List.mem_filter.mpr ⟨by decide +kernel, rfl⟩
theorem wk_204 : Cond.code yX11_row cX11_row 3 (some .int) ∈ tl_L := List.mem_filter.mpr ⟨List.mem_of_getElem? (i := 617) (by decide +kernel), rfl⟩
theorem wk_217 : Cond.methodLink RL 22 yX12_row ∈ tl_L := List.mem_filter.mpr ⟨by decide +kernel, rfl⟩
theorem wk_218 : Cond.instanceMethod yX12_row ∈ tl_L := List.mem_filter.mpr ⟨by decide +kernel, rfl⟩
theorem wk_219 : Cond.selects RX12 yX12_row yX12_row ∈ tl_L := List.mem_filter.mpr ⟨by decide +kernel, rfl⟩
theorem wk_220 : Cond.code yX12_row cX12_row 5 (some .int) ∈ tl_L := List.mem_filter.mpr ⟨List.mem_of_getElem? (i := 1600) (by decide +kernel), rfl⟩
theorem wk_223 : Cond.methodLink RL 23 yX11_raw ∈ tl_L := List.mem_filter.mpr ⟨by decide +kernel, rfl⟩
theorem wk_224 : Cond.instanceMethod yX11_raw ∈ tl_L := List.mem_filter.mpr ⟨by decide +kernel, rfl⟩
theorem wk_225 : Cond.selects RX11 yX11_raw yX11_raw ∈ tl_L := List.mem_filter.mpr ⟨by decide +kernel, rfl⟩
theorem wk_226 : Cond.code yX11_raw cX11_raw 5 (some .int) ∈ tl_L := List.mem_filter.mpr ⟨List.mem_of_getElem? (i := 632) (by decide +kernel), rfl⟩
theorem wk_242 : Cond.methodLink RL 27 yX12_raw ∈ tl_L := List.mem_filter.mpr ⟨by decide +kernel, rfl⟩
theorem wk_243 : Cond.instanceMethod yX12_raw ∈ tl_L := List.mem_filter.mpr ⟨by decide +kernel, rfl⟩
theorem wk_244 : Cond.selects RX12 yX12_raw yX12_raw ∈ tl_L := List.mem_filter.mpr ⟨by decide +kernel, rfl⟩
theorem wk_245 : Cond.code yX12_raw cX12_raw 5 (some .int) ∈ tl_L := List.mem_filter.mpr ⟨List.mem_of_getElem? (i := 1606) (by decide +kernel), rfl⟩
theorem wk_256 : Cond.methodLink RL 28 yX11_read ∈ tl_L := List.mem_filter.mpr ⟨by decide +kernel, rfl⟩
theorem wk_257 : Cond.instanceMethod yX11_read ∈ tl_L := List.mem_filter.mpr ⟨by decide +kernel, rfl⟩
theorem wk_258 : Cond.selects RX11 yX11_read yX11_read ∈ tl_L := List.mem_filter.mpr ⟨by decide +kernel, rfl⟩
theorem wk_259 : Cond.code yX11_read cX11_read 4 (some .int) ∈ tl_L := List.mem_filter.mpr ⟨List.mem_of_getElem? (i := 653) (by decide +kernel), rfl⟩
theorem wk_267 : Cond.methodLink RL 31 yX12_read ∈ tl_L := List.mem_filter.mpr ⟨by decide +kernel, rfl⟩
theorem wk_268 : Cond.instanceMethod yX12_read ∈ tl_L := List.mem_filter.mpr ⟨by decide +kernel, rfl⟩
theorem wk_269 : Cond.selects RX12 yX12_read yX12_read ∈ tl_L := List.mem_filter.mpr ⟨by decide +kernel, rfl⟩
theorem wk_270 : Cond.code yX12_read cX12_read 3 (some .int) ∈ tl_L := List.mem_filter.mpr ⟨List.mem_of_getElem? (i := 1620) (by decide +kernel), rfl⟩
theorem wk_279 : Cond.methodLink RL 32 yX11_slip ∈ tl_L := List.mem_filter.mpr ⟨by decide +kernel, rfl⟩
theorem wk_280 : Cond.instanceMethod yX11_slip ∈ tl_L := List.mem_filter.mpr ⟨by decide +kernel, rfl⟩
theorem wk_281 : Cond.selects RX11 yX11_slip yX11_slip ∈ tl_L := List.mem_filter.mpr ⟨by decide +kernel, rfl⟩
theorem wk_282 : Cond.code yX11_slip cX11_slip 5 (some .int) ∈ tl_L := List.mem_filter.mpr ⟨List.mem_of_getElem? (i := 665) (by decide +kernel), rfl⟩
theorem wk_297 : Cond.methodLink RL 36 yX12_slip ∈ tl_L := List.mem_filter.mpr ⟨by decide +kernel, rfl⟩
theorem wk_298 : Cond.instanceMethod yX12_slip ∈ tl_L := List.mem_filter.mpr ⟨by decide +kernel, rfl⟩
theorem wk_299 : Cond.selects RX12 yX12_slip yX12_slip ∈ tl_L := List.mem_filter.mpr ⟨by decide +kernel, rfl⟩
theorem wk_300 : Cond.code yX12_slip cX12_slip 6 (some .int) ∈ tl_L := List.mem_filter.mpr ⟨List.mem_of_getElem? (i := 1632) (by decide +kernel), rfl⟩
theorem wk_303 : Cond.methodLink RL 37 yX11_anew ∈ tl_L := List.mem_filter.mpr ⟨by decide +kernel, rfl⟩
theorem wk_304 : Cond.instanceMethod yX11_anew ∈ tl_L := List.mem_filter.mpr ⟨by decide +kernel, rfl⟩
theorem wk_305 : Cond.selects RX11 yX11_anew yX11_anew ∈ tl_L := List.mem_filter.mpr ⟨by decide +kernel, rfl⟩
theorem wk_306 : Cond.code yX11_anew cX11_anew 4 (some .int) ∈ tl_L := List.mem_filter.mpr ⟨List.mem_of_getElem? (i := 684) (by decide +kernel), rfl⟩
theorem wk_307 : Cond.methodLink RL 40 yX12_anew ∈ tl_L := List.mem_filter.mpr ⟨by decide +kernel, rfl⟩
theorem wk_308 : Cond.instanceMethod yX12_anew ∈ tl_L := List.mem_filter.mpr ⟨by decide +kernel, rfl⟩
theorem wk_309 : Cond.selects RX12 yX12_anew yX12_anew ∈ tl_L := List.mem_filter.mpr ⟨by decide +kernel, rfl⟩
theorem wk_310 : Cond.code yX12_anew cX12_anew 4 (some .int) ∈ tl_L := List.mem_filter.mpr ⟨List.mem_of_getElem? (i := 1638) (by decide +kernel), rfl⟩
theorem wk_311 : Cond.methodLink RL 41 yX11_line ∈ tl_L := List.mem_filter.mpr ⟨by decide +kernel, rfl⟩
theorem wk_312 : Cond.instanceMethod yX11_line ∈ tl_L := List.mem_filter.mpr ⟨by decide +kernel, rfl⟩
theorem wk_313 : Cond.selects RX11 yX11_line yX11_line ∈ tl_L := List.mem_filter.mpr ⟨by decide +kernel, rfl⟩
theorem wk_314 : Cond.code yX11_line cX11_line 4 (some .int) ∈ tl_L := List.mem_filter.mpr ⟨List.mem_of_getElem? (i := 691) (by decide +kernel), rfl⟩
theorem wk_321 : Cond.methodLink RL 44 yX12_line ∈ tl_L := List.mem_filter.mpr ⟨by decide +kernel, rfl⟩
theorem wk_322 : Cond.instanceMethod yX12_line ∈ tl_L := List.mem_filter.mpr ⟨by decide +kernel, rfl⟩
theorem wk_323 : Cond.selects RX12 yX12_line yX12_line ∈ tl_L := List.mem_filter.mpr ⟨by decide +kernel, rfl⟩
theorem wk_324 : Cond.code yX12_line cX12_line 5 (some .int) ∈ tl_L := List.mem_filter.mpr ⟨List.mem_of_getElem? (i := 1642) (by decide +kernel), rfl⟩
theorem wk_335 : Cond.methodLink RL 45 yX11_feed ∈ tl_L := List.mem_filter.mpr ⟨by decide +kernel, rfl⟩
theorem wk_336 : Cond.instanceMethod yX11_feed ∈ tl_L := List.mem_filter.mpr ⟨by decide +kernel, rfl⟩
theorem wk_337 : Cond.selects RX11 yX11_feed yX11_feed ∈ tl_L := List.mem_filter.mpr ⟨by decide +kernel, rfl⟩
theorem wk_338 : Cond.code yX11_feed cX11_feed 6 (some .int) ∈ tl_L := List.mem_filter.mpr ⟨List.mem_of_getElem? (i := 702) (by decide +kernel), rfl⟩
theorem wk_343 : Cond.methodLink RL 49 yX12_feed ∈ tl_L := List.mem_filter.mpr ⟨by decide +kernel, rfl⟩
theorem wk_344 : Cond.instanceMethod yX12_feed ∈ tl_L := List.mem_filter.mpr ⟨by decide +kernel, rfl⟩
theorem wk_345 : Cond.selects RX12 yX12_feed yX12_feed ∈ tl_L := List.mem_filter.mpr ⟨by decide +kernel, rfl⟩
theorem wk_346 : Cond.code yX12_feed cX12_feed 6 (some .int) ∈ tl_L := List.mem_filter.mpr ⟨List.mem_of_getElem? (i := 1656) (by decide +kernel), rfl⟩
theorem wk_352 : Cond.methodLink RL 50 yX11_end ∈ tl_L := List.mem_filter.mpr ⟨by decide +kernel, rfl⟩
theorem wk_353 : Cond.instanceMethod yX11_end ∈ tl_L := List.mem_filter.mpr ⟨by decide +kernel, rfl⟩
theorem wk_354 : Cond.selects RX11 yX11_end yX11_end ∈ tl_L := List.mem_filter.mpr ⟨by decide +kernel, rfl⟩
theorem wk_355 : Cond.code yX11_end cX11_end 2 (some .int) ∈ tl_L := List.mem_filter.mpr ⟨List.mem_of_getElem? (i := 710) (by decide +kernel), rfl⟩
theorem wk_356 : Cond.methodLink RL 54 yX12_end ∈ tl_L := List.mem_filter.mpr ⟨by decide +kernel, rfl⟩
theorem wk_357 : Cond.instanceMethod yX12_end ∈ tl_L := List.mem_filter.mpr ⟨by decide +kernel, rfl⟩
theorem wk_358 : Cond.selects RX12 yX12_end yX12_end ∈ tl_L := List.mem_filter.mpr ⟨by decide +kernel, rfl⟩
theorem wk_359 : Cond.code yX12_end cX12_end 2 (some .int) ∈ tl_L := List.mem_filter.mpr ⟨List.mem_of_getElem? (i := 1664) (by decide +kernel), rfl⟩
theorem wk_360 : Cond.methodLink RL 55 yX11_text ∈ tl_L := List.mem_filter.mpr ⟨by decide +kernel, rfl⟩
theorem wk_361 : Cond.instanceMethod yX11_text ∈ tl_L := List.mem_filter.mpr ⟨by decide +kernel, rfl⟩
theorem wk_362 : Cond.selects RX11 yX11_text yX11_text ∈ tl_L := List.mem_filter.mpr ⟨by decide +kernel, rfl⟩
theorem wk_363 : Cond.code yX11_text cX11_text 5 (some .int) ∈ tl_L := List.mem_filter.mpr ⟨List.mem_of_getElem? (i := 714) (by decide +kernel), rfl⟩
theorem wk_532 : Cond.methodLink RL 58 yX12_text ∈ tl_L := List.mem_filter.mpr ⟨by decide +kernel, rfl⟩
theorem wk_533 : Cond.instanceMethod yX12_text ∈ tl_L := List.mem_filter.mpr ⟨by decide +kernel, rfl⟩
theorem wk_534 : Cond.selects RX12 yX12_text yX12_text ∈ tl_L := List.mem_filter.mpr ⟨by decide +kernel, rfl⟩
theorem wk_535 : Cond.code yX12_text cX12_text 3 (some .int) ∈ tl_L := List.mem_filter.mpr ⟨List.mem_of_getElem? (i := 1668) (by decide +kernel), rfl⟩
theorem wk_689 : Cond.methodLink RL 59 yX11_make ∈ tl_L := List.mem_filter.mpr ⟨by decide +kernel, rfl⟩
theorem wk_690 : Cond.instanceMethod yX11_make ∈ tl_L := List.mem_filter.mpr ⟨by decide +kernel, rfl⟩
theorem wk_691 : Cond.selects RX11 yX11_make yX11_make ∈ tl_L := List.mem_filter.mpr ⟨by decide +kernel, rfl⟩
theorem wk_692 : Cond.code yX11_make cX11_make 8 (some .int) ∈ tl_L := List.mem_filter.mpr ⟨List.mem_of_getElem? (i := 910) (by decide +kernel), rfl⟩
theorem wk_772 : Cond.methodLink RL 62 yX12_make ∈ tl_L := List.mem_filter.mpr ⟨by decide +kernel, rfl⟩
theorem wk_773 : Cond.instanceMethod yX12_make ∈ tl_L := List.mem_filter.mpr ⟨by decide +kernel, rfl⟩
theorem wk_774 : Cond.selects RX12 yX12_make yX12_make ∈ tl_L := List.mem_filter.mpr ⟨by decide +kernel, rfl⟩
theorem wk_775 : Cond.code yX12_make cX12_make 7 (some .int) ∈ tl_L := List.mem_filter.mpr ⟨List.mem_of_getElem? (i := 1817) (by decide +kernel), rfl⟩
theorem wk_822 : Cond.methodLink RL 63 yX11_curve ∈ tl_L := List.mem_filter.mpr ⟨by decide +kernel, rfl⟩
theorem wk_823 : Cond.instanceMethod yX11_curve ∈ tl_L := List.mem_filter.mpr ⟨by decide +kernel, rfl⟩
theorem wk_824 : Cond.selects RX11 yX11_curve yX11_curve ∈ tl_L := List.mem_filter.mpr ⟨by decide +kernel, rfl⟩
theorem wk_825 : Cond.code yX11_curve cX11_curve 5 (some .int) ∈ tl_L := List.mem_filter.mpr ⟨List.mem_of_getElem? (i := 1003) (by decide +kernel), rfl⟩
theorem wk_899 : Cond.methodLink RL 66 yX12_curve ∈ tl_L := List.mem_filter.mpr ⟨by decide +kernel, rfl⟩
theorem wk_900 : Cond.instanceMethod yX12_curve ∈ tl_L := List.mem_filter.mpr ⟨by decide +kernel, rfl⟩
theorem wk_901 : Cond.selects RX12 yX12_curve yX12_curve ∈ tl_L := List.mem_filter.mpr ⟨by decide +kernel, rfl⟩
theorem wk_902 : Cond.code yX12_curve cX12_curve 5 (some .int) ∈ tl_L := List.mem_filter.mpr ⟨List.mem_of_getElem? (i := 1865) (by decide +kernel), rfl⟩
theorem wk_957 : Cond.methodLink RL 67 yX11_deep ∈ tl_L := List.mem_filter.mpr ⟨by decide +kernel, rfl⟩
theorem wk_958 : Cond.instanceMethod yX11_deep ∈ tl_L := List.mem_filter.mpr ⟨by decide +kernel, rfl⟩
theorem wk_959 : Cond.selects RX11 yX11_deep yX11_deep ∈ tl_L := List.mem_filter.mpr ⟨by decide +kernel, rfl⟩
theorem wk_960 : Cond.code yX11_deep cX11_deep 4 (some .long) ∈ tl_L := List.mem_filter.mpr ⟨List.mem_of_getElem? (i := 1084) (by decide +kernel), rfl⟩
theorem wk_985 : Cond.methodLink RL 71 yX12_deep ∈ tl_L := List.mem_filter.mpr ⟨by decide +kernel, rfl⟩
theorem wk_986 : Cond.instanceMethod yX12_deep ∈ tl_L := List.mem_filter.mpr ⟨by decide +kernel, rfl⟩
theorem wk_987 : Cond.selects RX12 yX12_deep yX12_deep ∈ tl_L := List.mem_filter.mpr ⟨by decide +kernel, rfl⟩
theorem wk_988 : Cond.code yX12_deep cX12_deep 6 (some .long) ∈ tl_L := List.mem_filter.mpr ⟨List.mem_of_getElem? (i := 1917) (by decide +kernel), rfl⟩
theorem wk_992 : Cond.methodLink RL 72 yX11_moved ∈ tl_L := List.mem_filter.mpr ⟨by decide +kernel, rfl⟩
theorem wk_993 : Cond.instanceMethod yX11_moved ∈ tl_L := List.mem_filter.mpr ⟨by decide +kernel, rfl⟩
theorem wk_994 : Cond.selects RX11 yX11_moved yX11_moved ∈ tl_L := List.mem_filter.mpr ⟨by decide +kernel, rfl⟩
theorem wk_995 : Cond.code yX11_moved cX11_moved 4 (some .long) ∈ tl_L := List.mem_filter.mpr ⟨List.mem_of_getElem? (i := 1115) (by decide +kernel), rfl⟩
theorem wk_1003 : Cond.methodLink RL 75 yX12_moved ∈ tl_L := List.mem_filter.mpr ⟨by decide +kernel, rfl⟩
theorem wk_1004 : Cond.instanceMethod yX12_moved ∈ tl_L := List.mem_filter.mpr ⟨by decide +kernel, rfl⟩
theorem wk_1005 : Cond.selects RX12 yX12_moved yX12_moved ∈ tl_L := List.mem_filter.mpr ⟨by decide +kernel, rfl⟩
theorem wk_1006 : Cond.code yX12_moved cX12_moved 4 (some .long) ∈ tl_L := List.mem_filter.mpr ⟨List.mem_of_getElem? (i := 1924) (by decide +kernel), rfl⟩
theorem wk_1015 : Cond.methodLink RL 76 yX11_elsewhere ∈ tl_L := List.mem_filter.mpr ⟨by decide +kernel, rfl⟩
theorem wk_1016 : Cond.instanceMethod yX11_elsewhere ∈ tl_L := List.mem_filter.mpr ⟨by decide +kernel, rfl⟩
theorem wk_1017 : Cond.selects RX11 yX11_elsewhere yX11_elsewhere ∈ tl_L := List.mem_filter.mpr ⟨by decide +kernel, rfl⟩
theorem wk_1018 : Cond.code yX11_elsewhere cX11_elsewhere 11 (some .int) ∈ tl_L := List.mem_filter.mpr ⟨List.mem_of_getElem? (i := 1128) (by decide +kernel), rfl⟩
theorem wk_1024 : Cond.methodLink RL 79 yX12_elsewhere ∈ tl_L := List.mem_filter.mpr ⟨by decide +kernel, rfl⟩
theorem wk_1025 : Cond.instanceMethod yX12_elsewhere ∈ tl_L := List.mem_filter.mpr ⟨by decide +kernel, rfl⟩
theorem wk_1026 : Cond.selects RX12 yX12_elsewhere yX12_elsewhere ∈ tl_L := List.mem_filter.mpr ⟨by decide +kernel, rfl⟩
theorem wk_1027 : Cond.code yX12_elsewhere cX12_elsewhere 12 (some .int) ∈ tl_L := List.mem_filter.mpr ⟨List.mem_of_getElem? (i := 1936) (by decide +kernel), rfl⟩
theorem wk_1028 : Cond.methodLink RL 80 yX11_drawn ∈ tl_L := List.mem_filter.mpr ⟨by decide +kernel, rfl⟩
theorem wk_1029 : Cond.instanceMethod yX11_drawn ∈ tl_L := List.mem_filter.mpr ⟨by decide +kernel, rfl⟩
theorem wk_1030 : Cond.selects RX11 yX11_drawn yX11_drawn ∈ tl_L := List.mem_filter.mpr ⟨by decide +kernel, rfl⟩
theorem wk_1031 : Cond.code yX11_drawn cX11_drawn 12 (some .int) ∈ tl_L := List.mem_filter.mpr ⟨List.mem_of_getElem? (i := 1144) (by decide +kernel), rfl⟩
theorem wk_1032 : Cond.methodLink RL 83 yX12_drawn ∈ tl_L := List.mem_filter.mpr ⟨by decide +kernel, rfl⟩
theorem wk_1033 : Cond.instanceMethod yX12_drawn ∈ tl_L := List.mem_filter.mpr ⟨by decide +kernel, rfl⟩
theorem wk_1034 : Cond.selects RX12 yX12_drawn yX12_drawn ∈ tl_L := List.mem_filter.mpr ⟨by decide +kernel, rfl⟩
theorem wk_1035 : Cond.code yX12_drawn cX12_drawn 12 (some .int) ∈ tl_L := List.mem_filter.mpr ⟨List.mem_of_getElem? (i := 1940) (by decide +kernel), rfl⟩
theorem wk_1037 : Cond.methodLink RL 84 yX11_bent ∈ tl_L := List.mem_filter.mpr ⟨by decide +kernel, rfl⟩
theorem wk_1038 : Cond.instanceMethod yX11_bent ∈ tl_L := List.mem_filter.mpr ⟨by decide +kernel, rfl⟩
theorem wk_1039 : Cond.selects RX11 yX11_bent yX11_bent ∈ tl_L := List.mem_filter.mpr ⟨by decide +kernel, rfl⟩
theorem wk_1040 : Cond.code yX11_bent cX11_bent 4 (some .long) ∈ tl_L := List.mem_filter.mpr ⟨List.mem_of_getElem? (i := 1149) (by decide +kernel), rfl⟩
theorem wk_1044 : Cond.methodLink RL 87 yX12_bent ∈ tl_L := List.mem_filter.mpr ⟨by decide +kernel, rfl⟩
theorem wk_1045 : Cond.instanceMethod yX12_bent ∈ tl_L := List.mem_filter.mpr ⟨by decide +kernel, rfl⟩
theorem wk_1046 : Cond.selects RX12 yX12_bent yX12_bent ∈ tl_L := List.mem_filter.mpr ⟨by decide +kernel, rfl⟩
theorem wk_1047 : Cond.code yX12_bent cX12_bent 4 (some .long) ∈ tl_L := List.mem_filter.mpr ⟨List.mem_of_getElem? (i := 1945) (by decide +kernel), rfl⟩
theorem wk_1049 : Cond.methodLink RL 88 yX11_best ∈ tl_L := List.mem_filter.mpr ⟨by decide +kernel, rfl⟩
theorem wk_1050 : Cond.instanceMethod yX11_best ∈ tl_L := List.mem_filter.mpr ⟨by decide +kernel, rfl⟩
theorem wk_1051 : Cond.selects RX11 yX11_best yX11_best ∈ tl_L := List.mem_filter.mpr ⟨by decide +kernel, rfl⟩
theorem wk_1052 : Cond.code yX11_best cX11_best 11 (some .long) ∈ tl_L := List.mem_filter.mpr ⟨List.mem_of_getElem? (i := 1157) (by decide +kernel), rfl⟩
theorem wk_1060 : Cond.methodLink RL 92 yX12_best ∈ tl_L := List.mem_filter.mpr ⟨by decide +kernel, rfl⟩
theorem wk_1061 : Cond.instanceMethod yX12_best ∈ tl_L := List.mem_filter.mpr ⟨by decide +kernel, rfl⟩
theorem wk_1062 : Cond.selects RX12 yX12_best yX12_best ∈ tl_L := List.mem_filter.mpr ⟨by decide +kernel, rfl⟩
theorem wk_1063 : Cond.code yX12_best cX12_best 13 (some .long) ∈ tl_L := List.mem_filter.mpr ⟨List.mem_of_getElem? (i := 1950) (by decide +kernel), rfl⟩
theorem wk_1065 : Cond.methodLink RL 93 yX11_taken ∈ tl_L := List.mem_filter.mpr ⟨by decide +kernel, rfl⟩
theorem wk_1066 : Cond.instanceMethod yX11_taken ∈ tl_L := List.mem_filter.mpr ⟨by decide +kernel, rfl⟩
theorem wk_1067 : Cond.selects RX11 yX11_taken yX11_taken ∈ tl_L := List.mem_filter.mpr ⟨by decide +kernel, rfl⟩
theorem wk_1068 : Cond.code yX11_taken cX11_taken 11 (some .int) ∈ tl_L := List.mem_filter.mpr ⟨List.mem_of_getElem? (i := 1169) (by decide +kernel), rfl⟩
theorem wk_1073 : Cond.methodLink RL 96 yX12_taken ∈ tl_L := List.mem_filter.mpr ⟨by decide +kernel, rfl⟩
theorem wk_1074 : Cond.instanceMethod yX12_taken ∈ tl_L := List.mem_filter.mpr ⟨by decide +kernel, rfl⟩
theorem wk_1075 : Cond.selects RX12 yX12_taken yX12_taken ∈ tl_L := List.mem_filter.mpr ⟨by decide +kernel, rfl⟩
theorem wk_1076 : Cond.code yX12_taken cX12_taken 12 (some .int) ∈ tl_L := List.mem_filter.mpr ⟨List.mem_of_getElem? (i := 1955) (by decide +kernel), rfl⟩
theorem wk_1078 : Cond.methodLink RL 97 yX11_apart ∈ tl_L := List.mem_filter.mpr ⟨by decide +kernel, rfl⟩
theorem wk_1079 : Cond.instanceMethod yX11_apart ∈ tl_L := List.mem_filter.mpr ⟨by decide +kernel, rfl⟩
theorem wk_1080 : Cond.selects RX11 yX11_apart yX11_apart ∈ tl_L := List.mem_filter.mpr ⟨by decide +kernel, rfl⟩
theorem wk_1081 : Cond.code yX11_apart cX11_apart 8 (some .int) ∈ tl_L := List.mem_filter.mpr ⟨List.mem_of_getElem? (i := 1178) (by decide +kernel), rfl⟩
theorem wk_1087 : Cond.methodLink RL 100 yX12_apart ∈ tl_L := List.mem_filter.mpr ⟨by decide +kernel, rfl⟩
theorem wk_1088 : Cond.instanceMethod yX12_apart ∈ tl_L := List.mem_filter.mpr ⟨by decide +kernel, rfl⟩
theorem wk_1089 : Cond.selects RX12 yX12_apart yX12_apart ∈ tl_L := List.mem_filter.mpr ⟨by decide +kernel, rfl⟩
theorem wk_1090 : Cond.code yX12_apart cX12_apart 6 (some .int) ∈ tl_L := List.mem_filter.mpr ⟨List.mem_of_getElem? (i := 1960) (by decide +kernel), rfl⟩
theorem wk_1093 : Cond.methodLink RL 101 yX11_stuff ∈ tl_L := List.mem_filter.mpr ⟨by decide +kernel, rfl⟩
theorem wk_1094 : Cond.instanceMethod yX11_stuff ∈ tl_L := List.mem_filter.mpr ⟨by decide +kernel, rfl⟩
theorem wk_1095 : Cond.selects RX11 yX11_stuff yX11_stuff ∈ tl_L := List.mem_filter.mpr ⟨by decide +kernel, rfl⟩
theorem wk_1096 : Cond.code yX11_stuff cX11_stuff 5 (some .long) ∈ tl_L := List.mem_filter.mpr ⟨List.mem_of_getElem? (i := 1187) (by decide +kernel), rfl⟩
theorem wk_1120 : Cond.methodLink RL 104 yX12_stuff ∈ tl_L := List.mem_filter.mpr ⟨by decide +kernel, rfl⟩
theorem wk_1121 : Cond.instanceMethod yX12_stuff ∈ tl_L := List.mem_filter.mpr ⟨by decide +kernel, rfl⟩
theorem wk_1122 : Cond.selects RX12 yX12_stuff yX12_stuff ∈ tl_L := List.mem_filter.mpr ⟨by decide +kernel, rfl⟩
theorem wk_1123 : Cond.code yX12_stuff cX12_stuff 5 (some .long) ∈ tl_L := List.mem_filter.mpr ⟨List.mem_of_getElem? (i := 1966) (by decide +kernel), rfl⟩
theorem wk_1145 : Cond.methodLink RL 105 yX11_likeliest ∈ tl_L := List.mem_filter.mpr ⟨by decide +kernel, rfl⟩
theorem wk_1146 : Cond.instanceMethod yX11_likeliest ∈ tl_L := List.mem_filter.mpr ⟨by decide +kernel, rfl⟩
theorem wk_1147 : Cond.selects RX11 yX11_likeliest yX11_likeliest ∈ tl_L := List.mem_filter.mpr ⟨by decide +kernel, rfl⟩
theorem wk_1148 : Cond.code yX11_likeliest cX11_likeliest 11 (some .int) ∈ tl_L := List.mem_filter.mpr ⟨List.mem_of_getElem? (i := 1215) (by decide +kernel), rfl⟩
theorem wk_1149 : Cond.methodLink RL 108 yX12_likeliest ∈ tl_L := List.mem_filter.mpr ⟨by decide +kernel, rfl⟩
theorem wk_1150 : Cond.instanceMethod yX12_likeliest ∈ tl_L := List.mem_filter.mpr ⟨by decide +kernel, rfl⟩
theorem wk_1151 : Cond.selects RX12 yX12_likeliest yX12_likeliest ∈ tl_L := List.mem_filter.mpr ⟨by decide +kernel, rfl⟩
theorem wk_1152 : Cond.code yX12_likeliest cX12_likeliest 10 (some .int) ∈ tl_L := List.mem_filter.mpr ⟨List.mem_of_getElem? (i := 1991) (by decide +kernel), rfl⟩
theorem wk_1153 : Cond.methodLink RL 109 yX11_together ∈ tl_L := List.mem_filter.mpr ⟨by decide +kernel, rfl⟩
theorem wk_1154 : Cond.instanceMethod yX11_together ∈ tl_L := List.mem_filter.mpr ⟨by decide +kernel, rfl⟩
theorem wk_1155 : Cond.selects RX11 yX11_together yX11_together ∈ tl_L := List.mem_filter.mpr ⟨by decide +kernel, rfl⟩
theorem wk_1156 : Cond.code yX11_together cX11_together 9 (some .int) ∈ tl_L := List.mem_filter.mpr ⟨List.mem_of_getElem? (i := 1219) (by decide +kernel), rfl⟩
theorem wk_1169 : Cond.methodLink RL 112 yX12_together ∈ tl_L := List.mem_filter.mpr ⟨by decide +kernel, rfl⟩
theorem wk_1170 : Cond.instanceMethod yX12_together ∈ tl_L := List.mem_filter.mpr ⟨by decide +kernel, rfl⟩
theorem wk_1171 : Cond.selects RX12 yX12_together yX12_together ∈ tl_L := List.mem_filter.mpr ⟨by decide +kernel, rfl⟩
theorem wk_1172 : Cond.code yX12_together cX12_together 10 (some .int) ∈ tl_L := List.mem_filter.mpr ⟨List.mem_of_getElem? (i := 1995) (by decide +kernel), rfl⟩
theorem wk_1189 : Cond.methodLink RL 113 yX11_hour ∈ tl_L := List.mem_filter.mpr ⟨by decide +kernel, rfl⟩
theorem wk_1190 : Cond.instanceMethod yX11_hour ∈ tl_L := List.mem_filter.mpr ⟨by decide +kernel, rfl⟩
theorem wk_1191 : Cond.selects RX11 yX11_hour yX11_hour ∈ tl_L := List.mem_filter.mpr ⟨by decide +kernel, rfl⟩
theorem wk_1192 : Cond.code yX11_hour cX11_hour 8 (some .int) ∈ tl_L := List.mem_filter.mpr ⟨List.mem_of_getElem? (i := 1235) (by decide +kernel), rfl⟩
theorem wk_1197 : Cond.methodLink RL 116 yX12_hour ∈ tl_L := List.mem_filter.mpr ⟨by decide +kernel, rfl⟩
theorem wk_1198 : Cond.instanceMethod yX12_hour ∈ tl_L := List.mem_filter.mpr ⟨by decide +kernel, rfl⟩
theorem wk_1199 : Cond.selects RX12 yX12_hour yX12_hour ∈ tl_L := List.mem_filter.mpr ⟨by decide +kernel, rfl⟩
theorem wk_1200 : Cond.code yX12_hour cX12_hour 9 (some .int) ∈ tl_L := List.mem_filter.mpr ⟨List.mem_of_getElem? (i := 2015) (by decide +kernel), rfl⟩
theorem wk_1201 : Cond.methodLink RL 117 yX11_said ∈ tl_L := List.mem_filter.mpr ⟨by decide +kernel, rfl⟩
theorem wk_1202 : Cond.instanceMethod yX11_said ∈ tl_L := List.mem_filter.mpr ⟨by decide +kernel, rfl⟩
theorem wk_1203 : Cond.selects RX11 yX11_said yX11_said ∈ tl_L := List.mem_filter.mpr ⟨by decide +kernel, rfl⟩
theorem wk_1204 : Cond.code yX11_said cX11_said 4 (some .int) ∈ tl_L := List.mem_filter.mpr ⟨List.mem_of_getElem? (i := 1243) (by decide +kernel), rfl⟩
theorem wk_1215 : Cond.methodLink RL 120 yX12_said ∈ tl_L := List.mem_filter.mpr ⟨by decide +kernel, rfl⟩
theorem wk_1216 : Cond.instanceMethod yX12_said ∈ tl_L := List.mem_filter.mpr ⟨by decide +kernel, rfl⟩
theorem wk_1217 : Cond.selects RX12 yX12_said yX12_said ∈ tl_L := List.mem_filter.mpr ⟨by decide +kernel, rfl⟩
theorem wk_1218 : Cond.code yX12_said cX12_said 4 (some .int) ∈ tl_L := List.mem_filter.mpr ⟨List.mem_of_getElem? (i := 2019) (by decide +kernel), rfl⟩
theorem wk_1223 : Cond.methodLink RL 121 yX11_weeks ∈ tl_L := List.mem_filter.mpr ⟨by decide +kernel, rfl⟩
theorem wk_1224 : Cond.instanceMethod yX11_weeks ∈ tl_L := List.mem_filter.mpr ⟨by decide +kernel, rfl⟩
theorem wk_1225 : Cond.selects RX11 yX11_weeks yX11_weeks ∈ tl_L := List.mem_filter.mpr ⟨by decide +kernel, rfl⟩
theorem wk_1226 : Cond.code yX11_weeks cX11_weeks 12 (some .int) ∈ tl_L := List.mem_filter.mpr ⟨List.mem_of_getElem? (i := 1257) (by decide +kernel), rfl⟩
theorem wk_1227 : Cond.methodLink RL 125 yX12_weeks ∈ tl_L := List.mem_filter.mpr ⟨by decide +kernel, rfl⟩
theorem wk_1228 : Cond.instanceMethod yX12_weeks ∈ tl_L := List.mem_filter.mpr ⟨by decide +kernel, rfl⟩
theorem wk_1229 : Cond.selects RX12 yX12_weeks yX12_weeks ∈ tl_L := List.mem_filter.mpr ⟨by decide +kernel, rfl⟩
theorem wk_1230 : Cond.code yX12_weeks cX12_weeks 12 (some .int) ∈ tl_L := List.mem_filter.mpr ⟨List.mem_of_getElem? (i := 2027) (by decide +kernel), rfl⟩
theorem wk_1231 : Cond.methodLink RL 126 yX11_ripple ∈ tl_L := List.mem_filter.mpr ⟨by decide +kernel, rfl⟩
theorem wk_1232 : Cond.instanceMethod yX11_ripple ∈ tl_L := List.mem_filter.mpr ⟨by decide +kernel, rfl⟩
theorem wk_1233 : Cond.selects RX11 yX11_ripple yX11_ripple ∈ tl_L := List.mem_filter.mpr ⟨by decide +kernel, rfl⟩
theorem wk_1234 : Cond.code yX11_ripple cX11_ripple 5 (some .long) ∈ tl_L := List.mem_filter.mpr ⟨List.mem_of_getElem? (i := 1273) (by decide +kernel), rfl⟩
theorem wk_1250 : Cond.methodLink RL 129 yX12_ripple ∈ tl_L := List.mem_filter.mpr ⟨by decide +kernel, rfl⟩
theorem wk_1251 : Cond.instanceMethod yX12_ripple ∈ tl_L := List.mem_filter.mpr ⟨by decide +kernel, rfl⟩
theorem wk_1252 : Cond.selects RX12 yX12_ripple yX12_ripple ∈ tl_L := List.mem_filter.mpr ⟨by decide +kernel, rfl⟩
theorem wk_1253 : Cond.code yX12_ripple cX12_ripple 5 (some .long) ∈ tl_L := List.mem_filter.mpr ⟨List.mem_of_getElem? (i := 2031) (by decide +kernel), rfl⟩
theorem wk_1262 : Cond.methodLink RL 130 yX11_smooth ∈ tl_L := List.mem_filter.mpr ⟨by decide +kernel, rfl⟩
theorem wk_1263 : Cond.instanceMethod yX11_smooth ∈ tl_L := List.mem_filter.mpr ⟨by decide +kernel, rfl⟩
theorem wk_1264 : Cond.selects RX11 yX11_smooth yX11_smooth ∈ tl_L := List.mem_filter.mpr ⟨by decide +kernel, rfl⟩
theorem wk_1265 : Cond.code yX11_smooth cX11_smooth 7 (some .int) ∈ tl_L := List.mem_filter.mpr ⟨List.mem_of_getElem? (i := 1294) (by decide +kernel), rfl⟩
theorem wk_1270 : Cond.methodLink RL 133 yX12_smooth ∈ tl_L := List.mem_filter.mpr ⟨by decide +kernel, rfl⟩
theorem wk_1271 : Cond.instanceMethod yX12_smooth ∈ tl_L := List.mem_filter.mpr ⟨by decide +kernel, rfl⟩
theorem wk_1272 : Cond.selects RX12 yX12_smooth yX12_smooth ∈ tl_L := List.mem_filter.mpr ⟨by decide +kernel, rfl⟩
theorem wk_1273 : Cond.code yX12_smooth cX12_smooth 5 (some .int) ∈ tl_L := List.mem_filter.mpr ⟨List.mem_of_getElem? (i := 2043) (by decide +kernel), rfl⟩
theorem wk_1278 : Cond.methodLink RL 134 yX11_without ∈ tl_L := List.mem_filter.mpr ⟨by decide +kernel, rfl⟩
theorem wk_1279 : Cond.instanceMethod yX11_without ∈ tl_L := List.mem_filter.mpr ⟨by decide +kernel, rfl⟩
theorem wk_1280 : Cond.selects RX11 yX11_without yX11_without ∈ tl_L := List.mem_filter.mpr ⟨by decide +kernel, rfl⟩
theorem wk_1281 : Cond.code yX11_without cX11_without 4 (some .int) ∈ tl_L := List.mem_filter.mpr ⟨List.mem_of_getElem? (i := 1304) (by decide +kernel), rfl⟩
theorem wk_1282 : Cond.methodLink RL 137 yX12_without ∈ tl_L := List.mem_filter.mpr ⟨by decide +kernel, rfl⟩
theorem wk_1283 : Cond.instanceMethod yX12_without ∈ tl_L := List.mem_filter.mpr ⟨by decide +kernel, rfl⟩
theorem wk_1284 : Cond.selects RX12 yX12_without yX12_without ∈ tl_L := List.mem_filter.mpr ⟨by decide +kernel, rfl⟩
theorem wk_1285 : Cond.code yX12_without cX12_without 4 (some .int) ∈ tl_L := List.mem_filter.mpr ⟨List.mem_of_getElem? (i := 2051) (by decide +kernel), rfl⟩
theorem wk_1290 : Cond.methodLink RL 138 yX11_weightiest ∈ tl_L := List.mem_filter.mpr ⟨by decide +kernel, rfl⟩
theorem wk_1291 : Cond.instanceMethod yX11_weightiest ∈ tl_L := List.mem_filter.mpr ⟨by decide +kernel, rfl⟩
theorem wk_1292 : Cond.selects RX11 yX11_weightiest yX11_weightiest ∈ tl_L := List.mem_filter.mpr ⟨by decide +kernel, rfl⟩
theorem wk_1293 : Cond.code yX11_weightiest cX11_weightiest 8 (some .int) ∈ tl_L := List.mem_filter.mpr ⟨List.mem_of_getElem? (i := 1308) (by decide +kernel), rfl⟩
theorem wk_1294 : Cond.methodLink RL 141 yX12_weightiest ∈ tl_L := List.mem_filter.mpr ⟨by decide +kernel, rfl⟩
theorem wk_1295 : Cond.instanceMethod yX12_weightiest ∈ tl_L := List.mem_filter.mpr ⟨by decide +kernel, rfl⟩
theorem wk_1296 : Cond.selects RX12 yX12_weightiest yX12_weightiest ∈ tl_L := List.mem_filter.mpr ⟨by decide +kernel, rfl⟩
theorem wk_1297 : Cond.code yX12_weightiest cX12_weightiest 11 (some .int) ∈ tl_L := List.mem_filter.mpr ⟨List.mem_of_getElem? (i := 2059) (by decide +kernel), rfl⟩
theorem wk_1298 : Cond.methodLink RL 142 yX11_deepest ∈ tl_L := List.mem_filter.mpr ⟨by decide +kernel, rfl⟩
theorem wk_1299 : Cond.instanceMethod yX11_deepest ∈ tl_L := List.mem_filter.mpr ⟨by decide +kernel, rfl⟩
theorem wk_1300 : Cond.selects RX11 yX11_deepest yX11_deepest ∈ tl_L := List.mem_filter.mpr ⟨by decide +kernel, rfl⟩
theorem wk_1301 : Cond.code yX11_deepest cX11_deepest 10 (some .long) ∈ tl_L := List.mem_filter.mpr ⟨List.mem_of_getElem? (i := 1139) (by decide +kernel), rfl⟩
theorem wk_1303 : Cond.methodLink RL 145 yX12_deepest ∈ tl_L := List.mem_filter.mpr ⟨by decide +kernel, rfl⟩
theorem wk_1304 : Cond.instanceMethod yX12_deepest ∈ tl_L := List.mem_filter.mpr ⟨by decide +kernel, rfl⟩
theorem wk_1305 : Cond.selects RX12 yX12_deepest yX12_deepest ∈ tl_L := List.mem_filter.mpr ⟨by decide +kernel, rfl⟩
theorem wk_1306 : Cond.code yX12_deepest cX12_deepest 11 (some .long) ∈ tl_L := List.mem_filter.mpr ⟨List.mem_of_getElem? (i := 2063) (by decide +kernel), rfl⟩
theorem wk_1308 : Cond.methodLink RL 146 yX11_house ∈ tl_L := List.mem_filter.mpr ⟨by decide +kernel, rfl⟩
theorem wk_1309 : Cond.instanceMethod yX11_house ∈ tl_L := List.mem_filter.mpr ⟨by decide +kernel, rfl⟩
theorem wk_1310 : Cond.selects RX11 yX11_house yX11_house ∈ tl_L := List.mem_filter.mpr ⟨by decide +kernel, rfl⟩
theorem wk_1311 : Cond.code yX11_house cX11_house 4 (some .int) ∈ tl_L := List.mem_filter.mpr ⟨List.mem_of_getElem? (i := 1312) (by decide +kernel), rfl⟩
theorem wk_1312 : Cond.methodLink RL 149 yX12_house ∈ tl_L := List.mem_filter.mpr ⟨by decide +kernel, rfl⟩
theorem wk_1313 : Cond.instanceMethod yX12_house ∈ tl_L := List.mem_filter.mpr ⟨by decide +kernel, rfl⟩
theorem wk_1314 : Cond.selects RX12 yX12_house yX12_house ∈ tl_L := List.mem_filter.mpr ⟨by decide +kernel, rfl⟩
theorem wk_1315 : Cond.code yX12_house cX12_house 5 (some .int) ∈ tl_L := List.mem_filter.mpr ⟨List.mem_of_getElem? (i := 2068) (by decide +kernel), rfl⟩
theorem wk_1316 : Cond.methodLink RL 150 yX11_says ∈ tl_L := List.mem_filter.mpr ⟨by decide +kernel, rfl⟩
theorem wk_1317 : Cond.instanceMethod yX11_says ∈ tl_L := List.mem_filter.mpr ⟨by decide +kernel, rfl⟩
theorem wk_1318 : Cond.selects RX11 yX11_says yX11_says ∈ tl_L := List.mem_filter.mpr ⟨by decide +kernel, rfl⟩
theorem wk_1319 : Cond.code yX11_says cX11_says 3 (some .int) ∈ tl_L := List.mem_filter.mpr ⟨List.mem_of_getElem? (i := 1316) (by decide +kernel), rfl⟩
theorem wk_1324 : Cond.methodLink RL 153 yX12_says ∈ tl_L := List.mem_filter.mpr ⟨by decide +kernel, rfl⟩
theorem wk_1325 : Cond.instanceMethod yX12_says ∈ tl_L := List.mem_filter.mpr ⟨by decide +kernel, rfl⟩
theorem wk_1326 : Cond.selects RX12 yX12_says yX12_says ∈ tl_L := List.mem_filter.mpr ⟨by decide +kernel, rfl⟩
theorem wk_1327 : Cond.code yX12_says cX12_says 3 (some .int) ∈ tl_L := List.mem_filter.mpr ⟨List.mem_of_getElem? (i := 2072) (by decide +kernel), rfl⟩
theorem wk_1332 : Cond.methodLink RL 154 yX11_agreed ∈ tl_L := List.mem_filter.mpr ⟨by decide +kernel, rfl⟩
theorem wk_1333 : Cond.instanceMethod yX11_agreed ∈ tl_L := List.mem_filter.mpr ⟨by decide +kernel, rfl⟩
theorem wk_1334 : Cond.selects RX11 yX11_agreed yX11_agreed ∈ tl_L := List.mem_filter.mpr ⟨by decide +kernel, rfl⟩
theorem wk_1335 : Cond.code yX11_agreed cX11_agreed 3 (some .int) ∈ tl_L := List.mem_filter.mpr ⟨List.mem_of_getElem? (i := 1324) (by decide +kernel), rfl⟩
theorem wk_1340 : Cond.methodLink RL 157 yX12_agreed ∈ tl_L := List.mem_filter.mpr ⟨by decide +kernel, rfl⟩
theorem wk_1341 : Cond.instanceMethod yX12_agreed ∈ tl_L := List.mem_filter.mpr ⟨by decide +kernel, rfl⟩
theorem wk_1342 : Cond.selects RX12 yX12_agreed yX12_agreed ∈ tl_L := List.mem_filter.mpr ⟨by decide +kernel, rfl⟩
theorem wk_1343 : Cond.code yX12_agreed cX12_agreed 3 (some .int) ∈ tl_L := List.mem_filter.mpr ⟨List.mem_of_getElem? (i := 2080) (by decide +kernel), rfl⟩
theorem wk_1348 : Cond.methodLink RL 158 yX11_alone ∈ tl_L := List.mem_filter.mpr ⟨by decide +kernel, rfl⟩
theorem wk_1349 : Cond.instanceMethod yX11_alone ∈ tl_L := List.mem_filter.mpr ⟨by decide +kernel, rfl⟩
theorem wk_1350 : Cond.selects RX11 yX11_alone yX11_alone ∈ tl_L := List.mem_filter.mpr ⟨by decide +kernel, rfl⟩
theorem wk_1351 : Cond.code yX11_alone cX11_alone 4 (some .int) ∈ tl_L := List.mem_filter.mpr ⟨List.mem_of_getElem? (i := 1332) (by decide +kernel), rfl⟩
theorem wk_1352 : Cond.methodLink RL 161 yX12_alone ∈ tl_L := List.mem_filter.mpr ⟨by decide +kernel, rfl⟩
theorem wk_1353 : Cond.instanceMethod yX12_alone ∈ tl_L := List.mem_filter.mpr ⟨by decide +kernel, rfl⟩
theorem wk_1354 : Cond.selects RX12 yX12_alone yX12_alone ∈ tl_L := List.mem_filter.mpr ⟨by decide +kernel, rfl⟩
theorem wk_1355 : Cond.code yX12_alone cX12_alone 3 (some .int) ∈ tl_L := List.mem_filter.mpr ⟨List.mem_of_getElem? (i := 2088) (by decide +kernel), rfl⟩
theorem wk_1356 : Cond.methodLink RL 162 yX11_odd ∈ tl_L := List.mem_filter.mpr ⟨by decide +kernel, rfl⟩
theorem wk_1357 : Cond.instanceMethod yX11_odd ∈ tl_L := List.mem_filter.mpr ⟨by decide +kernel, rfl⟩
theorem wk_1358 : Cond.selects RX11 yX11_odd yX11_odd ∈ tl_L := List.mem_filter.mpr ⟨by decide +kernel, rfl⟩
theorem wk_1359 : Cond.code yX11_odd cX11_odd 5 (some .int) ∈ tl_L := List.mem_filter.mpr ⟨List.mem_of_getElem? (i := 1261) (by decide +kernel), rfl⟩
theorem wk_1368 : Cond.methodLink RL 165 yX12_odd ∈ tl_L := List.mem_filter.mpr ⟨by decide +kernel, rfl⟩
theorem wk_1369 : Cond.instanceMethod yX12_odd ∈ tl_L := List.mem_filter.mpr ⟨by decide +kernel, rfl⟩
theorem wk_1370 : Cond.selects RX12 yX12_odd yX12_odd ∈ tl_L := List.mem_filter.mpr ⟨by decide +kernel, rfl⟩
theorem wk_1371 : Cond.code yX12_odd cX12_odd 9 (some .int) ∈ tl_L := List.mem_filter.mpr ⟨List.mem_of_getElem? (i := 2092) (by decide +kernel), rfl⟩
theorem wk_1372 : Cond.methodLink RL 166 yX11_candidate ∈ tl_L := List.mem_filter.mpr ⟨by decide +kernel, rfl⟩
theorem wk_1373 : Cond.instanceMethod yX11_candidate ∈ tl_L := List.mem_filter.mpr ⟨by decide +kernel, rfl⟩
theorem wk_1374 : Cond.selects RX11 yX11_candidate yX11_candidate ∈ tl_L := List.mem_filter.mpr ⟨by decide +kernel, rfl⟩
theorem wk_1375 : Cond.code yX11_candidate cX11_candidate 3 (some .int) ∈ tl_L := List.mem_filter.mpr ⟨List.mem_of_getElem? (i := 1336) (by decide +kernel), rfl⟩
theorem wk_1376 : Cond.methodLink RL 169 yX12_candidate ∈ tl_L := List.mem_filter.mpr ⟨by decide +kernel, rfl⟩
theorem wk_1377 : Cond.instanceMethod yX12_candidate ∈ tl_L := List.mem_filter.mpr ⟨by decide +kernel, rfl⟩
theorem wk_1378 : Cond.selects RX12 yX12_candidate yX12_candidate ∈ tl_L := List.mem_filter.mpr ⟨by decide +kernel, rfl⟩
theorem wk_1379 : Cond.code yX12_candidate cX12_candidate 4 (some .int) ∈ tl_L := List.mem_filter.mpr ⟨List.mem_of_getElem? (i := 2096) (by decide +kernel), rfl⟩
theorem wk_1380 : Cond.methodLink RL 170 yX11_next ∈ tl_L := List.mem_filter.mpr ⟨by decide +kernel, rfl⟩
theorem wk_1381 : Cond.instanceMethod yX11_next ∈ tl_L := List.mem_filter.mpr ⟨by decide +kernel, rfl⟩
theorem wk_1382 : Cond.selects RX11 yX11_next yX11_next ∈ tl_L := List.mem_filter.mpr ⟨by decide +kernel, rfl⟩
theorem wk_1383 : Cond.code yX11_next cX11_next 12 (some .long) ∈ tl_L := List.mem_filter.mpr ⟨List.mem_of_getElem? (i := 1340) (by decide +kernel), rfl⟩
theorem wk_1401 : Cond.methodLink RL 173 yX12_next ∈ tl_L := List.mem_filter.mpr ⟨by decide +kernel, rfl⟩
theorem wk_1402 : Cond.instanceMethod yX12_next ∈ tl_L := List.mem_filter.mpr ⟨by decide +kernel, rfl⟩
theorem wk_1403 : Cond.selects RX12 yX12_next yX12_next ∈ tl_L := List.mem_filter.mpr ⟨by decide +kernel, rfl⟩
theorem wk_1404 : Cond.code yX12_next cX12_next 13 (some .long) ∈ tl_L := List.mem_filter.mpr ⟨List.mem_of_getElem? (i := 2100) (by decide +kernel), rfl⟩
theorem wk_1414 : Cond.methodLink RL 174 yX11_told ∈ tl_L := List.mem_filter.mpr ⟨by decide +kernel, rfl⟩
theorem wk_1415 : Cond.instanceMethod yX11_told ∈ tl_L := List.mem_filter.mpr ⟨by decide +kernel, rfl⟩
theorem wk_1416 : Cond.selects RX11 yX11_told yX11_told ∈ tl_L := List.mem_filter.mpr ⟨by decide +kernel, rfl⟩
theorem wk_1417 : Cond.code yX11_told cX11_told 4 (some .int) ∈ tl_L := List.mem_filter.mpr ⟨List.mem_of_getElem? (i := 1361) (by decide +kernel), rfl⟩
theorem wk_1418 : Cond.methodLink RL 177 yX12_told ∈ tl_L := List.mem_filter.mpr ⟨by decide +kernel, rfl⟩
theorem wk_1419 : Cond.instanceMethod yX12_told ∈ tl_L := List.mem_filter.mpr ⟨by decide +kernel, rfl⟩
theorem wk_1420 : Cond.selects RX12 yX12_told yX12_told ∈ tl_L := List.mem_filter.mpr ⟨by decide +kernel, rfl⟩
theorem wk_1421 : Cond.code yX12_told cX12_told 4 (some .int) ∈ tl_L := List.mem_filter.mpr ⟨List.mem_of_getElem? (i := 2113) (by decide +kernel), rfl⟩
theorem wk_1422 : Cond.methodLink RL 178 yX11_gives ∈ tl_L := List.mem_filter.mpr ⟨by decide +kernel, rfl⟩
theorem wk_1423 : Cond.instanceMethod yX11_gives ∈ tl_L := List.mem_filter.mpr ⟨by decide +kernel, rfl⟩
theorem wk_1424 : Cond.selects RX11 yX11_gives yX11_gives ∈ tl_L := List.mem_filter.mpr ⟨by decide +kernel, rfl⟩
theorem wk_1425 : Cond.code yX11_gives cX11_gives 3 (some .int) ∈ tl_L := List.mem_filter.mpr ⟨List.mem_of_getElem? (i := 1365) (by decide +kernel), rfl⟩
theorem wk_1435 : Cond.methodLink RL 181 yX12_gives ∈ tl_L := List.mem_filter.mpr ⟨by decide +kernel, rfl⟩
theorem wk_1436 : Cond.instanceMethod yX12_gives ∈ tl_L := List.mem_filter.mpr ⟨by decide +kernel, rfl⟩
theorem wk_1437 : Cond.selects RX12 yX12_gives yX12_gives ∈ tl_L := List.mem_filter.mpr ⟨by decide +kernel, rfl⟩
theorem wk_1438 : Cond.code yX12_gives cX12_gives 2 (some .int) ∈ tl_L := List.mem_filter.mpr ⟨List.mem_of_getElem? (i := 2117) (by decide +kernel), rfl⟩
theorem wk_1444 : Cond.methodLink RL 182 yX11_brief ∈ tl_L := List.mem_filter.mpr ⟨by decide +kernel, rfl⟩
theorem wk_1445 : Cond.instanceMethod yX11_brief ∈ tl_L := List.mem_filter.mpr ⟨by decide +kernel, rfl⟩
theorem wk_1446 : Cond.selects RX11 yX11_brief yX11_brief ∈ tl_L := List.mem_filter.mpr ⟨by decide +kernel, rfl⟩
theorem wk_1447 : Cond.code yX11_brief cX11_brief 2 (some .int) ∈ tl_L := List.mem_filter.mpr ⟨List.mem_of_getElem? (i := 1381) (by decide +kernel), rfl⟩
theorem wk_1456 : Cond.methodLink RL 185 yX12_brief ∈ tl_L := List.mem_filter.mpr ⟨by decide +kernel, rfl⟩
theorem wk_1457 : Cond.instanceMethod yX12_brief ∈ tl_L := List.mem_filter.mpr ⟨by decide +kernel, rfl⟩
theorem wk_1458 : Cond.selects RX12 yX12_brief yX12_brief ∈ tl_L := List.mem_filter.mpr ⟨by decide +kernel, rfl⟩
theorem wk_1459 : Cond.code yX12_brief cX12_brief 3 (some .int) ∈ tl_L := List.mem_filter.mpr ⟨List.mem_of_getElem? (i := 2126) (by decide +kernel), rfl⟩
theorem wk_1465 : Cond.methodLink RL 186 yX11_fewest ∈ tl_L := List.mem_filter.mpr ⟨by decide +kernel, rfl⟩
theorem wk_1466 : Cond.instanceMethod yX11_fewest ∈ tl_L := List.mem_filter.mpr ⟨by decide +kernel, rfl⟩
theorem wk_1467 : Cond.selects RX11 yX11_fewest yX11_fewest ∈ tl_L := List.mem_filter.mpr ⟨by decide +kernel, rfl⟩
theorem wk_1468 : Cond.code yX11_fewest cX11_fewest 12 (some .int) ∈ tl_L := List.mem_filter.mpr ⟨List.mem_of_getElem? (i := 1393) (by decide +kernel), rfl⟩
theorem wk_1480 : Cond.methodLink RL 189 yX12_fewest ∈ tl_L := List.mem_filter.mpr ⟨by decide +kernel, rfl⟩
theorem wk_1481 : Cond.instanceMethod yX12_fewest ∈ tl_L := List.mem_filter.mpr ⟨by decide +kernel, rfl⟩
theorem wk_1482 : Cond.selects RX12 yX12_fewest yX12_fewest ∈ tl_L := List.mem_filter.mpr ⟨by decide +kernel, rfl⟩
theorem wk_1483 : Cond.code yX12_fewest cX12_fewest 7 (some .int) ∈ tl_L := List.mem_filter.mpr ⟨List.mem_of_getElem? (i := 2135) (by decide +kernel), rfl⟩
theorem wk_1487 : Cond.methodLink RL 190 yX11_count ∈ tl_L := List.mem_filter.mpr ⟨by decide +kernel, rfl⟩
theorem wk_1488 : Cond.instanceMethod yX11_count ∈ tl_L := List.mem_filter.mpr ⟨by decide +kernel, rfl⟩
theorem wk_1489 : Cond.selects RX11 yX11_count yX11_count ∈ tl_L := List.mem_filter.mpr ⟨by decide +kernel, rfl⟩
theorem wk_1490 : Cond.code yX11_count cX11_count 2 (some .int) ∈ tl_L := List.mem_filter.mpr ⟨List.mem_of_getElem? (i := 1407) (by decide +kernel), rfl⟩
theorem wk_1491 : Cond.methodLink RL 193 yX12_count ∈ tl_L := List.mem_filter.mpr ⟨by decide +kernel, rfl⟩
theorem wk_1492 : Cond.instanceMethod yX12_count ∈ tl_L := List.mem_filter.mpr ⟨by decide +kernel, rfl⟩
theorem wk_1493 : Cond.selects RX12 yX12_count yX12_count ∈ tl_L := List.mem_filter.mpr ⟨by decide +kernel, rfl⟩
theorem wk_1494 : Cond.code yX12_count cX12_count 4 (some .int) ∈ tl_L := List.mem_filter.mpr ⟨List.mem_of_getElem? (i := 2142) (by decide +kernel), rfl⟩
theorem wk_1495 : Cond.methodLink RL 194 yX11_image ∈ tl_L := List.mem_filter.mpr ⟨by decide +kernel, rfl⟩
theorem wk_1496 : Cond.instanceMethod yX11_image ∈ tl_L := List.mem_filter.mpr ⟨by decide +kernel, rfl⟩
theorem wk_1497 : Cond.selects RX11 yX11_image yX11_image ∈ tl_L := List.mem_filter.mpr ⟨by decide +kernel, rfl⟩
theorem wk_1498 : Cond.code yX11_image cX11_image 2 (some .int) ∈ tl_L := List.mem_filter.mpr ⟨List.mem_of_getElem? (i := 1411) (by decide +kernel), rfl⟩
theorem wk_1516 : Cond.methodLink RL 197 yX12_image ∈ tl_L := List.mem_filter.mpr ⟨by decide +kernel, rfl⟩
theorem wk_1517 : Cond.instanceMethod yX12_image ∈ tl_L := List.mem_filter.mpr ⟨by decide +kernel, rfl⟩
theorem wk_1518 : Cond.selects RX12 yX12_image yX12_image ∈ tl_L := List.mem_filter.mpr ⟨by decide +kernel, rfl⟩
theorem wk_1519 : Cond.code yX12_image cX12_image 3 (some .int) ∈ tl_L := List.mem_filter.mpr ⟨List.mem_of_getElem? (i := 2146) (by decide +kernel), rfl⟩
theorem wk_1520 : Cond.methodLink RL 198 yX11_back ∈ tl_L := List.mem_filter.mpr ⟨by decide +kernel, rfl⟩
theorem wk_1521 : Cond.instanceMethod yX11_back ∈ tl_L := List.mem_filter.mpr ⟨by decide +kernel, rfl⟩
theorem wk_1522 : Cond.selects RX11 yX11_back yX11_back ∈ tl_L := List.mem_filter.mpr ⟨by decide +kernel, rfl⟩
theorem wk_1523 : Cond.code yX11_back cX11_back 2 (some .int) ∈ tl_L := List.mem_filter.mpr ⟨List.mem_of_getElem? (i := 1433) (by decide +kernel), rfl⟩
theorem wk_1524 : Cond.methodLink RL 201 yX12_back ∈ tl_L := List.mem_filter.mpr ⟨by decide +kernel, rfl⟩
theorem wk_1525 : Cond.instanceMethod yX12_back ∈ tl_L := List.mem_filter.mpr ⟨by decide +kernel, rfl⟩
theorem wk_1526 : Cond.selects RX12 yX12_back yX12_back ∈ tl_L := List.mem_filter.mpr ⟨by decide +kernel, rfl⟩
theorem wk_1527 : Cond.code yX12_back cX12_back 3 (some .int) ∈ tl_L := List.mem_filter.mpr ⟨List.mem_of_getElem? (i := 2150) (by decide +kernel), rfl⟩
theorem lk_L_100 : tl_kV RL 100 RX12 yX12_apart cX12_apart 6 (some .int) 3 := ⟨wk_1090, wk_1087, wk_1088, wk_1089, wk_5, ⟨by decide +kernel, by decide +kernel, by decide +kernel⟩⟩
theorem lk_L_101 : tl_kV RL 101 RX11 yX11_stuff cX11_stuff 5 (some .long) 4 := ⟨wk_1096, wk_1093, wk_1094, wk_1095, wk_2, ⟨by decide +kernel, by decide +kernel, by decide +kernel⟩⟩
theorem lk_L_104 : tl_kV RL 104 RX12 yX12_stuff cX12_stuff 5 (some .long) 4 := ⟨wk_1123, wk_1120, wk_1121, wk_1122, wk_5, ⟨by decide +kernel, by decide +kernel, by decide +kernel⟩⟩
theorem lk_L_105 : tl_kV RL 105 RX11 yX11_likeliest cX11_likeliest 11 (some .int) 2 := ⟨wk_1148, wk_1145, wk_1146, wk_1147, wk_2, ⟨by decide +kernel, by decide +kernel, by decide +kernel⟩⟩
theorem lk_L_108 : tl_kV RL 108 RX12 yX12_likeliest cX12_likeliest 10 (some .int) 2 := ⟨wk_1152, wk_1149, wk_1150, wk_1151, wk_5, ⟨by decide +kernel, by decide +kernel, by decide +kernel⟩⟩
theorem lk_L_109 : tl_kV RL 109 RX11 yX11_together cX11_together 9 (some .int) 4 := ⟨wk_1156, wk_1153, wk_1154, wk_1155, wk_2, ⟨by decide +kernel, by decide +kernel, by decide +kernel⟩⟩
theorem lk_L_112 : tl_kV RL 112 RX12 yX12_together cX12_together 10 (some .int) 4 := ⟨wk_1172, wk_1169, wk_1170, wk_1171, wk_5, ⟨by decide +kernel, by decide +kernel, by decide +kernel⟩⟩
theorem lk_L_113 : tl_kV RL 113 RX11 yX11_hour cX11_hour 8 (some .int) 3 := ⟨wk_1192, wk_1189, wk_1190, wk_1191, wk_2, ⟨by decide +kernel, by decide +kernel, by decide +kernel⟩⟩
theorem lk_L_116 : tl_kV RL 116 RX12 yX12_hour cX12_hour 9 (some .int) 3 := ⟨wk_1200, wk_1197, wk_1198, wk_1199, wk_5, ⟨by decide +kernel, by decide +kernel, by decide +kernel⟩⟩
theorem lk_L_117 : tl_kV RL 117 RX11 yX11_said cX11_said 4 (some .int) 3 := ⟨wk_1204, wk_1201, wk_1202, wk_1203, wk_2, ⟨by decide +kernel, by decide +kernel, by decide +kernel⟩⟩
theorem lk_L_12 : tl_kI RL 12 yX12_init cX12_init 2 0 := ⟨wk_147, wk_145, wk_146, wk_5, rfl, ⟨by decide +kernel, by decide +kernel, by decide +kernel⟩⟩
theorem lk_L_120 : tl_kV RL 120 RX12 yX12_said cX12_said 4 (some .int) 3 := ⟨wk_1218, wk_1215, wk_1216, wk_1217, wk_5, ⟨by decide +kernel, by decide +kernel, by decide +kernel⟩⟩
theorem lk_L_121 : tl_kV RL 121 RX11 yX11_weeks cX11_weeks 12 (some .int) 6 := ⟨wk_1226, wk_1223, wk_1224, wk_1225, wk_2, ⟨by decide +kernel, by decide +kernel, by decide +kernel⟩⟩
theorem lk_L_125 : tl_kV RL 125 RX12 yX12_weeks cX12_weeks 12 (some .int) 6 := ⟨wk_1230, wk_1227, wk_1228, wk_1229, wk_5, ⟨by decide +kernel, by decide +kernel, by decide +kernel⟩⟩
theorem lk_L_126 : tl_kV RL 126 RX11 yX11_ripple cX11_ripple 5 (some .long) 3 := ⟨wk_1234, wk_1231, wk_1232, wk_1233, wk_2, ⟨by decide +kernel, by decide +kernel, by decide +kernel⟩⟩
theorem lk_L_129 : tl_kV RL 129 RX12 yX12_ripple cX12_ripple 5 (some .long) 3 := ⟨wk_1253, wk_1250, wk_1251, wk_1252, wk_5, ⟨by decide +kernel, by decide +kernel, by decide +kernel⟩⟩
theorem lk_L_13 : tl_kV RL 13 RX11 yX11_clock cX11_clock 2 (some .boolean) 1 := ⟨wk_186, wk_183, wk_184, wk_185, wk_2, ⟨by decide +kernel, by decide +kernel, by decide +kernel⟩⟩
theorem lk_L_130 : tl_kV RL 130 RX11 yX11_smooth cX11_smooth 7 (some .int) 2 := ⟨wk_1265, wk_1262, wk_1263, wk_1264, wk_2, ⟨by decide +kernel, by decide +kernel, by decide +kernel⟩⟩
theorem lk_L_133 : tl_kV RL 133 RX12 yX12_smooth cX12_smooth 5 (some .int) 2 := ⟨wk_1273, wk_1270, wk_1271, wk_1272, wk_5, ⟨by decide +kernel, by decide +kernel, by decide +kernel⟩⟩
theorem lk_L_134 : tl_kV RL 134 RX11 yX11_without cX11_without 4 (some .int) 3 := ⟨wk_1281, wk_1278, wk_1279, wk_1280, wk_2, ⟨by decide +kernel, by decide +kernel, by decide +kernel⟩⟩
theorem lk_L_137 : tl_kV RL 137 RX12 yX12_without cX12_without 4 (some .int) 3 := ⟨wk_1285, wk_1282, wk_1283, wk_1284, wk_5, ⟨by decide +kernel, by decide +kernel, by decide +kernel⟩⟩
theorem lk_L_138 : tl_kV RL 138 RX11 yX11_weightiest cX11_weightiest 8 (some .int) 2 := ⟨wk_1293, wk_1290, wk_1291, wk_1292, wk_2, ⟨by decide +kernel, by decide +kernel, by decide +kernel⟩⟩
theorem lk_L_141 : tl_kV RL 141 RX12 yX12_weightiest cX12_weightiest 11 (some .int) 2 := ⟨wk_1297, wk_1294, wk_1295, wk_1296, wk_5, ⟨by decide +kernel, by decide +kernel, by decide +kernel⟩⟩
theorem lk_L_142 : tl_kV RL 142 RX11 yX11_deepest cX11_deepest 10 (some .long) 3 := ⟨wk_1301, wk_1298, wk_1299, wk_1300, wk_2, ⟨by decide +kernel, by decide +kernel, by decide +kernel⟩⟩
theorem lk_L_145 : tl_kV RL 145 RX12 yX12_deepest cX12_deepest 11 (some .long) 3 := ⟨wk_1306, wk_1303, wk_1304, wk_1305, wk_5, ⟨by decide +kernel, by decide +kernel, by decide +kernel⟩⟩
theorem lk_L_146 : tl_kV RL 146 RX11 yX11_house cX11_house 4 (some .int) 3 := ⟨wk_1311, wk_1308, wk_1309, wk_1310, wk_2, ⟨by decide +kernel, by decide +kernel, by decide +kernel⟩⟩
theorem lk_L_149 : tl_kV RL 149 RX12 yX12_house cX12_house 5 (some .int) 3 := ⟨wk_1315, wk_1312, wk_1313, wk_1314, wk_5, ⟨by decide +kernel, by decide +kernel, by decide +kernel⟩⟩
theorem lk_L_150 : tl_kV RL 150 RX11 yX11_says cX11_says 3 (some .int) 2 := ⟨wk_1319, wk_1316, wk_1317, wk_1318, wk_2, ⟨by decide +kernel, by decide +kernel, by decide +kernel⟩⟩
theorem lk_L_153 : tl_kV RL 153 RX12 yX12_says cX12_says 3 (some .int) 2 := ⟨wk_1327, wk_1324, wk_1325, wk_1326, wk_5, ⟨by decide +kernel, by decide +kernel, by decide +kernel⟩⟩
theorem lk_L_154 : tl_kV RL 154 RX11 yX11_agreed cX11_agreed 3 (some .int) 1 := ⟨wk_1335, wk_1332, wk_1333, wk_1334, wk_2, ⟨by decide +kernel, by decide +kernel, by decide +kernel⟩⟩
theorem lk_L_157 : tl_kV RL 157 RX12 yX12_agreed cX12_agreed 3 (some .int) 1 := ⟨wk_1343, wk_1340, wk_1341, wk_1342, wk_5, ⟨by decide +kernel, by decide +kernel, by decide +kernel⟩⟩
theorem lk_L_158 : tl_kV RL 158 RX11 yX11_alone cX11_alone 4 (some .int) 1 := ⟨wk_1351, wk_1348, wk_1349, wk_1350, wk_2, ⟨by decide +kernel, by decide +kernel, by decide +kernel⟩⟩
theorem lk_L_161 : tl_kV RL 161 RX12 yX12_alone cX12_alone 3 (some .int) 1 := ⟨wk_1355, wk_1352, wk_1353, wk_1354, wk_5, ⟨by decide +kernel, by decide +kernel, by decide +kernel⟩⟩
theorem lk_L_162 : tl_kV RL 162 RX11 yX11_odd cX11_odd 5 (some .int) 2 := ⟨wk_1359, wk_1356, wk_1357, wk_1358, wk_2, ⟨by decide +kernel, by decide +kernel, by decide +kernel⟩⟩
theorem lk_L_165 : tl_kV RL 165 RX12 yX12_odd cX12_odd 9 (some .int) 2 := ⟨wk_1371, wk_1368, wk_1369, wk_1370, wk_5, ⟨by decide +kernel, by decide +kernel, by decide +kernel⟩⟩
theorem lk_L_166 : tl_kV RL 166 RX11 yX11_candidate cX11_candidate 3 (some .int) 2 := ⟨wk_1375, wk_1372, wk_1373, wk_1374, wk_2, ⟨by decide +kernel, by decide +kernel, by decide +kernel⟩⟩
theorem lk_L_169 : tl_kV RL 169 RX12 yX12_candidate cX12_candidate 4 (some .int) 2 := ⟨wk_1379, wk_1376, wk_1377, wk_1378, wk_5, ⟨by decide +kernel, by decide +kernel, by decide +kernel⟩⟩
theorem lk_L_17 : tl_kV RL 17 RX12 yX12_clock cX12_clock 2 (some .boolean) 1 := ⟨wk_196, wk_193, wk_194, wk_195, wk_5, ⟨by decide +kernel, by decide +kernel, by decide +kernel⟩⟩
theorem lk_L_170 : tl_kV RL 170 RX11 yX11_next cX11_next 12 (some .long) 3 := ⟨wk_1383, wk_1380, wk_1381, wk_1382, wk_2, ⟨by decide +kernel, by decide +kernel, by decide +kernel⟩⟩
theorem lk_L_173 : tl_kV RL 173 RX12 yX12_next cX12_next 13 (some .long) 3 := ⟨wk_1404, wk_1401, wk_1402, wk_1403, wk_5, ⟨by decide +kernel, by decide +kernel, by decide +kernel⟩⟩
theorem lk_L_174 : tl_kV RL 174 RX11 yX11_told cX11_told 4 (some .int) 2 := ⟨wk_1417, wk_1414, wk_1415, wk_1416, wk_2, ⟨by decide +kernel, by decide +kernel, by decide +kernel⟩⟩
theorem lk_L_177 : tl_kV RL 177 RX12 yX12_told cX12_told 4 (some .int) 2 := ⟨wk_1421, wk_1418, wk_1419, wk_1420, wk_5, ⟨by decide +kernel, by decide +kernel, by decide +kernel⟩⟩
theorem lk_L_178 : tl_kV RL 178 RX11 yX11_gives cX11_gives 3 (some .int) 1 := ⟨wk_1425, wk_1422, wk_1423, wk_1424, wk_2, ⟨by decide +kernel, by decide +kernel, by decide +kernel⟩⟩
theorem lk_L_18 : tl_kV RL 18 RX11 yX11_row cX11_row 3 (some .int) 2 := ⟨wk_204, wk_201, wk_202, wk_203, wk_2, ⟨by decide +kernel, by decide +kernel, by decide +kernel⟩⟩
theorem lk_L_181 : tl_kV RL 181 RX12 yX12_gives cX12_gives 2 (some .int) 1 := ⟨wk_1438, wk_1435, wk_1436, wk_1437, wk_5, ⟨by decide +kernel, by decide +kernel, by decide +kernel⟩⟩
theorem lk_L_182 : tl_kV RL 182 RX11 yX11_brief cX11_brief 2 (some .int) 1 := ⟨wk_1447, wk_1444, wk_1445, wk_1446, wk_2, ⟨by decide +kernel, by decide +kernel, by decide +kernel⟩⟩
theorem lk_L_185 : tl_kV RL 185 RX12 yX12_brief cX12_brief 3 (some .int) 1 := ⟨wk_1459, wk_1456, wk_1457, wk_1458, wk_5, ⟨by decide +kernel, by decide +kernel, by decide +kernel⟩⟩
theorem lk_L_186 : tl_kV RL 186 RX11 yX11_fewest cX11_fewest 12 (some .int) 2 := ⟨wk_1468, wk_1465, wk_1466, wk_1467, wk_2, ⟨by decide +kernel, by decide +kernel, by decide +kernel⟩⟩
theorem lk_L_189 : tl_kV RL 189 RX12 yX12_fewest cX12_fewest 7 (some .int) 2 := ⟨wk_1483, wk_1480, wk_1481, wk_1482, wk_5, ⟨by decide +kernel, by decide +kernel, by decide +kernel⟩⟩
theorem lk_L_190 : tl_kV RL 190 RX11 yX11_count cX11_count 2 (some .int) 1 := ⟨wk_1490, wk_1487, wk_1488, wk_1489, wk_2, ⟨by decide +kernel, by decide +kernel, by decide +kernel⟩⟩
theorem lk_L_193 : tl_kV RL 193 RX12 yX12_count cX12_count 4 (some .int) 1 := ⟨wk_1494, wk_1491, wk_1492, wk_1493, wk_5, ⟨by decide +kernel, by decide +kernel, by decide +kernel⟩⟩
theorem lk_L_194 : tl_kV RL 194 RX11 yX11_image cX11_image 2 (some .int) 1 := ⟨wk_1498, wk_1495, wk_1496, wk_1497, wk_2, ⟨by decide +kernel, by decide +kernel, by decide +kernel⟩⟩
theorem lk_L_197 : tl_kV RL 197 RX12 yX12_image cX12_image 3 (some .int) 1 := ⟨wk_1519, wk_1516, wk_1517, wk_1518, wk_5, ⟨by decide +kernel, by decide +kernel, by decide +kernel⟩⟩
theorem lk_L_198 : tl_kV RL 198 RX11 yX11_back cX11_back 2 (some .int) 1 := ⟨wk_1523, wk_1520, wk_1521, wk_1522, wk_2, ⟨by decide +kernel, by decide +kernel, by decide +kernel⟩⟩
theorem lk_L_201 : tl_kV RL 201 RX12 yX12_back cX12_back 3 (some .int) 1 := ⟨wk_1527, wk_1524, wk_1525, wk_1526, wk_5, ⟨by decide +kernel, by decide +kernel, by decide +kernel⟩⟩
theorem lk_L_22 : tl_kV RL 22 RX12 yX12_row cX12_row 5 (some .int) 2 := ⟨wk_220, wk_217, wk_218, wk_219, wk_5, ⟨by decide +kernel, by decide +kernel, by decide +kernel⟩⟩
theorem lk_L_23 : tl_kV RL 23 RX11 yX11_raw cX11_raw 5 (some .int) 3 := ⟨wk_226, wk_223, wk_224, wk_225, wk_2, ⟨by decide +kernel, by decide +kernel, by decide +kernel⟩⟩
theorem lk_L_27 : tl_kV RL 27 RX12 yX12_raw cX12_raw 5 (some .int) 3 := ⟨wk_245, wk_242, wk_243, wk_244, wk_5, ⟨by decide +kernel, by decide +kernel, by decide +kernel⟩⟩
theorem lk_L_28 : tl_kV RL 28 RX11 yX11_read cX11_read 4 (some .int) 2 := ⟨wk_259, wk_256, wk_257, wk_258, wk_2, ⟨by decide +kernel, by decide +kernel, by decide +kernel⟩⟩
theorem lk_L_31 : tl_kV RL 31 RX12 yX12_read cX12_read 3 (some .int) 2 := ⟨wk_270, wk_267, wk_268, wk_269, wk_5, ⟨by decide +kernel, by decide +kernel, by decide +kernel⟩⟩
theorem lk_L_32 : tl_kV RL 32 RX11 yX11_slip cX11_slip 5 (some .int) 4 := ⟨wk_282, wk_279, wk_280, wk_281, wk_2, ⟨by decide +kernel, by decide +kernel, by decide +kernel⟩⟩
theorem lk_L_36 : tl_kV RL 36 RX12 yX12_slip cX12_slip 6 (some .int) 4 := ⟨wk_300, wk_297, wk_298, wk_299, wk_5, ⟨by decide +kernel, by decide +kernel, by decide +kernel⟩⟩
theorem lk_L_37 : tl_kV RL 37 RX11 yX11_anew cX11_anew 4 (some .int) 2 := ⟨wk_306, wk_303, wk_304, wk_305, wk_2, ⟨by decide +kernel, by decide +kernel, by decide +kernel⟩⟩
theorem lk_L_40 : tl_kV RL 40 RX12 yX12_anew cX12_anew 4 (some .int) 2 := ⟨wk_310, wk_307, wk_308, wk_309, wk_5, ⟨by decide +kernel, by decide +kernel, by decide +kernel⟩⟩
theorem lk_L_41 : tl_kV RL 41 RX11 yX11_line cX11_line 4 (some .int) 3 := ⟨wk_314, wk_311, wk_312, wk_313, wk_2, ⟨by decide +kernel, by decide +kernel, by decide +kernel⟩⟩
theorem lk_L_44 : tl_kV RL 44 RX12 yX12_line cX12_line 5 (some .int) 3 := ⟨wk_324, wk_321, wk_322, wk_323, wk_5, ⟨by decide +kernel, by decide +kernel, by decide +kernel⟩⟩
theorem lk_L_45 : tl_kV RL 45 RX11 yX11_feed cX11_feed 6 (some .int) 5 := ⟨wk_338, wk_335, wk_336, wk_337, wk_2, ⟨by decide +kernel, by decide +kernel, by decide +kernel⟩⟩
theorem lk_L_49 : tl_kV RL 49 RX12 yX12_feed cX12_feed 6 (some .int) 5 := ⟨wk_346, wk_343, wk_344, wk_345, wk_5, ⟨by decide +kernel, by decide +kernel, by decide +kernel⟩⟩
theorem lk_L_50 : tl_kV RL 50 RX11 yX11_end cX11_end 2 (some .int) 1 := ⟨wk_355, wk_352, wk_353, wk_354, wk_2, ⟨by decide +kernel, by decide +kernel, by decide +kernel⟩⟩
theorem lk_L_54 : tl_kV RL 54 RX12 yX12_end cX12_end 2 (some .int) 1 := ⟨wk_359, wk_356, wk_357, wk_358, wk_5, ⟨by decide +kernel, by decide +kernel, by decide +kernel⟩⟩
theorem lk_L_55 : tl_kV RL 55 RX11 yX11_text cX11_text 5 (some .int) 1 := ⟨wk_363, wk_360, wk_361, wk_362, wk_2, ⟨by decide +kernel, by decide +kernel, by decide +kernel⟩⟩
theorem lk_L_58 : tl_kV RL 58 RX12 yX12_text cX12_text 3 (some .int) 1 := ⟨wk_535, wk_532, wk_533, wk_534, wk_5, ⟨by decide +kernel, by decide +kernel, by decide +kernel⟩⟩
theorem lk_L_59 : tl_kV RL 59 RX11 yX11_make cX11_make 8 (some .int) 5 := ⟨wk_692, wk_689, wk_690, wk_691, wk_2, ⟨by decide +kernel, by decide +kernel, by decide +kernel⟩⟩
theorem lk_L_62 : tl_kV RL 62 RX12 yX12_make cX12_make 7 (some .int) 5 := ⟨wk_775, wk_772, wk_773, wk_774, wk_5, ⟨by decide +kernel, by decide +kernel, by decide +kernel⟩⟩
theorem lk_L_63 : tl_kV RL 63 RX11 yX11_curve cX11_curve 5 (some .int) 4 := ⟨wk_825, wk_822, wk_823, wk_824, wk_2, ⟨by decide +kernel, by decide +kernel, by decide +kernel⟩⟩
theorem lk_L_66 : tl_kV RL 66 RX12 yX12_curve cX12_curve 5 (some .int) 4 := ⟨wk_902, wk_899, wk_900, wk_901, wk_5, ⟨by decide +kernel, by decide +kernel, by decide +kernel⟩⟩
theorem lk_L_67 : tl_kV RL 67 RX11 yX11_deep cX11_deep 4 (some .long) 3 := ⟨wk_960, wk_957, wk_958, wk_959, wk_2, ⟨by decide +kernel, by decide +kernel, by decide +kernel⟩⟩
theorem lk_L_71 : tl_kV RL 71 RX12 yX12_deep cX12_deep 6 (some .long) 3 := ⟨wk_988, wk_985, wk_986, wk_987, wk_5, ⟨by decide +kernel, by decide +kernel, by decide +kernel⟩⟩
theorem lk_L_72 : tl_kV RL 72 RX11 yX11_moved cX11_moved 4 (some .long) 3 := ⟨wk_995, wk_992, wk_993, wk_994, wk_2, ⟨by decide +kernel, by decide +kernel, by decide +kernel⟩⟩
theorem lk_L_75 : tl_kV RL 75 RX12 yX12_moved cX12_moved 4 (some .long) 3 := ⟨wk_1006, wk_1003, wk_1004, wk_1005, wk_5, ⟨by decide +kernel, by decide +kernel, by decide +kernel⟩⟩
theorem lk_L_76 : tl_kV RL 76 RX11 yX11_elsewhere cX11_elsewhere 11 (some .int) 3 := ⟨wk_1018, wk_1015, wk_1016, wk_1017, wk_2, ⟨by decide +kernel, by decide +kernel, by decide +kernel⟩⟩
theorem lk_L_79 : tl_kV RL 79 RX12 yX12_elsewhere cX12_elsewhere 12 (some .int) 3 := ⟨wk_1027, wk_1024, wk_1025, wk_1026, wk_5, ⟨by decide +kernel, by decide +kernel, by decide +kernel⟩⟩
theorem lk_L_80 : tl_kV RL 80 RX11 yX11_drawn cX11_drawn 12 (some .int) 5 := ⟨wk_1031, wk_1028, wk_1029, wk_1030, wk_2, ⟨by decide +kernel, by decide +kernel, by decide +kernel⟩⟩
theorem lk_L_83 : tl_kV RL 83 RX12 yX12_drawn cX12_drawn 12 (some .int) 5 := ⟨wk_1035, wk_1032, wk_1033, wk_1034, wk_5, ⟨by decide +kernel, by decide +kernel, by decide +kernel⟩⟩
theorem lk_L_84 : tl_kV RL 84 RX11 yX11_bent cX11_bent 4 (some .long) 3 := ⟨wk_1040, wk_1037, wk_1038, wk_1039, wk_2, ⟨by decide +kernel, by decide +kernel, by decide +kernel⟩⟩
theorem lk_L_87 : tl_kV RL 87 RX12 yX12_bent cX12_bent 4 (some .long) 3 := ⟨wk_1047, wk_1044, wk_1045, wk_1046, wk_5, ⟨by decide +kernel, by decide +kernel, by decide +kernel⟩⟩
theorem lk_L_88 : tl_kV RL 88 RX11 yX11_best cX11_best 11 (some .long) 4 := ⟨wk_1052, wk_1049, wk_1050, wk_1051, wk_2, ⟨by decide +kernel, by decide +kernel, by decide +kernel⟩⟩
theorem lk_L_9 : tl_kI RL 9 yX11_init cX11_init 1 0 := ⟨wk_8, wk_6, wk_7, wk_2, rfl, ⟨by decide +kernel, by decide +kernel, by decide +kernel⟩⟩
theorem lk_L_92 : tl_kV RL 92 RX12 yX12_best cX12_best 13 (some .long) 4 := ⟨wk_1063, wk_1060, wk_1061, wk_1062, wk_5, ⟨by decide +kernel, by decide +kernel, by decide +kernel⟩⟩
theorem lk_L_93 : tl_kV RL 93 RX11 yX11_taken cX11_taken 11 (some .int) 4 := ⟨wk_1068, wk_1065, wk_1066, wk_1067, wk_2, ⟨by decide +kernel, by decide +kernel, by decide +kernel⟩⟩
theorem lk_L_96 : tl_kV RL 96 RX12 yX12_taken cX12_taken 12 (some .int) 4 := ⟨wk_1076, wk_1073, wk_1074, wk_1075, wk_5, ⟨by decide +kernel, by decide +kernel, by decide +kernel⟩⟩
theorem lk_L_97 : tl_kV RL 97 RX11 yX11_apart cX11_apart 8 (some .int) 3 := ⟨wk_1081, wk_1078, wk_1079, wk_1080, wk_2, ⟨by decide +kernel, by decide +kernel, by decide +kernel⟩⟩
