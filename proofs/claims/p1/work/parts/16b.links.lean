theorem wk_5 : Cond.initialized RX12 ∈ tl_L := List.mem_filter.mpr ⟨by decide +kernel, rfl⟩
theorem wk_149 : Cond.fieldLink RX12 7 "ThinLineModel" "said" "[I" ∈ tl_L := List.mem_filter.mpr ⟨by decide +kernel, rfl⟩
theorem wk_152 : Cond.fieldLink RX12 17 "ThinLineModel" "texts" "[I" ∈ tl_L := List.mem_filter.mpr ⟨by decide +kernel, rfl⟩
theorem wk_181 : Cond.fieldLink RX12 106 "ThinLineModel" "isMade" "[Z" ∈ tl_L := List.mem_filter.mpr ⟨by decide +kernel, rfl⟩
theorem wk_198 : Cond.methodLink RX12 112 yX12_in ∈ tl_L := List.mem_filter.mpr ⟨by decide +kernel, rfl⟩
theorem wk_199 : Cond.static yX12_in ∈ tl_L := List.mem_filter.mpr ⟨by decide +kernel, rfl⟩
theorem wk_200 : Cond.code yX12_in cX12_in 6 (some .boolean) ∈ tl_L := List.mem_filter.mpr ⟨List.mem_of_getElem? (i := 1596) (by decide +kernel), rfl⟩
theorem wk_221 : Cond.constantLong RX12 116 (3) ∈ tl_L := List.mem_filter.mpr ⟨by decide +kernel, rfl⟩
theorem wk_248 : Cond.constant RX12 131 (-2000000) ∈ tl_L := List.mem_filter.mpr ⟨by decide +kernel, rfl⟩
theorem wk_249 : Cond.methodLink RX12 120 yX12_isRow ∈ tl_L := List.mem_filter.mpr ⟨by decide +kernel, rfl⟩
theorem wk_250 : Cond.instanceMethod yX12_isRow ∈ tl_L := List.mem_filter.mpr ⟨by decide +kernel, rfl⟩
theorem wk_251 : Cond.selects RX12 yX12_isRow yX12_isRow ∈ tl_L := List.mem_filter.mpr ⟨by decide +kernel, rfl⟩
theorem wk_252 : Cond.code yX12_isRow cX12_isRow 2 (some .boolean) ∈ tl_L := List.mem_filter.mpr ⟨List.mem_of_getElem? (i := 1610) (by decide +kernel), rfl⟩
theorem wk_347 : Cond.fieldLink RX12 153 "ThinLineModel" "taped" "I" ∈ tl_L := List.mem_filter.mpr ⟨by decide +kernel, rfl⟩
theorem wk_777 : Cond.methodLink RX12 382 yX12_isText ∈ tl_L := List.mem_filter.mpr ⟨by decide +kernel, rfl⟩
theorem wk_778 : Cond.instanceMethod yX12_isText ∈ tl_L := List.mem_filter.mpr ⟨by decide +kernel, rfl⟩
theorem wk_779 : Cond.selects RX12 yX12_isText yX12_isText ∈ tl_L := List.mem_filter.mpr ⟨by decide +kernel, rfl⟩
theorem wk_780 : Cond.code yX12_isText cX12_isText 3 (some .boolean) ∈ tl_L := List.mem_filter.mpr ⟨List.mem_of_getElem? (i := 1821) (by decide +kernel), rfl⟩
theorem wk_904 : Cond.methodLink RX12 447 yX12_canAsk ∈ tl_L := List.mem_filter.mpr ⟨by decide +kernel, rfl⟩
theorem wk_905 : Cond.instanceMethod yX12_canAsk ∈ tl_L := List.mem_filter.mpr ⟨by decide +kernel, rfl⟩
theorem wk_906 : Cond.selects RX12 yX12_canAsk yX12_canAsk ∈ tl_L := List.mem_filter.mpr ⟨by decide +kernel, rfl⟩
theorem wk_907 : Cond.code yX12_canAsk cX12_canAsk 3 (some .boolean) ∈ tl_L := List.mem_filter.mpr ⟨List.mem_of_getElem? (i := 1869) (by decide +kernel), rfl⟩
theorem wk_990 : Cond.constantLong RX12 455 (-2000000000) ∈ tl_L := List.mem_filter.mpr ⟨by decide +kernel, rfl⟩
theorem wk_991 : Cond.constantLong RX12 457 (-1) ∈ tl_L := List.mem_filter.mpr ⟨by decide +kernel, rfl⟩
theorem wk_1124 : Cond.constantLong RX12 483 (-2) ∈ tl_L := List.mem_filter.mpr ⟨by decide +kernel, rfl⟩
theorem wk_1174 : Cond.constant RX12 499 (-2000000000) ∈ tl_L := List.mem_filter.mpr ⟨by decide +kernel, rfl⟩
theorem wk_1175 : Cond.methodLink RX12 496 yX12_isWeek ∈ tl_L := List.mem_filter.mpr ⟨by decide +kernel, rfl⟩
theorem wk_1176 : Cond.static yX12_isWeek ∈ tl_L := List.mem_filter.mpr ⟨by decide +kernel, rfl⟩
theorem wk_1177 : Cond.code yX12_isWeek cX12_isWeek 1 (some .boolean) ∈ tl_L := List.mem_filter.mpr ⟨List.mem_of_getElem? (i := 1999) (by decide +kernel), rfl⟩
theorem wk_1307 : Cond.constantLong RX12 524 (-2100000000) ∈ tl_L := List.mem_filter.mpr ⟨by decide +kernel, rfl⟩
theorem wk_1328 : Cond.methodLink RX12 526 yX12_firsts ∈ tl_L := List.mem_filter.mpr ⟨by decide +kernel, rfl⟩
theorem wk_1329 : Cond.instanceMethod yX12_firsts ∈ tl_L := List.mem_filter.mpr ⟨by decide +kernel, rfl⟩
theorem wk_1330 : Cond.selects RX12 yX12_firsts yX12_firsts ∈ tl_L := List.mem_filter.mpr ⟨by decide +kernel, rfl⟩
theorem wk_1331 : Cond.code yX12_firsts cX12_firsts 6 none ∈ tl_L := List.mem_filter.mpr ⟨List.mem_of_getElem? (i := 2076) (by decide +kernel), rfl⟩
theorem wk_1344 : Cond.methodLink RX12 529 yX12_sayers ∈ tl_L := List.mem_filter.mpr ⟨by decide +kernel, rfl⟩
theorem wk_1345 : Cond.instanceMethod yX12_sayers ∈ tl_L := List.mem_filter.mpr ⟨by decide +kernel, rfl⟩
theorem wk_1346 : Cond.selects RX12 yX12_sayers yX12_sayers ∈ tl_L := List.mem_filter.mpr ⟨by decide +kernel, rfl⟩
theorem wk_1347 : Cond.code yX12_sayers cX12_sayers 4 (some .int) ∈ tl_L := List.mem_filter.mpr ⟨List.mem_of_getElem? (i := 2084) (by decide +kernel), rfl⟩
theorem wk_1460 : Cond.constantLong RX12 545 (999999999) ∈ tl_L := List.mem_filter.mpr ⟨by decide +kernel, rfl⟩
theorem wk_1461 : Cond.methodLink RX12 547 yX12_givenBy ∈ tl_L := List.mem_filter.mpr ⟨by decide +kernel, rfl⟩
theorem wk_1462 : Cond.instanceMethod yX12_givenBy ∈ tl_L := List.mem_filter.mpr ⟨by decide +kernel, rfl⟩
theorem wk_1463 : Cond.selects RX12 yX12_givenBy yX12_givenBy ∈ tl_L := List.mem_filter.mpr ⟨by decide +kernel, rfl⟩
theorem wk_1464 : Cond.code yX12_givenBy cX12_givenBy 4 (some .int) ∈ tl_L := List.mem_filter.mpr ⟨List.mem_of_getElem? (i := 2131) (by decide +kernel), rfl⟩
theorem wk_1484 : Cond.methodLink RX12 550 yX12_bits ∈ tl_L := List.mem_filter.mpr ⟨by decide +kernel, rfl⟩
theorem wk_1485 : Cond.static yX12_bits ∈ tl_L := List.mem_filter.mpr ⟨by decide +kernel, rfl⟩
theorem wk_1486 : Cond.code yX12_bits cX12_bits 3 (some .int) ∈ tl_L := List.mem_filter.mpr ⟨List.mem_of_getElem? (i := 2138) (by decide +kernel), rfl⟩
theorem lk_X12_112 : tl_kS RX12 112 yX12_in cX12_in 6 (some .boolean) 3 := ⟨wk_200, wk_198, wk_199, wk_5, ⟨by decide +kernel, by decide +kernel, by decide +kernel⟩⟩
theorem lk_X12_120 : tl_kV RX12 120 RX12 yX12_isRow cX12_isRow 2 (some .boolean) 1 := ⟨wk_252, wk_249, wk_250, wk_251, wk_5, ⟨by decide +kernel, by decide +kernel, by decide +kernel⟩⟩
theorem lk_X12_382 : tl_kV RX12 382 RX12 yX12_isText cX12_isText 3 (some .boolean) 2 := ⟨wk_780, wk_777, wk_778, wk_779, wk_5, ⟨by decide +kernel, by decide +kernel, by decide +kernel⟩⟩
theorem lk_X12_447 : tl_kV RX12 447 RX12 yX12_canAsk cX12_canAsk 3 (some .boolean) 2 := ⟨wk_907, wk_904, wk_905, wk_906, wk_5, ⟨by decide +kernel, by decide +kernel, by decide +kernel⟩⟩
theorem lk_X12_496 : tl_kS RX12 496 yX12_isWeek cX12_isWeek 1 (some .boolean) 1 := ⟨wk_1177, wk_1175, wk_1176, wk_5, ⟨by decide +kernel, by decide +kernel, by decide +kernel⟩⟩
theorem lk_X12_526 : tl_kV RX12 526 RX12 yX12_firsts cX12_firsts 6 none 0 := ⟨wk_1331, wk_1328, wk_1329, wk_1330, wk_5, ⟨by decide +kernel, by decide +kernel, by decide +kernel⟩⟩
theorem lk_X12_529 : tl_kV RX12 529 RX12 yX12_sayers cX12_sayers 4 (some .int) 1 := ⟨wk_1347, wk_1344, wk_1345, wk_1346, wk_5, ⟨by decide +kernel, by decide +kernel, by decide +kernel⟩⟩
theorem lk_X12_547 : tl_kV RX12 547 RX12 yX12_givenBy cX12_givenBy 4 (some .int) 1 := ⟨wk_1464, wk_1461, wk_1462, wk_1463, wk_5, ⟨by decide +kernel, by decide +kernel, by decide +kernel⟩⟩
theorem lk_X12_550 : tl_kS RX12 550 yX12_bits cX12_bits 3 (some .int) 1 := ⟨wk_1486, wk_1484, wk_1485, wk_5, ⟨by decide +kernel, by decide +kernel, by decide +kernel⟩⟩
