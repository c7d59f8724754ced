theorem wk_5 : Cond.initialized RX12 ∈ tl_L := List.mem_filter.mpr ⟨by decide +kernel, rfl⟩
theorem wk_148 : Cond.methodLink RX12 1 objectInit ∈ tl_L := List.mem_filter.mpr ⟨by decide +kernel, rfl⟩
theorem wk_149 : Cond.fieldLink RX12 7 "ThinLineModel" "said" "[I" ∈ tl_L := List.mem_filter.mpr ⟨by decide +kernel, rfl⟩
theorem wk_150 : Cond.arrayClass .byte ∈ tl_L := List.mem_filter.mpr ⟨by decide +kernel, rfl⟩
theorem wk_151 : Cond.fieldLink RX12 13 "ThinLineModel" "tape" "[B" ∈ tl_L := List.mem_filter.mpr ⟨by decide +kernel, rfl⟩
theorem wk_152 : Cond.fieldLink RX12 17 "ThinLineModel" "texts" "[I" ∈ tl_L := List.mem_filter.mpr ⟨by decide +kernel, rfl⟩
theorem wk_153 : Cond.fieldLink RX12 20 "ThinLineModel" "sign" "[I" ∈ tl_L := List.mem_filter.mpr ⟨by decide +kernel, rfl⟩
theorem wk_154 : Cond.fieldLink RX12 23 "ThinLineModel" "length" "[I" ∈ tl_L := List.mem_filter.mpr ⟨by decide +kernel, rfl⟩
theorem wk_155 : Cond.fieldLink RX12 26 "ThinLineModel" "clause" "[I" ∈ tl_L := List.mem_filter.mpr ⟨by decide +kernel, rfl⟩
theorem wk_156 : Cond.fieldLink RX12 29 "ThinLineModel" "clauses" "[I" ∈ tl_L := List.mem_filter.mpr ⟨by decide +kernel, rfl⟩
theorem wk_157 : Cond.fieldLink RX12 32 "ThinLineModel" "eats" "[I" ∈ tl_L := List.mem_filter.mpr ⟨by decide +kernel, rfl⟩
theorem wk_158 : Cond.fieldLink RX12 35 "ThinLineModel" "eaters" "[I" ∈ tl_L := List.mem_filter.mpr ⟨by decide +kernel, rfl⟩
theorem wk_159 : Cond.fieldLink RX12 38 "ThinLineModel" "beat" "[I" ∈ tl_L := List.mem_filter.mpr ⟨by decide +kernel, rfl⟩
theorem wk_160 : Cond.fieldLink RX12 41 "ThinLineModel" "high" "[I" ∈ tl_L := List.mem_filter.mpr ⟨by decide +kernel, rfl⟩
theorem wk_161 : Cond.fieldLink RX12 44 "ThinLineModel" "noise" "[I" ∈ tl_L := List.mem_filter.mpr ⟨by decide +kernel, rfl⟩
theorem wk_162 : Cond.fieldLink RX12 47 "ThinLineModel" "bends" "[I" ∈ tl_L := List.mem_filter.mpr ⟨by decide +kernel, rfl⟩
theorem wk_163 : Cond.fieldLink RX12 50 "ThinLineModel" "gapFrom" "[I" ∈ tl_L := List.mem_filter.mpr ⟨by decide +kernel, rfl⟩
theorem wk_164 : Cond.fieldLink RX12 53 "ThinLineModel" "gapTo" "[I" ∈ tl_L := List.mem_filter.mpr ⟨by decide +kernel, rfl⟩
theorem wk_165 : Cond.fieldLink RX12 56 "ThinLineModel" "wide" "[I" ∈ tl_L := List.mem_filter.mpr ⟨by decide +kernel, rfl⟩
theorem wk_166 : Cond.fieldLink RX12 59 "ThinLineModel" "open" "[I" ∈ tl_L := List.mem_filter.mpr ⟨by decide +kernel, rfl⟩
theorem wk_167 : Cond.fieldLink RX12 62 "ThinLineModel" "stack" "[J" ∈ tl_L := List.mem_filter.mpr ⟨by decide +kernel, rfl⟩
theorem wk_168 : Cond.fieldLink RX12 66 "ThinLineModel" "word" "[J" ∈ tl_L := List.mem_filter.mpr ⟨by decide +kernel, rfl⟩
theorem wk_169 : Cond.fieldLink RX12 69 "ThinLineModel" "look" "[I" ∈ tl_L := List.mem_filter.mpr ⟨by decide +kernel, rfl⟩
theorem wk_170 : Cond.fieldLink RX12 72 "ThinLineModel" "isUsed" "[Z" ∈ tl_L := List.mem_filter.mpr ⟨by decide +kernel, rfl⟩
theorem wk_171 : Cond.fieldLink RX12 76 "ThinLineModel" "knotAt" "[I" ∈ tl_L := List.mem_filter.mpr ⟨by decide +kernel, rfl⟩
theorem wk_172 : Cond.fieldLink RX12 79 "ThinLineModel" "knotHigh" "[J" ∈ tl_L := List.mem_filter.mpr ⟨by decide +kernel, rfl⟩
theorem wk_173 : Cond.fieldLink RX12 82 "ThinLineModel" "left" "[J" ∈ tl_L := List.mem_filter.mpr ⟨by decide +kernel, rfl⟩
theorem wk_174 : Cond.fieldLink RX12 85 "ThinLineModel" "deepRow" "[J" ∈ tl_L := List.mem_filter.mpr ⟨by decide +kernel, rfl⟩
theorem wk_175 : Cond.fieldLink RX12 88 "ThinLineModel" "hasDeep" "[Z" ∈ tl_L := List.mem_filter.mpr ⟨by decide +kernel, rfl⟩
theorem wk_176 : Cond.fieldLink RX12 91 "ThinLineModel" "scoreRow" "[J" ∈ tl_L := List.mem_filter.mpr ⟨by decide +kernel, rfl⟩
theorem wk_177 : Cond.fieldLink RX12 94 "ThinLineModel" "firstSaid" "[I" ∈ tl_L := List.mem_filter.mpr ⟨by decide +kernel, rfl⟩
theorem wk_178 : Cond.fieldLink RX12 97 "ThinLineModel" "noiseOf" "[J" ∈ tl_L := List.mem_filter.mpr ⟨by decide +kernel, rfl⟩
theorem wk_179 : Cond.fieldLink RX12 100 "ThinLineModel" "noiseMany" "[I" ∈ tl_L := List.mem_filter.mpr ⟨by decide +kernel, rfl⟩
theorem wk_180 : Cond.fieldLink RX12 103 "ThinLineModel" "images" "[I" ∈ tl_L := List.mem_filter.mpr ⟨by decide +kernel, rfl⟩
theorem wk_181 : Cond.fieldLink RX12 106 "ThinLineModel" "isMade" "[Z" ∈ tl_L := List.mem_filter.mpr ⟨by decide +kernel, rfl⟩
theorem wk_182 : Cond.constant RX12 109 (-1000000) ∈ tl_L := List.mem_filter.mpr ⟨by decide +kernel, rfl⟩
theorem wk_197 : Cond.constantLong RX12 110 (399) ∈ tl_L := List.mem_filter.mpr ⟨by decide +kernel, rfl⟩
theorem wk_198 : Cond.methodLink RX12 112 yX12_in ∈ tl_L := List.mem_filter.mpr ⟨by decide +kernel, rfl⟩
theorem wk_199 : Cond.static yX12_in ∈ tl_L := List.mem_filter.mpr ⟨by decide +kernel, rfl⟩
theorem wk_200 : Cond.code yX12_in cX12_in 6 (some .boolean) ∈ tl_L := List.mem_filter.mpr ⟨List.mem_of_getElem? (i := 1596) (by decide +kernel), rfl⟩
theorem wk_221 : Cond.constantLong RX12 116 (3) ∈ tl_L := List.mem_filter.mpr ⟨by decide +kernel, rfl⟩
theorem wk_222 : Cond.constantLong RX12 118 (999) ∈ tl_L := List.mem_filter.mpr ⟨by decide +kernel, rfl⟩
theorem wk_248 : Cond.constant RX12 131 (-2000000) ∈ tl_L := List.mem_filter.mpr ⟨by decide +kernel, rfl⟩
theorem wk_249 : Cond.methodLink RX12 120 yX12_isRow ∈ tl_L := List.mem_filter.mpr ⟨by decide +kernel, rfl⟩
theorem wk_250 : Cond.instanceMethod yX12_isRow ∈ tl_L := List.mem_filter.mpr ⟨by decide +kernel, rfl⟩
theorem wk_251 : Cond.selects RX12 yX12_isRow yX12_isRow ∈ tl_L := List.mem_filter.mpr ⟨by decide +kernel, rfl⟩
theorem wk_252 : Cond.code yX12_isRow cX12_isRow 2 (some .boolean) ∈ tl_L := List.mem_filter.mpr ⟨List.mem_of_getElem? (i := 1610) (by decide +kernel), rfl⟩
theorem wk_253 : Cond.methodLink RX12 124 yX12_isColour ∈ tl_L := List.mem_filter.mpr ⟨by decide +kernel, rfl⟩
theorem wk_254 : Cond.static yX12_isColour ∈ tl_L := List.mem_filter.mpr ⟨by decide +kernel, rfl⟩
theorem wk_255 : Cond.code yX12_isColour cX12_isColour 1 (some .boolean) ∈ tl_L := List.mem_filter.mpr ⟨List.mem_of_getElem? (i := 1613) (by decide +kernel), rfl⟩
theorem wk_301 : Cond.constantLong RX12 139 (-9999) ∈ tl_L := List.mem_filter.mpr ⟨by decide +kernel, rfl⟩
theorem wk_302 : Cond.constantLong RX12 141 (9999) ∈ tl_L := List.mem_filter.mpr ⟨by decide +kernel, rfl⟩
theorem wk_325 : Cond.constantLong RX12 146 (11) ∈ tl_L := List.mem_filter.mpr ⟨by decide +kernel, rfl⟩
theorem wk_326 : Cond.constantLong RX12 148 (1000) ∈ tl_L := List.mem_filter.mpr ⟨by decide +kernel, rfl⟩
theorem wk_327 : Cond.methodLink RX12 150 yX12_depthOf ∈ tl_L := List.mem_filter.mpr ⟨by decide +kernel, rfl⟩
theorem wk_328 : Cond.instanceMethod yX12_depthOf ∈ tl_L := List.mem_filter.mpr ⟨by decide +kernel, rfl⟩
theorem wk_329 : Cond.selects RX12 yX12_depthOf yX12_depthOf ∈ tl_L := List.mem_filter.mpr ⟨by decide +kernel, rfl⟩
theorem wk_330 : Cond.code yX12_depthOf cX12_depthOf 4 (some .int) ∈ tl_L := List.mem_filter.mpr ⟨List.mem_of_getElem? (i := 1648) (by decide +kernel), rfl⟩
theorem wk_347 : Cond.fieldLink RX12 153 "ThinLineModel" "taped" "I" ∈ tl_L := List.mem_filter.mpr ⟨by decide +kernel, rfl⟩
theorem wk_348 : Cond.methodLink RX12 157 yX12_four ∈ tl_L := List.mem_filter.mpr ⟨by decide +kernel, rfl⟩
theorem wk_349 : Cond.instanceMethod yX12_four ∈ tl_L := List.mem_filter.mpr ⟨by decide +kernel, rfl⟩
theorem wk_350 : Cond.selects RX12 yX12_four yX12_four ∈ tl_L := List.mem_filter.mpr ⟨by decide +kernel, rfl⟩
theorem wk_351 : Cond.code yX12_four cX12_four 3 none ∈ tl_L := List.mem_filter.mpr ⟨List.mem_of_getElem? (i := 1660) (by decide +kernel), rfl⟩
theorem wk_536 : Cond.constantLong RX12 322 (2) ∈ tl_L := List.mem_filter.mpr ⟨by decide +kernel, rfl⟩
theorem wk_537 : Cond.fieldLink RX12 191 "ThinLineModel" "text" "I" ∈ tl_L := List.mem_filter.mpr ⟨by decide +kernel, rfl⟩
theorem wk_538 : Cond.fieldLink RX12 306 "ThinLineModel" "lines" "I" ∈ tl_L := List.mem_filter.mpr ⟨by decide +kernel, rfl⟩
theorem wk_539 : Cond.fieldLink RX12 164 "ThinLineModel" "next" "I" ∈ tl_L := List.mem_filter.mpr ⟨by decide +kernel, rfl⟩
theorem wk_540 : Cond.fieldLink RX12 161 "ThinLineModel" "wrong" "I" ∈ tl_L := List.mem_filter.mpr ⟨by decide +kernel, rfl⟩
theorem wk_541 : Cond.fieldLink RX12 216 "ThinLineModel" "made" "I" ∈ tl_L := List.mem_filter.mpr ⟨by decide +kernel, rfl⟩
theorem wk_542 : Cond.methodLink RX12 324 yX12_mostOf ∈ tl_L := List.mem_filter.mpr ⟨by decide +kernel, rfl⟩
theorem wk_543 : Cond.static yX12_mostOf ∈ tl_L := List.mem_filter.mpr ⟨by decide +kernel, rfl⟩
theorem wk_544 : Cond.code yX12_mostOf cX12_mostOf 1 (some .int) ∈ tl_L := List.mem_filter.mpr ⟨List.mem_of_getElem? (i := 1672) (by decide +kernel), rfl⟩
theorem wk_545 : Cond.methodLink RX12 327 yX12_firstOf ∈ tl_L := List.mem_filter.mpr ⟨by decide +kernel, rfl⟩
theorem wk_546 : Cond.static yX12_firstOf ∈ tl_L := List.mem_filter.mpr ⟨by decide +kernel, rfl⟩
theorem wk_547 : Cond.code yX12_firstOf cX12_firstOf 1 (some .int) ∈ tl_L := List.mem_filter.mpr ⟨List.mem_of_getElem? (i := 1675) (by decide +kernel), rfl⟩
theorem wk_548 : Cond.methodLink RX12 330 yX12_clauseHere ∈ tl_L := List.mem_filter.mpr ⟨by decide +kernel, rfl⟩
theorem wk_549 : Cond.instanceMethod yX12_clauseHere ∈ tl_L := List.mem_filter.mpr ⟨by decide +kernel, rfl⟩
theorem wk_550 : Cond.selects RX12 yX12_clauseHere yX12_clauseHere ∈ tl_L := List.mem_filter.mpr ⟨by decide +kernel, rfl⟩
theorem wk_551 : Cond.code yX12_clauseHere cX12_clauseHere 4 (some .boolean) ∈ tl_L := List.mem_filter.mpr ⟨List.mem_of_getElem? (i := 1679) (by decide +kernel), rfl⟩
theorem wk_552 : Cond.constantLong RX12 288 (495672979045) ∈ tl_L := List.mem_filter.mpr ⟨by decide +kernel, rfl⟩
theorem wk_553 : Cond.constantLong RX12 290 (125797183548517) ∈ tl_L := List.mem_filter.mpr ⟨by decide +kernel, rfl⟩
theorem wk_554 : Cond.constantLong RX12 292 (474315584357) ∈ tl_L := List.mem_filter.mpr ⟨by decide +kernel, rfl⟩
theorem wk_555 : Cond.constantLong RX12 294 (1700885619) ∈ tl_L := List.mem_filter.mpr ⟨by decide +kernel, rfl⟩
theorem wk_556 : Cond.constantLong RX12 296 (422608528499) ∈ tl_L := List.mem_filter.mpr ⟨by decide +kernel, rfl⟩
theorem wk_557 : Cond.constantLong RX12 298 (6775152) ∈ tl_L := List.mem_filter.mpr ⟨by decide +kernel, rfl⟩
theorem wk_558 : Cond.constantLong RX12 300 (2003395685) ∈ tl_L := List.mem_filter.mpr ⟨by decide +kernel, rfl⟩
theorem wk_559 : Cond.constantLong RX12 302 (1936419184) ∈ tl_L := List.mem_filter.mpr ⟨by decide +kernel, rfl⟩
theorem wk_560 : Cond.constantLong RX12 304 (444150998387) ∈ tl_L := List.mem_filter.mpr ⟨by decide +kernel, rfl⟩
theorem wk_561 : Cond.methodLink RX12 167 yX12_see ∈ tl_L := List.mem_filter.mpr ⟨by decide +kernel, rfl⟩
theorem wk_562 : Cond.instanceMethod yX12_see ∈ tl_L := List.mem_filter.mpr ⟨by decide +kernel, rfl⟩
theorem wk_563 : Cond.selects RX12 yX12_see yX12_see ∈ tl_L := List.mem_filter.mpr ⟨by decide +kernel, rfl⟩
theorem wk_564 : Cond.code yX12_see cX12_see 1 (some .int) ∈ tl_L := List.mem_filter.mpr ⟨List.mem_of_getElem? (i := 1683) (by decide +kernel), rfl⟩
theorem wk_565 : Cond.methodLink RX12 194 yX12_kindOf ∈ tl_L := List.mem_filter.mpr ⟨by decide +kernel, rfl⟩
theorem wk_566 : Cond.instanceMethod yX12_kindOf ∈ tl_L := List.mem_filter.mpr ⟨by decide +kernel, rfl⟩
theorem wk_567 : Cond.selects RX12 yX12_kindOf yX12_kindOf ∈ tl_L := List.mem_filter.mpr ⟨by decide +kernel, rfl⟩
theorem wk_568 : Cond.code yX12_kindOf cX12_kindOf 2 (some .int) ∈ tl_L := List.mem_filter.mpr ⟨List.mem_of_getElem? (i := 1687) (by decide +kernel), rfl⟩
theorem wk_569 : Cond.methodLink RX12 174 yX12_isWord ∈ tl_L := List.mem_filter.mpr ⟨by decide +kernel, rfl⟩
theorem wk_570 : Cond.instanceMethod yX12_isWord ∈ tl_L := List.mem_filter.mpr ⟨by decide +kernel, rfl⟩
theorem wk_571 : Cond.selects RX12 yX12_isWord yX12_isWord ∈ tl_L := List.mem_filter.mpr ⟨by decide +kernel, rfl⟩
theorem wk_572 : Cond.code yX12_isWord cX12_isWord 6 (some .boolean) ∈ tl_L := List.mem_filter.mpr ⟨List.mem_of_getElem? (i := 1692) (by decide +kernel), rfl⟩
theorem wk_573 : Cond.methodLink RX12 171 yX12_isLetter ∈ tl_L := List.mem_filter.mpr ⟨by decide +kernel, rfl⟩
theorem wk_574 : Cond.instanceMethod yX12_isLetter ∈ tl_L := List.mem_filter.mpr ⟨by decide +kernel, rfl⟩
theorem wk_575 : Cond.selects RX12 yX12_isLetter yX12_isLetter ∈ tl_L := List.mem_filter.mpr ⟨by decide +kernel, rfl⟩
theorem wk_576 : Cond.code yX12_isLetter cX12_isLetter 2 (some .boolean) ∈ tl_L := List.mem_filter.mpr ⟨List.mem_of_getElem? (i := 1696) (by decide +kernel), rfl⟩
theorem wk_577 : Cond.methodLink RX12 184 yX12_fails ∈ tl_L := List.mem_filter.mpr ⟨by decide +kernel, rfl⟩
theorem wk_578 : Cond.instanceMethod yX12_fails ∈ tl_L := List.mem_filter.mpr ⟨by decide +kernel, rfl⟩
theorem wk_579 : Cond.selects RX12 yX12_fails yX12_fails ∈ tl_L := List.mem_filter.mpr ⟨by decide +kernel, rfl⟩
theorem wk_580 : Cond.code yX12_fails cX12_fails 3 (some .boolean) ∈ tl_L := List.mem_filter.mpr ⟨List.mem_of_getElem? (i := 1708) (by decide +kernel), rfl⟩
theorem wk_777 : Cond.methodLink RX12 382 yX12_isText ∈ tl_L := List.mem_filter.mpr ⟨by decide +kernel, rfl⟩
theorem wk_778 : Cond.instanceMethod yX12_isText ∈ tl_L := List.mem_filter.mpr ⟨by decide +kernel, rfl⟩
theorem wk_779 : Cond.selects RX12 yX12_isText yX12_isText ∈ tl_L := List.mem_filter.mpr ⟨by decide +kernel, rfl⟩
theorem wk_780 : Cond.code yX12_isText cX12_isText 3 (some .boolean) ∈ tl_L := List.mem_filter.mpr ⟨List.mem_of_getElem? (i := 1821) (by decide +kernel), rfl⟩
theorem wk_904 : Cond.methodLink RX12 447 yX12_canAsk ∈ tl_L := List.mem_filter.mpr ⟨by decide +kernel, rfl⟩
theorem wk_905 : Cond.instanceMethod yX12_canAsk ∈ tl_L := List.mem_filter.mpr ⟨by decide +kernel, rfl⟩
theorem wk_906 : Cond.selects RX12 yX12_canAsk yX12_canAsk ∈ tl_L := List.mem_filter.mpr ⟨by decide +kernel, rfl⟩
theorem wk_907 : Cond.code yX12_canAsk cX12_canAsk 3 (some .boolean) ∈ tl_L := List.mem_filter.mpr ⟨List.mem_of_getElem? (i := 1869) (by decide +kernel), rfl⟩
theorem wk_990 : Cond.constantLong RX12 455 (-2000000000) ∈ tl_L := List.mem_filter.mpr ⟨by decide +kernel, rfl⟩
theorem wk_991 : Cond.constantLong RX12 457 (-1) ∈ tl_L := List.mem_filter.mpr ⟨by decide +kernel, rfl⟩
theorem wk_1077 : Cond.constantLong RX12 471 (99) ∈ tl_L := List.mem_filter.mpr ⟨by decide +kernel, rfl⟩
theorem wk_1124 : Cond.constantLong RX12 483 (-2) ∈ tl_L := List.mem_filter.mpr ⟨by decide +kernel, rfl⟩
theorem wk_1174 : Cond.constant RX12 499 (-2000000000) ∈ tl_L := List.mem_filter.mpr ⟨by decide +kernel, rfl⟩
theorem wk_1175 : Cond.methodLink RX12 496 yX12_isWeek ∈ tl_L := List.mem_filter.mpr ⟨by decide +kernel, rfl⟩
theorem wk_1176 : Cond.static yX12_isWeek ∈ tl_L := List.mem_filter.mpr ⟨by decide +kernel, rfl⟩
theorem wk_1177 : Cond.code yX12_isWeek cX12_isWeek 1 (some .boolean) ∈ tl_L := List.mem_filter.mpr ⟨List.mem_of_getElem? (i := 1999) (by decide +kernel), rfl⟩
theorem wk_1307 : Cond.constantLong RX12 524 (-2100000000) ∈ tl_L := List.mem_filter.mpr ⟨by decide +kernel, rfl⟩
theorem wk_1328 : Cond.methodLink RX12 526 yX12_firsts ∈ tl_L := List.mem_filter.mpr ⟨by decide +kernel, rfl⟩
theorem wk_1329 : Cond.instanceMethod yX12_firsts ∈ tl_L := List.mem_filter.mpr ⟨by decide +kernel, rfl⟩
theorem wk_1330 : Cond.selects RX12 yX12_firsts yX12_firsts ∈ tl_L := List.mem_filter.mpr ⟨by decide +kernel, rfl⟩
theorem wk_1331 : Cond.code yX12_firsts cX12_firsts 6 none ∈ tl_L := List.mem_filter.mpr ⟨List.mem_of_getElem? (i := 2076) (by decide +kernel), rfl⟩
theorem wk_1344 : Cond.methodLink RX12 529 yX12_sayers ∈ tl_L := List.mem_filter.mpr ⟨by decide +kernel, rfl⟩
theorem wk_1345 : Cond.instanceMethod yX12_sayers ∈ tl_L := List.mem_filter.mpr ⟨by decide +kernel, rfl⟩
theorem wk_1346 : Cond.selects RX12 yX12_sayers yX12_sayers ∈ tl_L := List.mem_filter.mpr ⟨by decide +kernel, rfl⟩
theorem wk_1347 : Cond.code yX12_sayers cX12_sayers 4 (some .int) ∈ tl_L := List.mem_filter.mpr ⟨List.mem_of_getElem? (i := 2084) (by decide +kernel), rfl⟩
theorem wk_1460 : Cond.constantLong RX12 545 (999999999) ∈ tl_L := List.mem_filter.mpr ⟨by decide +kernel, rfl⟩
theorem wk_1461 : Cond.methodLink RX12 547 yX12_givenBy ∈ tl_L := List.mem_filter.mpr ⟨by decide +kernel, rfl⟩
theorem wk_1462 : Cond.instanceMethod yX12_givenBy ∈ tl_L := List.mem_filter.mpr ⟨by decide +kernel, rfl⟩
theorem wk_1463 : Cond.selects RX12 yX12_givenBy yX12_givenBy ∈ tl_L := List.mem_filter.mpr ⟨by decide +kernel, rfl⟩
theorem wk_1464 : Cond.code yX12_givenBy cX12_givenBy 4 (some .int) ∈ tl_L := List.mem_filter.mpr ⟨List.mem_of_getElem? (i := 2131) (by decide +kernel), rfl⟩
theorem wk_1484 : Cond.methodLink RX12 550 yX12_bits ∈ tl_L := List.mem_filter.mpr ⟨by decide +kernel, rfl⟩
theorem wk_1485 : Cond.static yX12_bits ∈ tl_L := List.mem_filter.mpr ⟨by decide +kernel, rfl⟩
theorem wk_1486 : Cond.code yX12_bits cX12_bits 3 (some .int) ∈ tl_L := List.mem_filter.mpr ⟨List.mem_of_getElem? (i := 2138) (by decide +kernel), rfl⟩
theorem lk_X12_112 : tl_kS RX12 112 yX12_in cX12_in 6 (some .boolean) 3 := ⟨wk_200, wk_198, wk_199, wk_5, ⟨by decide +kernel, by decide +kernel, by decide +kernel⟩⟩
theorem lk_X12_120 : tl_kV RX12 120 RX12 yX12_isRow cX12_isRow 2 (some .boolean) 1 := ⟨wk_252, wk_249, wk_250, wk_251, wk_5, ⟨by decide +kernel, by decide +kernel, by decide +kernel⟩⟩
theorem lk_X12_124 : tl_kS RX12 124 yX12_isColour cX12_isColour 1 (some .boolean) 1 := ⟨wk_255, wk_253, wk_254, wk_5, ⟨by decide +kernel, by decide +kernel, by decide +kernel⟩⟩
theorem lk_X12_150 : tl_kV RX12 150 RX12 yX12_depthOf cX12_depthOf 4 (some .int) 2 := ⟨wk_330, wk_327, wk_328, wk_329, wk_5, ⟨by decide +kernel, by decide +kernel, by decide +kernel⟩⟩
theorem lk_X12_157 : tl_kV RX12 157 RX12 yX12_four cX12_four 3 none 1 := ⟨wk_351, wk_348, wk_349, wk_350, wk_5, ⟨by decide +kernel, by decide +kernel, by decide +kernel⟩⟩
theorem lk_X12_167 : tl_kV RX12 167 RX12 yX12_see cX12_see 1 (some .int) 0 := ⟨wk_564, wk_561, wk_562, wk_563, wk_5, ⟨by decide +kernel, by decide +kernel, by decide +kernel⟩⟩
theorem lk_X12_171 : tl_kV RX12 171 RX12 yX12_isLetter cX12_isLetter 2 (some .boolean) 1 := ⟨wk_576, wk_573, wk_574, wk_575, wk_5, ⟨by decide +kernel, by decide +kernel, by decide +kernel⟩⟩
theorem lk_X12_174 : tl_kV RX12 174 RX12 yX12_isWord cX12_isWord 6 (some .boolean) 1 := ⟨wk_572, wk_569, wk_570, wk_571, wk_5, ⟨by decide +kernel, by decide +kernel, by decide +kernel⟩⟩
theorem lk_X12_184 : tl_kV RX12 184 RX12 yX12_fails cX12_fails 3 (some .boolean) 2 := ⟨wk_580, wk_577, wk_578, wk_579, wk_5, ⟨by decide +kernel, by decide +kernel, by decide +kernel⟩⟩
theorem lk_X12_194 : tl_kV RX12 194 RX12 yX12_kindOf cX12_kindOf 2 (some .int) 1 := ⟨wk_568, wk_565, wk_566, wk_567, wk_5, ⟨by decide +kernel, by decide +kernel, by decide +kernel⟩⟩
theorem lk_X12_324 : tl_kS RX12 324 yX12_mostOf cX12_mostOf 1 (some .int) 1 := ⟨wk_544, wk_542, wk_543, wk_5, ⟨by decide +kernel, by decide +kernel, by decide +kernel⟩⟩
theorem lk_X12_327 : tl_kS RX12 327 yX12_firstOf cX12_firstOf 1 (some .int) 1 := ⟨wk_547, wk_545, wk_546, wk_5, ⟨by decide +kernel, by decide +kernel, by decide +kernel⟩⟩
theorem lk_X12_330 : tl_kV RX12 330 RX12 yX12_clauseHere cX12_clauseHere 4 (some .boolean) 0 := ⟨wk_551, wk_548, wk_549, wk_550, wk_5, ⟨by decide +kernel, by decide +kernel, by decide +kernel⟩⟩
theorem lk_X12_382 : tl_kV RX12 382 RX12 yX12_isText cX12_isText 3 (some .boolean) 2 := ⟨wk_780, wk_777, wk_778, wk_779, wk_5, ⟨by decide +kernel, by decide +kernel, by decide +kernel⟩⟩
theorem lk_X12_447 : tl_kV RX12 447 RX12 yX12_canAsk cX12_canAsk 3 (some .boolean) 2 := ⟨wk_907, wk_904, wk_905, wk_906, wk_5, ⟨by decide +kernel, by decide +kernel, by decide +kernel⟩⟩
theorem lk_X12_496 : tl_kS RX12 496 yX12_isWeek cX12_isWeek 1 (some .boolean) 1 := ⟨wk_1177, wk_1175, wk_1176, wk_5, ⟨by decide +kernel, by decide +kernel, by decide +kernel⟩⟩
theorem lk_X12_526 : tl_kV RX12 526 RX12 yX12_firsts cX12_firsts 6 none 0 := ⟨wk_1331, wk_1328, wk_1329, wk_1330, wk_5, ⟨by decide +kernel, by decide +kernel, by decide +kernel⟩⟩
theorem lk_X12_529 : tl_kV RX12 529 RX12 yX12_sayers cX12_sayers 4 (some .int) 1 := ⟨wk_1347, wk_1344, wk_1345, wk_1346, wk_5, ⟨by decide +kernel, by decide +kernel, by decide +kernel⟩⟩
theorem lk_X12_547 : tl_kV RX12 547 RX12 yX12_givenBy cX12_givenBy 4 (some .int) 1 := ⟨wk_1464, wk_1461, wk_1462, wk_1463, wk_5, ⟨by decide +kernel, by decide +kernel, by decide +kernel⟩⟩
theorem lk_X12_550 : tl_kS RX12 550 yX12_bits cX12_bits 3 (some .int) 1 := ⟨wk_1486, wk_1484, wk_1485, wk_5, ⟨by decide +kernel, by decide +kernel, by decide +kernel⟩⟩
