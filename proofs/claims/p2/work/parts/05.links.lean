theorem wk_2 : Cond.initialized RX11 ∈ tl_L := List.mem_filter.mpr ⟨by decide +kernel, rfl⟩
theorem wk_14 : Cond.initialized RX0 ∈ tl_L := List.mem_filter.mpr ⟨by decide +kernel, rfl⟩
theorem wk_29 : Cond.initialized RX7 ∈ tl_L := List.mem_filter.mpr ⟨by decide +kernel, rfl⟩
theorem wk_33 : Cond.initialized RX5 ∈ tl_L := List.mem_filter.mpr ⟨by decide +kernel, rfl⟩
theorem wk_60 : Cond.initialized RX4 ∈ tl_L := List.mem_filter.mpr ⟨by decide +kernel, rfl⟩
theorem wk_61 : Cond.fieldLink RX0 18 "ThinLine$Book" "rows" "LThinLine$Rows;" ∈ tl_L := List.mem_filter.mpr ⟨by decide +kernel, rfl⟩
theorem wk_64 : Cond.initialized RX6 ∈ tl_L := List.mem_filter.mpr ⟨by decide +kernel, rfl⟩
theorem wk_65 : Cond.fieldLink RX0 27 "ThinLine$Book" "slips" "LThinLine$Table;" ∈ tl_L := List.mem_filter.mpr ⟨by decide +kernel, rfl⟩
theorem wk_66 : Cond.fieldLink RX0 31 "ThinLine$Book" "lines" "LThinLine$Table;" ∈ tl_L := List.mem_filter.mpr ⟨by decide +kernel, rfl⟩
theorem wk_69 : Cond.fieldLink RX0 40 "ThinLine$Book" "tape" "[I" ∈ tl_L := List.mem_filter.mpr ⟨by decide +kernel, rfl⟩
theorem wk_73 : Cond.fieldLink RX4 9 "ThinLine$Rows" "glass" "[I" ∈ tl_L := List.mem_filter.mpr ⟨by decide +kernel, rfl⟩
theorem wk_74 : Cond.fieldLink RX4 15 "ThinLine$Rows" "hour" "[I" ∈ tl_L := List.mem_filter.mpr ⟨by decide +kernel, rfl⟩
theorem wk_75 : Cond.fieldLink RX4 18 "ThinLine$Rows" "known" "[I" ∈ tl_L := List.mem_filter.mpr ⟨by decide +kernel, rfl⟩
theorem wk_77 : Cond.fieldLink RX4 23 "ThinLine$Rows" "raw" "[[I" ∈ tl_L := List.mem_filter.mpr ⟨by decide +kernel, rfl⟩
theorem wk_82 : Cond.static Lib.Math.max.name ∈ tl_L := List.mem_filter.mpr ⟨by decide +kernel, rfl⟩
theorem wk_83 : Cond.initialized "java/lang/Math" ∈ tl_L := List.mem_filter.mpr ⟨by decide +kernel, rfl⟩
theorem wk_84 : Cond.code Lib.Math.max.name Lib.Math.max.code 2 (some .int) ∈ tl_L := List.mem_filter.mpr ⟨List.mem_of_getElem? (i := 258) (by decide +kernel), rfl⟩
theorem wk_85 : Cond.fieldLink RX6 15 "ThinLine$Table" "most" "I" ∈ tl_L := List.mem_filter.mpr ⟨by decide +kernel, rfl⟩
theorem wk_86 : Cond.fieldLink RX6 21 "ThinLine$Table" "cells" "[I" ∈ tl_L := List.mem_filter.mpr ⟨by decide +kernel, rfl⟩
theorem wk_92 : Cond.fieldLink RX8 17 "ThinLine$Texts" "kept" "[LThinLine$Text;" ∈ tl_L := List.mem_filter.mpr ⟨by decide +kernel, rfl⟩
theorem wk_111 : Cond.fieldLink RX7 9 "ThinLine$Text" "head" "[I" ∈ tl_L := List.mem_filter.mpr ⟨by decide +kernel, rfl⟩
theorem wk_112 : Cond.fieldLink RX7 15 "ThinLine$Text" "first" "[I" ∈ tl_L := List.mem_filter.mpr ⟨by decide +kernel, rfl⟩
theorem wk_113 : Cond.fieldLink RX7 18 "ThinLine$Text" "second" "[I" ∈ tl_L := List.mem_filter.mpr ⟨by decide +kernel, rfl⟩
theorem wk_114 : Cond.fieldLink RX7 21 "ThinLine$Text" "sumAt" "[I" ∈ tl_L := List.mem_filter.mpr ⟨by decide +kernel, rfl⟩
theorem wk_115 : Cond.fieldLink RX7 24 "ThinLine$Text" "testAt" "[I" ∈ tl_L := List.mem_filter.mpr ⟨by decide +kernel, rfl⟩
theorem wk_116 : Cond.fieldLink RX7 27 "ThinLine$Text" "endAt" "[I" ∈ tl_L := List.mem_filter.mpr ⟨by decide +kernel, rfl⟩
theorem wk_117 : Cond.fieldLink RX7 30 "ThinLine$Text" "steps" "[I" ∈ tl_L := List.mem_filter.mpr ⟨by decide +kernel, rfl⟩
theorem wk_121 : Cond.fieldLink RX5 9 "ThinLine$Sums" "words" "[J" ∈ tl_L := List.mem_filter.mpr ⟨by decide +kernel, rfl⟩
theorem wk_122 : Cond.fieldLink RX5 15 "ThinLine$Sums" "stack" "[J" ∈ tl_L := List.mem_filter.mpr ⟨by decide +kernel, rfl⟩
theorem wk_131 : Cond.fieldLink RX10 9 "ThinLine$View" "told" "[Z" ∈ tl_L := List.mem_filter.mpr ⟨by decide +kernel, rfl⟩
theorem wk_132 : Cond.fieldLink RX10 15 "ThinLine$View" "skipped" "[Z" ∈ tl_L := List.mem_filter.mpr ⟨by decide +kernel, rfl⟩
theorem wk_134 : Cond.fieldLink RX10 21 "ThinLine$View" "seen" "[I" ∈ tl_L := List.mem_filter.mpr ⟨by decide +kernel, rfl⟩
theorem wk_135 : Cond.fieldLink RX10 25 "ThinLine$View" "height" "[I" ∈ tl_L := List.mem_filter.mpr ⟨by decide +kernel, rfl⟩
theorem wk_136 : Cond.fieldLink RX10 28 "ThinLine$View" "openAhead" "[I" ∈ tl_L := List.mem_filter.mpr ⟨by decide +kernel, rfl⟩
theorem wk_137 : Cond.fieldLink RX10 31 "ThinLine$View" "sumAhead" "[I" ∈ tl_L := List.mem_filter.mpr ⟨by decide +kernel, rfl⟩
theorem wk_139 : Cond.fieldLink RX10 37 "ThinLine$View" "knotHeight" "[I" ∈ tl_L := List.mem_filter.mpr ⟨by decide +kernel, rfl⟩
theorem wk_143 : Cond.fieldLink RX3 9 "ThinLine$Rests" "left" "[J" ∈ tl_L := List.mem_filter.mpr ⟨by decide +kernel, rfl⟩
theorem wk_144 : Cond.fieldLink RX3 15 "ThinLine$Rests" "many" "[I" ∈ tl_L := List.mem_filter.mpr ⟨by decide +kernel, rfl⟩
theorem wk_190 : Cond.methodLink RX11 105 yX11_isIn ∈ tl_L := List.mem_filter.mpr ⟨by decide +kernel, rfl⟩
theorem wk_191 : Cond.static yX11_isIn ∈ tl_L := List.mem_filter.mpr ⟨by decide +kernel, rfl⟩
theorem wk_192 : Cond.code yX11_isIn cX11_isIn 3 (some .boolean) ∈ tl_L := List.mem_filter.mpr ⟨List.mem_of_getElem? (i := 613) (by decide +kernel), rfl⟩
theorem wk_211 : Cond.fieldLink RX4 26 "ThinLine$Rows" "size" "I" ∈ tl_L := List.mem_filter.mpr ⟨by decide +kernel, rfl⟩
theorem wk_212 : Cond.constant RX4 30 (-1000000) ∈ tl_L := List.mem_filter.mpr ⟨by decide +kernel, rfl⟩
theorem wk_213 : Cond.methodLink RX4 31 yJ7_fill_53178 ∈ tl_L := List.mem_filter.mpr ⟨by decide +kernel, rfl⟩
theorem wk_214 : Cond.static yJ7_fill_53178 ∈ tl_L := List.mem_filter.mpr ⟨by decide +kernel, rfl⟩
theorem wk_215 : Cond.initialized RJ7 ∈ tl_L := List.mem_filter.mpr ⟨by decide +kernel, rfl⟩
theorem wk_216 : Cond.code yJ7_fill_53178 cJ7_fill_53178 4 none ∈ tl_L := List.mem_filter.mpr ⟨List.mem_of_getElem? (i := 628) (by decide +kernel), rfl⟩
theorem wk_231 : Cond.instanceMethod yX4_has ∈ tl_L := List.mem_filter.mpr ⟨by decide +kernel, rfl⟩
theorem wk_232 : Cond.selects RX4 yX4_has yX4_has ∈ tl_L := List.mem_filter.mpr ⟨by decide +kernel, rfl⟩
theorem wk_233 : Cond.code yX4_has cX4_has 2 (some .boolean) ∈ tl_L := List.mem_filter.mpr ⟨List.mem_of_getElem? (i := 639) (by decide +kernel), rfl⟩
theorem wk_234 : Cond.methodLink RX11 125 yX11_isColour ∈ tl_L := List.mem_filter.mpr ⟨by decide +kernel, rfl⟩
theorem wk_235 : Cond.static yX11_isColour ∈ tl_L := List.mem_filter.mpr ⟨by decide +kernel, rfl⟩
theorem wk_236 : Cond.code yX11_isColour cX11_isColour 1 (some .boolean) ∈ tl_L := List.mem_filter.mpr ⟨List.mem_of_getElem? (i := 642) (by decide +kernel), rfl⟩
theorem wk_240 : Cond.fieldLink RX4 44 "ThinLine$Rows" "numbers" "I" ∈ tl_L := List.mem_filter.mpr ⟨by decide +kernel, rfl⟩
theorem wk_241 : Cond.methodLink RX4 37 yX4_has ∈ tl_L := List.mem_filter.mpr ⟨by decide +kernel, rfl⟩
theorem wk_263 : Cond.instanceMethod yX6_cell ∈ tl_L := List.mem_filter.mpr ⟨by decide +kernel, rfl⟩
theorem wk_264 : Cond.selects RX6 yX6_cell yX6_cell ∈ tl_L := List.mem_filter.mpr ⟨by decide +kernel, rfl⟩
theorem wk_265 : Cond.code yX6_cell cX6_cell 4 (some .int) ∈ tl_L := List.mem_filter.mpr ⟨List.mem_of_getElem? (i := 661) (by decide +kernel), rfl⟩
theorem wk_266 : Cond.fieldLink RX6 25 "ThinLine$Table" "size" "I" ∈ tl_L := List.mem_filter.mpr ⟨by decide +kernel, rfl⟩
theorem wk_289 : Cond.methodLink RX6 28 yX6_set ∈ tl_L := List.mem_filter.mpr ⟨by decide +kernel, rfl⟩
theorem wk_290 : Cond.instanceMethod yX6_set ∈ tl_L := List.mem_filter.mpr ⟨by decide +kernel, rfl⟩
theorem wk_291 : Cond.selects RX6 yX6_set yX6_set ∈ tl_L := List.mem_filter.mpr ⟨by decide +kernel, rfl⟩
theorem wk_292 : Cond.code yX6_set cX6_set 4 none ∈ tl_L := List.mem_filter.mpr ⟨List.mem_of_getElem? (i := 676) (by decide +kernel), rfl⟩
theorem wk_293 : Cond.methodLink RX6 32 yX6_has ∈ tl_L := List.mem_filter.mpr ⟨by decide +kernel, rfl⟩
theorem wk_294 : Cond.instanceMethod yX6_has ∈ tl_L := List.mem_filter.mpr ⟨by decide +kernel, rfl⟩
theorem wk_295 : Cond.selects RX6 yX6_has yX6_has ∈ tl_L := List.mem_filter.mpr ⟨by decide +kernel, rfl⟩
theorem wk_296 : Cond.code yX6_has cX6_has 2 (some .boolean) ∈ tl_L := List.mem_filter.mpr ⟨List.mem_of_getElem? (i := 680) (by decide +kernel), rfl⟩
theorem wk_342 : Cond.fieldLink RX0 60 "ThinLine$Book" "taped" "I" ∈ tl_L := List.mem_filter.mpr ⟨by decide +kernel, rfl⟩
theorem wk_371 : Cond.fieldLink RX8 23 "ThinLine$Texts" "size" "I" ∈ tl_L := List.mem_filter.mpr ⟨by decide +kernel, rfl⟩
theorem wk_375 : Cond.fieldLink RX7 33 "ThinLine$Text" "clauses" "I" ∈ tl_L := List.mem_filter.mpr ⟨by decide +kernel, rfl⟩
theorem wk_376 : Cond.fieldLink RX7 37 "ThinLine$Text" "length" "I" ∈ tl_L := List.mem_filter.mpr ⟨by decide +kernel, rfl⟩
theorem wk_482 : Cond.instanceMethod yX7_clauseOf ∈ tl_L := List.mem_filter.mpr ⟨by decide +kernel, rfl⟩
theorem wk_483 : Cond.selects RX7 yX7_clauseOf yX7_clauseOf ∈ tl_L := List.mem_filter.mpr ⟨by decide +kernel, rfl⟩
theorem wk_484 : Cond.code yX7_clauseOf cX7_clauseOf 3 (some .int) ∈ tl_L := List.mem_filter.mpr ⟨List.mem_of_getElem? (i := 855) (by decide +kernel), rfl⟩
theorem wk_706 : Cond.instanceMethod yX7_firstOf ∈ tl_L := List.mem_filter.mpr ⟨by decide +kernel, rfl⟩
theorem wk_707 : Cond.selects RX7 yX7_firstOf yX7_firstOf ∈ tl_L := List.mem_filter.mpr ⟨by decide +kernel, rfl⟩
theorem wk_708 : Cond.code yX7_firstOf cX7_firstOf 4 (some .int) ∈ tl_L := List.mem_filter.mpr ⟨List.mem_of_getElem? (i := 927) (by decide +kernel), rfl⟩
theorem wk_709 : Cond.methodLink RX7 40 yX7_clauseOf ∈ tl_L := List.mem_filter.mpr ⟨by decide +kernel, rfl⟩
theorem wk_710 : Cond.instanceMethod yX7_secondOf ∈ tl_L := List.mem_filter.mpr ⟨by decide +kernel, rfl⟩
theorem wk_711 : Cond.selects RX7 yX7_secondOf yX7_secondOf ∈ tl_L := List.mem_filter.mpr ⟨by decide +kernel, rfl⟩
theorem wk_712 : Cond.code yX7_secondOf cX7_secondOf 4 (some .int) ∈ tl_L := List.mem_filter.mpr ⟨List.mem_of_getElem? (i := 932) (by decide +kernel), rfl⟩
theorem wk_742 : Cond.methodLink RX5 48 yX5_worked ∈ tl_L := List.mem_filter.mpr ⟨by decide +kernel, rfl⟩
theorem wk_743 : Cond.instanceMethod yX5_worked ∈ tl_L := List.mem_filter.mpr ⟨by decide +kernel, rfl⟩
theorem wk_744 : Cond.selects RX5 yX5_worked yX5_worked ∈ tl_L := List.mem_filter.mpr ⟨by decide +kernel, rfl⟩
theorem wk_745 : Cond.code yX5_worked cX5_worked 8 (some .long) ∈ tl_L := List.mem_filter.mpr ⟨List.mem_of_getElem? (i := 962) (by decide +kernel), rfl⟩
theorem wk_746 : Cond.methodLink RX5 55 Lib.Math.max.name ∈ tl_L := List.mem_filter.mpr ⟨by decide +kernel, rfl⟩
theorem wk_747 : Cond.methodLink RX5 64 yX5_wordAt ∈ tl_L := List.mem_filter.mpr ⟨by decide +kernel, rfl⟩
theorem wk_748 : Cond.instanceMethod yX5_wordAt ∈ tl_L := List.mem_filter.mpr ⟨by decide +kernel, rfl⟩
theorem wk_749 : Cond.selects RX5 yX5_wordAt yX5_wordAt ∈ tl_L := List.mem_filter.mpr ⟨by decide +kernel, rfl⟩
theorem wk_750 : Cond.code yX5_wordAt cX5_wordAt 2 (some .long) ∈ tl_L := List.mem_filter.mpr ⟨List.mem_of_getElem? (i := 967) (by decide +kernel), rfl⟩
theorem wk_751 : Cond.methodLink RX5 68 yX5_joined ∈ tl_L := List.mem_filter.mpr ⟨by decide +kernel, rfl⟩
theorem wk_752 : Cond.static yX5_joined ∈ tl_L := List.mem_filter.mpr ⟨by decide +kernel, rfl⟩
theorem wk_753 : Cond.code yX5_joined cX5_joined 5 (some .long) ∈ tl_L := List.mem_filter.mpr ⟨List.mem_of_getElem? (i := 970) (by decide +kernel), rfl⟩
theorem wk_770 : Cond.static Lib.Math.min.name ∈ tl_L := List.mem_filter.mpr ⟨by decide +kernel, rfl⟩
theorem wk_771 : Cond.code Lib.Math.min.name Lib.Math.min.code 2 (some .int) ∈ tl_L := List.mem_filter.mpr ⟨List.mem_of_getElem? (i := 992) (by decide +kernel), rfl⟩
theorem wk_833 : Cond.constant RX0 78 (-1000000) ∈ tl_L := List.mem_filter.mpr ⟨by decide +kernel, rfl⟩
theorem wk_834 : Cond.methodLink RX0 82 yX0_takeOff ∈ tl_L := List.mem_filter.mpr ⟨by decide +kernel, rfl⟩
theorem wk_835 : Cond.instanceMethod yX0_takeOff ∈ tl_L := List.mem_filter.mpr ⟨by decide +kernel, rfl⟩
theorem wk_836 : Cond.selects RX0 yX0_takeOff yX0_takeOff ∈ tl_L := List.mem_filter.mpr ⟨by decide +kernel, rfl⟩
theorem wk_837 : Cond.code yX0_takeOff cX0_takeOff 6 none ∈ tl_L := List.mem_filter.mpr ⟨List.mem_of_getElem? (i := 1017) (by decide +kernel), rfl⟩
theorem wk_838 : Cond.methodLink RX0 86 Lib.Math.min.name ∈ tl_L := List.mem_filter.mpr ⟨by decide +kernel, rfl⟩
theorem wk_839 : Cond.methodLink RX0 91 Lib.Math.max.name ∈ tl_L := List.mem_filter.mpr ⟨by decide +kernel, rfl⟩
theorem wk_846 : Cond.fieldLink RX10 69 "ThinLine$View" "bends" "I" ∈ tl_L := List.mem_filter.mpr ⟨by decide +kernel, rfl⟩
theorem wk_847 : Cond.fieldLink RX10 72 "ThinLine$View" "wide" "I" ∈ tl_L := List.mem_filter.mpr ⟨by decide +kernel, rfl⟩
theorem wk_848 : Cond.fieldLink RX10 75 "ThinLine$View" "gapFrom" "I" ∈ tl_L := List.mem_filter.mpr ⟨by decide +kernel, rfl⟩
theorem wk_849 : Cond.fieldLink RX10 81 "ThinLine$View" "gapTo" "I" ∈ tl_L := List.mem_filter.mpr ⟨by decide +kernel, rfl⟩
theorem wk_860 : Cond.fieldLink RX10 100 "ThinLine$View" "knots" "I" ∈ tl_L := List.mem_filter.mpr ⟨by decide +kernel, rfl⟩
theorem wk_861 : Cond.methodLink RX10 103 Lib.Math.max.name ∈ tl_L := List.mem_filter.mpr ⟨by decide +kernel, rfl⟩
theorem wk_862 : Cond.methodLink RX10 108 Lib.Math.min.name ∈ tl_L := List.mem_filter.mpr ⟨by decide +kernel, rfl⟩
theorem wk_867 : Cond.methodLink RX10 115 yJ9_floorDiv_7cf53 ∈ tl_L := List.mem_filter.mpr ⟨by decide +kernel, rfl⟩
theorem wk_868 : Cond.static yJ9_floorDiv_7cf53 ∈ tl_L := List.mem_filter.mpr ⟨by decide +kernel, rfl⟩
theorem wk_869 : Cond.initialized RJ9 ∈ tl_L := List.mem_filter.mpr ⟨by decide +kernel, rfl⟩
theorem wk_870 : Cond.code yJ9_floorDiv_7cf53 cJ9_floorDiv_7cf53 3 (some .int) ∈ tl_L := List.mem_filter.mpr ⟨List.mem_of_getElem? (i := 1052) (by decide +kernel), rfl⟩
theorem wk_883 : Cond.fieldLink RX10 122 "ThinLine$View" "gapCount" "I" ∈ tl_L := List.mem_filter.mpr ⟨by decide +kernel, rfl⟩
theorem wk_972 : Cond.static yJ9_floorDiv_f86c9 ∈ tl_L := List.mem_filter.mpr ⟨by decide +kernel, rfl⟩
theorem wk_973 : Cond.code yJ9_floorDiv_f86c9 cJ9_floorDiv_f86c9 6 (some .long) ∈ tl_L := List.mem_filter.mpr ⟨List.mem_of_getElem? (i := 1096) (by decide +kernel), rfl⟩
theorem wk_1085 : Cond.constant RX11 494 (-999999) ∈ tl_L := List.mem_filter.mpr ⟨by decide +kernel, rfl⟩
theorem wk_1086 : Cond.constant RX11 495 (999999) ∈ tl_L := List.mem_filter.mpr ⟨by decide +kernel, rfl⟩
theorem wk_1246 : Cond.methodLink RX3 19 yJ7_fill_d0a16 ∈ tl_L := List.mem_filter.mpr ⟨by decide +kernel, rfl⟩
theorem wk_1247 : Cond.static yJ7_fill_d0a16 ∈ tl_L := List.mem_filter.mpr ⟨by decide +kernel, rfl⟩
theorem wk_1248 : Cond.code yJ7_fill_d0a16 cJ7_fill_d0a16 5 none ∈ tl_L := List.mem_filter.mpr ⟨List.mem_of_getElem? (i := 1288) (by decide +kernel), rfl⟩
theorem wk_1249 : Cond.methodLink RX3 25 yJ7_fill_53178 ∈ tl_L := List.mem_filter.mpr ⟨by decide +kernel, rfl⟩
theorem wk_1269 : Cond.methodLink RX3 48 yJ9_floorDiv_f86c9 ∈ tl_L := List.mem_filter.mpr ⟨by decide +kernel, rfl⟩
theorem wk_1451 : Cond.constant RX11 496 (999999999) ∈ tl_L := List.mem_filter.mpr ⟨by decide +kernel, rfl⟩
theorem wk_1473 : Cond.constant RJ6 265 (1431655765) ∈ tl_L := List.mem_filter.mpr ⟨by decide +kernel, rfl⟩
theorem wk_1474 : Cond.constant RJ6 266 (858993459) ∈ tl_L := List.mem_filter.mpr ⟨by decide +kernel, rfl⟩
theorem wk_1475 : Cond.constant RJ6 267 (252645135) ∈ tl_L := List.mem_filter.mpr ⟨by decide +kernel, rfl⟩
theorem nk_4 : tl_N[4]? = some (Cond.fieldLinkNest "ThinLine$Sums" 24 "ThinLine$Rows" "glass" "[I" "ThinLine") := by decide +kernel
theorem nk_6 : tl_N[6]? = some (Cond.fieldLinkNest "ThinLine$Book" 79 "ThinLine$Rows" "glass" "[I" "ThinLine") := by decide +kernel
theorem nk_7 : tl_N[7]? = some (Cond.fieldLinkNest "ThinLine$Sums" 28 "ThinLine$Rows" "hour" "[I" "ThinLine") := by decide +kernel
theorem nk_11 : tl_N[11]? = some (Cond.fieldLinkNest "ThinLine$Book" 74 "ThinLine$Rows" "raw" "[[I" "ThinLine") := by decide +kernel
theorem nk_14 : tl_N[14]? = some (Cond.fieldLinkNest "ThinLine$Book" 63 "ThinLine$Table" "size" "I" "ThinLine") := by decide +kernel
theorem nk_17 : tl_N[17]? = some (Cond.fieldLinkNest "ThinLine$Sums" 36 "ThinLine$Book" "now" "I" "ThinLine") := by decide +kernel
theorem nk_18 : tl_N[18]? = some (Cond.fieldLinkNest "ThinLine$Sums" 31 "ThinLine$Book" "told" "[I" "ThinLine") := by decide +kernel
theorem nk_47 : tl_N[47]? = some (Cond.fieldLinkNest "ThinLine$Sums" 52 "ThinLine$Text" "sumAt" "[I" "ThinLine") := by decide +kernel
theorem nk_49 : tl_N[49]? = some (Cond.fieldLinkNest "ThinLine$Sums" 40 "ThinLine$Text" "testAt" "[I" "ThinLine") := by decide +kernel
theorem nk_52 : tl_N[52]? = some (Cond.fieldLinkNest "ThinLine$Sums" 45 "ThinLine$Text" "endAt" "[I" "ThinLine") := by decide +kernel
theorem nk_54 : tl_N[54]? = some (Cond.fieldLinkNest "ThinLine$Sums" 61 "ThinLine$Text" "steps" "[I" "ThinLine") := by decide +kernel
theorem nk_61 : tl_N[61]? = some (Cond.fieldLinkNest "ThinLine$Rests" 28 "ThinLine$View" "used" "[Z" "ThinLine") := by decide +kernel
theorem nk_62 : tl_N[62]? = some (Cond.fieldLinkNest "ThinLine$Rests" 34 "ThinLine$View" "seen" "[I" "ThinLine") := by decide +kernel
theorem nk_64 : tl_N[64]? = some (Cond.fieldLinkNest "ThinLine$Rests" 37 "ThinLine$View" "height" "[I" "ThinLine") := by decide +kernel
theorem lk_X0_66 : tl_kVN RX0 66 RX6 yX6_cell "ThinLine" cX6_cell 4 (some .int) 2 77 := ⟨wk_265, by decide +kernel, wk_263, wk_264, wk_64, ⟨by decide +kernel, by decide +kernel, by decide +kernel⟩⟩
theorem lk_X0_70 : tl_kVN RX0 70 RX4 yX4_has "ThinLine" cX4_has 2 (some .boolean) 1 108 := ⟨wk_233, by decide +kernel, wk_231, wk_232, wk_60, ⟨by decide +kernel, by decide +kernel, by decide +kernel⟩⟩
theorem lk_X0_82 : tl_kV RX0 82 RX0 yX0_takeOff cX0_takeOff 6 none 2 := ⟨wk_837, wk_834, wk_835, wk_836, wk_14, ⟨by decide +kernel, by decide +kernel, by decide +kernel⟩⟩
theorem lk_X10_115 : tl_kS RX10 115 yJ9_floorDiv_7cf53 cJ9_floorDiv_7cf53 3 (some .int) 2 := ⟨wk_870, wk_867, wk_868, wk_869, ⟨by decide +kernel, by decide +kernel, by decide +kernel⟩⟩
theorem lk_X10_65 : tl_kVN RX10 65 RX7 yX7_firstOf "ThinLine" cX7_firstOf 4 (some .int) 2 113 := ⟨wk_708, by decide +kernel, wk_706, wk_707, wk_29, ⟨by decide +kernel, by decide +kernel, by decide +kernel⟩⟩
theorem lk_X10_78 : tl_kVN RX10 78 RX7 yX7_secondOf "ThinLine" cX7_secondOf 4 (some .int) 2 114 := ⟨wk_712, by decide +kernel, wk_710, wk_711, wk_29, ⟨by decide +kernel, by decide +kernel, by decide +kernel⟩⟩
theorem lk_X10_84 : tl_kSN RX10 84 yX11_isColour "ThinLine" cX11_isColour 1 (some .boolean) 1 118 := ⟨wk_236, by decide +kernel, wk_235, wk_2, ⟨by decide +kernel, by decide +kernel, by decide +kernel⟩⟩
theorem lk_X11_105 : tl_kS RX11 105 yX11_isIn cX11_isIn 3 (some .boolean) 3 := ⟨wk_192, wk_190, wk_191, wk_2, ⟨by decide +kernel, by decide +kernel, by decide +kernel⟩⟩
theorem lk_X11_125 : tl_kS RX11 125 yX11_isColour cX11_isColour 1 (some .boolean) 1 := ⟨wk_236, wk_234, wk_235, wk_2, ⟨by decide +kernel, by decide +kernel, by decide +kernel⟩⟩
theorem lk_X3_19 : tl_kS RX3 19 yJ7_fill_d0a16 cJ7_fill_d0a16 5 none 2 := ⟨wk_1248, wk_1246, wk_1247, wk_215, ⟨by decide +kernel, by decide +kernel, by decide +kernel⟩⟩
theorem lk_X3_25 : tl_kS RX3 25 yJ7_fill_53178 cJ7_fill_53178 4 none 2 := ⟨wk_216, wk_1249, wk_214, wk_215, ⟨by decide +kernel, by decide +kernel, by decide +kernel⟩⟩
theorem lk_X3_48 : tl_kS RX3 48 yJ9_floorDiv_f86c9 cJ9_floorDiv_f86c9 6 (some .long) 2 := ⟨wk_973, wk_1269, wk_972, wk_869, ⟨by decide +kernel, by decide +kernel, by decide +kernel⟩⟩
theorem lk_X4_31 : tl_kS RX4 31 yJ7_fill_53178 cJ7_fill_53178 4 none 2 := ⟨wk_216, wk_213, wk_214, wk_215, ⟨by decide +kernel, by decide +kernel, by decide +kernel⟩⟩
theorem lk_X4_37 : tl_kV RX4 37 RX4 yX4_has cX4_has 2 (some .boolean) 1 := ⟨wk_233, wk_241, wk_231, wk_232, wk_60, ⟨by decide +kernel, by decide +kernel, by decide +kernel⟩⟩
theorem lk_X4_41 : tl_kSN RX4 41 yX11_isColour "ThinLine" cX11_isColour 1 (some .boolean) 1 75 := ⟨wk_236, by decide +kernel, wk_235, wk_2, ⟨by decide +kernel, by decide +kernel, by decide +kernel⟩⟩
theorem lk_X5_18 : tl_kVN RX5 18 RX4 yX4_has "ThinLine" cX4_has 2 (some .boolean) 1 95 := ⟨wk_233, by decide +kernel, wk_231, wk_232, wk_60, ⟨by decide +kernel, by decide +kernel, by decide +kernel⟩⟩
theorem lk_X5_48 : tl_kV RX5 48 RX5 yX5_worked cX5_worked 8 (some .long) 3 := ⟨wk_745, wk_742, wk_743, wk_744, wk_33, ⟨by decide +kernel, by decide +kernel, by decide +kernel⟩⟩
theorem lk_X5_64 : tl_kV RX5 64 RX5 yX5_wordAt cX5_wordAt 2 (some .long) 1 := ⟨wk_750, wk_747, wk_748, wk_749, wk_33, ⟨by decide +kernel, by decide +kernel, by decide +kernel⟩⟩
theorem lk_X5_68 : tl_kS RX5 68 yX5_joined cX5_joined 5 (some .long) 3 := ⟨wk_753, wk_751, wk_752, wk_33, ⟨by decide +kernel, by decide +kernel, by decide +kernel⟩⟩
theorem lk_X6_28 : tl_kV RX6 28 RX6 yX6_set cX6_set 4 none 3 := ⟨wk_292, wk_289, wk_290, wk_291, wk_64, ⟨by decide +kernel, by decide +kernel, by decide +kernel⟩⟩
theorem lk_X6_32 : tl_kV RX6 32 RX6 yX6_has cX6_has 2 (some .boolean) 1 := ⟨wk_296, wk_293, wk_294, wk_295, wk_64, ⟨by decide +kernel, by decide +kernel, by decide +kernel⟩⟩
theorem lk_X7_40 : tl_kV RX7 40 RX7 yX7_clauseOf cX7_clauseOf 3 (some .int) 1 := ⟨wk_484, wk_709, wk_482, wk_483, wk_29, ⟨by decide +kernel, by decide +kernel, by decide +kernel⟩⟩
