theorem wk_2 : Cond.initialized RX11 ∈ tl_L := List.mem_filter.mpr ⟨by decide +kernel, rfl⟩
theorem wk_9 : Cond.methodLink RX11 1 objectInit ∈ tl_L := List.mem_filter.mpr ⟨by decide +kernel, rfl⟩
theorem wk_10 : Cond.instanceMethod objectInit ∈ tl_L := List.mem_filter.mpr ⟨by decide +kernel, rfl⟩
theorem wk_11 : Cond.code objectInit ⟨#[0xb1]⟩ 1 none ∈ tl_L := List.mem_filter.mpr ⟨List.mem_of_getElem? (i := 205) (by decide +kernel), rfl⟩
theorem wk_12 : Cond.classLink RX11 7 RX0 ∈ tl_L := List.mem_filter.mpr ⟨by decide +kernel, rfl⟩
theorem wk_13 : Cond.instantiable RX0 9 ∈ tl_L := List.mem_filter.mpr ⟨by decide +kernel, rfl⟩
theorem wk_14 : Cond.initialized RX0 ∈ tl_L := List.mem_filter.mpr ⟨by decide +kernel, rfl⟩
theorem wk_15 : Cond.fieldLink RX11 10 "ThinLine" "book" "LThinLine$Book;" ∈ tl_L := List.mem_filter.mpr ⟨by decide +kernel, rfl⟩
theorem wk_16 : Cond.fieldLink RX11 16 "ThinLine" "images" "[LThinLine$Book;" ∈ tl_L := List.mem_filter.mpr ⟨by decide +kernel, rfl⟩
theorem wk_17 : Cond.classLink RX11 20 RX8 ∈ tl_L := List.mem_filter.mpr ⟨by decide +kernel, rfl⟩
theorem wk_18 : Cond.instantiable RX8 2 ∈ tl_L := List.mem_filter.mpr ⟨by decide +kernel, rfl⟩
theorem wk_19 : Cond.initialized RX8 ∈ tl_L := List.mem_filter.mpr ⟨by decide +kernel, rfl⟩
theorem wk_20 : Cond.fieldLink RX11 25 "ThinLine" "laws" "LThinLine$Texts;" ∈ tl_L := List.mem_filter.mpr ⟨by decide +kernel, rfl⟩
theorem wk_21 : Cond.fieldLink RX11 29 "ThinLine" "curves" "LThinLine$Texts;" ∈ tl_L := List.mem_filter.mpr ⟨by decide +kernel, rfl⟩
theorem wk_22 : Cond.fieldLink RX11 32 "ThinLine" "ways" "LThinLine$Texts;" ∈ tl_L := List.mem_filter.mpr ⟨by decide +kernel, rfl⟩
theorem wk_23 : Cond.classLink RX11 35 RX2 ∈ tl_L := List.mem_filter.mpr ⟨by decide +kernel, rfl⟩
theorem wk_24 : Cond.instantiable RX2 6 ∈ tl_L := List.mem_filter.mpr ⟨by decide +kernel, rfl⟩
theorem wk_25 : Cond.initialized RX2 ∈ tl_L := List.mem_filter.mpr ⟨by decide +kernel, rfl⟩
theorem wk_26 : Cond.fieldLink RX11 38 "ThinLine" "parser" "LThinLine$Parser;" ∈ tl_L := List.mem_filter.mpr ⟨by decide +kernel, rfl⟩
theorem wk_27 : Cond.classLink RX11 42 RX7 ∈ tl_L := List.mem_filter.mpr ⟨by decide +kernel, rfl⟩
theorem wk_28 : Cond.instantiable RX7 9 ∈ tl_L := List.mem_filter.mpr ⟨by decide +kernel, rfl⟩
theorem wk_29 : Cond.initialized RX7 ∈ tl_L := List.mem_filter.mpr ⟨by decide +kernel, rfl⟩
theorem wk_30 : Cond.fieldLink RX11 45 "ThinLine" "draft" "LThinLine$Text;" ∈ tl_L := List.mem_filter.mpr ⟨by decide +kernel, rfl⟩
theorem wk_31 : Cond.classLink RX11 49 RX5 ∈ tl_L := List.mem_filter.mpr ⟨by decide +kernel, rfl⟩
theorem wk_32 : Cond.instantiable RX5 2 ∈ tl_L := List.mem_filter.mpr ⟨by decide +kernel, rfl⟩
theorem wk_33 : Cond.initialized RX5 ∈ tl_L := List.mem_filter.mpr ⟨by decide +kernel, rfl⟩
theorem wk_34 : Cond.fieldLink RX11 52 "ThinLine" "sums" "LThinLine$Sums;" ∈ tl_L := List.mem_filter.mpr ⟨by decide +kernel, rfl⟩
theorem wk_35 : Cond.classLink RX11 56 RX1 ∈ tl_L := List.mem_filter.mpr ⟨by decide +kernel, rfl⟩
theorem wk_36 : Cond.instantiable RX1 5 ∈ tl_L := List.mem_filter.mpr ⟨by decide +kernel, rfl⟩
theorem wk_37 : Cond.initialized RX1 ∈ tl_L := List.mem_filter.mpr ⟨by decide +kernel, rfl⟩
theorem wk_38 : Cond.fieldLink RX11 59 "ThinLine" "maker" "LThinLine$Maker;" ∈ tl_L := List.mem_filter.mpr ⟨by decide +kernel, rfl⟩
theorem wk_39 : Cond.classLink RX11 63 RX10 ∈ tl_L := List.mem_filter.mpr ⟨by decide +kernel, rfl⟩
theorem wk_40 : Cond.instantiable RX10 18 ∈ tl_L := List.mem_filter.mpr ⟨by decide +kernel, rfl⟩
theorem wk_41 : Cond.initialized RX10 ∈ tl_L := List.mem_filter.mpr ⟨by decide +kernel, rfl⟩
theorem wk_42 : Cond.fieldLink RX11 66 "ThinLine" "view" "LThinLine$View;" ∈ tl_L := List.mem_filter.mpr ⟨by decide +kernel, rfl⟩
theorem wk_43 : Cond.classLink RX11 70 RX3 ∈ tl_L := List.mem_filter.mpr ⟨by decide +kernel, rfl⟩
theorem wk_44 : Cond.instantiable RX3 2 ∈ tl_L := List.mem_filter.mpr ⟨by decide +kernel, rfl⟩
theorem wk_45 : Cond.initialized RX3 ∈ tl_L := List.mem_filter.mpr ⟨by decide +kernel, rfl⟩
theorem wk_46 : Cond.fieldLink RX11 73 "ThinLine" "rests" "LThinLine$Rests;" ∈ tl_L := List.mem_filter.mpr ⟨by decide +kernel, rfl⟩
theorem wk_47 : Cond.arrayClass .int ∈ tl_L := List.mem_filter.mpr ⟨by decide +kernel, rfl⟩
theorem wk_48 : Cond.fieldLink RX11 77 "ThinLine" "rowDeeps" "[I" ∈ tl_L := List.mem_filter.mpr ⟨by decide +kernel, rfl⟩
theorem wk_49 : Cond.fieldLink RX11 81 "ThinLine" "sorted" "[I" ∈ tl_L := List.mem_filter.mpr ⟨by decide +kernel, rfl⟩
theorem wk_50 : Cond.fieldLink RX11 84 "ThinLine" "firstWeeks" "[I" ∈ tl_L := List.mem_filter.mpr ⟨by decide +kernel, rfl⟩
theorem wk_51 : Cond.arrayClass .long ∈ tl_L := List.mem_filter.mpr ⟨by decide +kernel, rfl⟩
theorem wk_52 : Cond.fieldLink RX11 87 "ThinLine" "worths" "[J" ∈ tl_L := List.mem_filter.mpr ⟨by decide +kernel, rfl⟩
theorem wk_53 : Cond.fieldLink RX11 91 "ThinLine" "given" "[I" ∈ tl_L := List.mem_filter.mpr ⟨by decide +kernel, rfl⟩
theorem wk_54 : Cond.instanceMethod yX0_init ∈ tl_L := List.mem_filter.mpr ⟨by decide +kernel, rfl⟩
theorem wk_55 : Cond.code yX0_init cX0_init 1 none ∈ tl_L := List.mem_filter.mpr ⟨List.mem_of_getElem? (i := 210) (by decide +kernel), rfl⟩
theorem wk_56 : Cond.methodLink RX0 3 objectInit ∈ tl_L := List.mem_filter.mpr ⟨by decide +kernel, rfl⟩
theorem wk_57 : Cond.fieldLink RX0 9 "ThinLine$Book" "told" "[I" ∈ tl_L := List.mem_filter.mpr ⟨by decide +kernel, rfl⟩
theorem wk_58 : Cond.classLink RX0 15 RX4 ∈ tl_L := List.mem_filter.mpr ⟨by decide +kernel, rfl⟩
theorem wk_59 : Cond.instantiable RX4 6 ∈ tl_L := List.mem_filter.mpr ⟨by decide +kernel, rfl⟩
theorem wk_60 : Cond.initialized RX4 ∈ tl_L := List.mem_filter.mpr ⟨by decide +kernel, rfl⟩
theorem wk_61 : Cond.fieldLink RX0 18 "ThinLine$Book" "rows" "LThinLine$Rows;" ∈ tl_L := List.mem_filter.mpr ⟨by decide +kernel, rfl⟩
theorem wk_62 : Cond.classLink RX0 22 RX6 ∈ tl_L := List.mem_filter.mpr ⟨by decide +kernel, rfl⟩
theorem wk_63 : Cond.instantiable RX6 3 ∈ tl_L := List.mem_filter.mpr ⟨by decide +kernel, rfl⟩
theorem wk_64 : Cond.initialized RX6 ∈ tl_L := List.mem_filter.mpr ⟨by decide +kernel, rfl⟩
theorem wk_65 : Cond.fieldLink RX0 27 "ThinLine$Book" "slips" "LThinLine$Table;" ∈ tl_L := List.mem_filter.mpr ⟨by decide +kernel, rfl⟩
theorem wk_66 : Cond.fieldLink RX0 31 "ThinLine$Book" "lines" "LThinLine$Table;" ∈ tl_L := List.mem_filter.mpr ⟨by decide +kernel, rfl⟩
theorem wk_67 : Cond.fieldLink RX0 34 "ThinLine$Book" "candidates" "LThinLine$Table;" ∈ tl_L := List.mem_filter.mpr ⟨by decide +kernel, rfl⟩
theorem wk_68 : Cond.fieldLink RX0 37 "ThinLine$Book" "houses" "LThinLine$Table;" ∈ tl_L := List.mem_filter.mpr ⟨by decide +kernel, rfl⟩
theorem wk_69 : Cond.fieldLink RX0 40 "ThinLine$Book" "tape" "[I" ∈ tl_L := List.mem_filter.mpr ⟨by decide +kernel, rfl⟩
theorem wk_70 : Cond.instanceMethod yX4_init ∈ tl_L := List.mem_filter.mpr ⟨by decide +kernel, rfl⟩
theorem wk_71 : Cond.code yX4_init cX4_init 1 none ∈ tl_L := List.mem_filter.mpr ⟨List.mem_of_getElem? (i := 216) (by decide +kernel), rfl⟩
theorem wk_72 : Cond.methodLink RX4 3 objectInit ∈ tl_L := List.mem_filter.mpr ⟨by decide +kernel, rfl⟩
theorem wk_73 : Cond.fieldLink RX4 9 "ThinLine$Rows" "glass" "[I" ∈ tl_L := List.mem_filter.mpr ⟨by decide +kernel, rfl⟩
theorem wk_74 : Cond.fieldLink RX4 15 "ThinLine$Rows" "hour" "[I" ∈ tl_L := List.mem_filter.mpr ⟨by decide +kernel, rfl⟩
theorem wk_75 : Cond.fieldLink RX4 18 "ThinLine$Rows" "known" "[I" ∈ tl_L := List.mem_filter.mpr ⟨by decide +kernel, rfl⟩
theorem wk_76 : Cond.classLink RX4 21 "[[I" ∈ tl_L := List.mem_filter.mpr ⟨by decide +kernel, rfl⟩
theorem wk_77 : Cond.fieldLink RX4 23 "ThinLine$Rows" "raw" "[[I" ∈ tl_L := List.mem_filter.mpr ⟨by decide +kernel, rfl⟩
theorem wk_78 : Cond.instanceMethod yX6_init ∈ tl_L := List.mem_filter.mpr ⟨by decide +kernel, rfl⟩
theorem wk_79 : Cond.code yX6_init cX6_init 2 none ∈ tl_L := List.mem_filter.mpr ⟨List.mem_of_getElem? (i := 254) (by decide +kernel), rfl⟩
theorem wk_80 : Cond.methodLink RX6 3 objectInit ∈ tl_L := List.mem_filter.mpr ⟨by decide +kernel, rfl⟩
theorem wk_81 : Cond.methodLink RX6 9 Lib.Math.max.name ∈ tl_L := List.mem_filter.mpr ⟨by decide +kernel, rfl⟩
theorem wk_82 : Cond.static Lib.Math.max.name ∈ tl_L := List.mem_filter.mpr ⟨by decide +kernel, rfl⟩
theorem wk_83 : Cond.initialized "java/lang/Math" ∈ tl_L := List.mem_filter.mpr ⟨by decide +kernel, rfl⟩
theorem wk_84 : Cond.code Lib.Math.max.name Lib.Math.max.code 2 (some .int) ∈ tl_L := List.mem_filter.mpr ⟨List.mem_of_getElem? (i := 258) (by decide +kernel), rfl⟩
theorem wk_85 : Cond.fieldLink RX6 15 "ThinLine$Table" "most" "I" ∈ tl_L := List.mem_filter.mpr ⟨by decide +kernel, rfl⟩
theorem wk_86 : Cond.fieldLink RX6 21 "ThinLine$Table" "cells" "[I" ∈ tl_L := List.mem_filter.mpr ⟨by decide +kernel, rfl⟩
theorem wk_87 : Cond.instanceMethod yX8_init ∈ tl_L := List.mem_filter.mpr ⟨by decide +kernel, rfl⟩
theorem wk_88 : Cond.code yX8_init cX8_init 2 none ∈ tl_L := List.mem_filter.mpr ⟨List.mem_of_getElem? (i := 316) (by decide +kernel), rfl⟩
theorem wk_89 : Cond.methodLink RX8 3 objectInit ∈ tl_L := List.mem_filter.mpr ⟨by decide +kernel, rfl⟩
theorem wk_90 : Cond.methodLink RX8 9 Lib.Math.max.name ∈ tl_L := List.mem_filter.mpr ⟨by decide +kernel, rfl⟩
theorem wk_91 : Cond.classLink RX8 15 RX7 ∈ tl_L := List.mem_filter.mpr ⟨by decide +kernel, rfl⟩
theorem wk_92 : Cond.fieldLink RX8 17 "ThinLine$Texts" "kept" "[LThinLine$Text;" ∈ tl_L := List.mem_filter.mpr ⟨by decide +kernel, rfl⟩
theorem wk_93 : Cond.instanceMethod yX2_init ∈ tl_L := List.mem_filter.mpr ⟨by decide +kernel, rfl⟩
theorem wk_94 : Cond.code yX2_init cX2_init 1 none ∈ tl_L := List.mem_filter.mpr ⟨List.mem_of_getElem? (i := 333) (by decide +kernel), rfl⟩
theorem wk_95 : Cond.methodLink RX2 3 objectInit ∈ tl_L := List.mem_filter.mpr ⟨by decide +kernel, rfl⟩
theorem wk_96 : Cond.classLink RX2 9 RX9 ∈ tl_L := List.mem_filter.mpr ⟨by decide +kernel, rfl⟩
theorem wk_97 : Cond.instantiable RX9 4 ∈ tl_L := List.mem_filter.mpr ⟨by decide +kernel, rfl⟩
theorem wk_98 : Cond.initialized RX9 ∈ tl_L := List.mem_filter.mpr ⟨by decide +kernel, rfl⟩
theorem wk_99 : Cond.fieldLink RX2 12 "ThinLine$Parser" "tokens" "LThinLine$Tokens;" ∈ tl_L := List.mem_filter.mpr ⟨by decide +kernel, rfl⟩
theorem wk_100 : Cond.classLink RX2 18 RX7 ∈ tl_L := List.mem_filter.mpr ⟨by decide +kernel, rfl⟩
theorem wk_101 : Cond.fieldLink RX2 21 "ThinLine$Parser" "text" "LThinLine$Text;" ∈ tl_L := List.mem_filter.mpr ⟨by decide +kernel, rfl⟩
theorem wk_102 : Cond.instanceMethod yX9_init ∈ tl_L := List.mem_filter.mpr ⟨by decide +kernel, rfl⟩
theorem wk_103 : Cond.code yX9_init cX9_init 1 none ∈ tl_L := List.mem_filter.mpr ⟨List.mem_of_getElem? (i := 339) (by decide +kernel), rfl⟩
theorem wk_104 : Cond.methodLink RX9 3 objectInit ∈ tl_L := List.mem_filter.mpr ⟨by decide +kernel, rfl⟩
theorem wk_105 : Cond.fieldLink RX9 9 "ThinLine$Tokens" "kind" "[I" ∈ tl_L := List.mem_filter.mpr ⟨by decide +kernel, rfl⟩
theorem wk_106 : Cond.fieldLink RX9 15 "ThinLine$Tokens" "place" "[I" ∈ tl_L := List.mem_filter.mpr ⟨by decide +kernel, rfl⟩
theorem wk_107 : Cond.fieldLink RX9 18 "ThinLine$Tokens" "value" "[I" ∈ tl_L := List.mem_filter.mpr ⟨by decide +kernel, rfl⟩
theorem wk_108 : Cond.instanceMethod yX7_init ∈ tl_L := List.mem_filter.mpr ⟨by decide +kernel, rfl⟩
theorem wk_109 : Cond.code yX7_init cX7_init 1 none ∈ tl_L := List.mem_filter.mpr ⟨List.mem_of_getElem? (i := 362) (by decide +kernel), rfl⟩
theorem wk_110 : Cond.methodLink RX7 3 objectInit ∈ tl_L := List.mem_filter.mpr ⟨by decide +kernel, rfl⟩
theorem wk_111 : Cond.fieldLink RX7 9 "ThinLine$Text" "head" "[I" ∈ tl_L := List.mem_filter.mpr ⟨by decide +kernel, rfl⟩
theorem wk_112 : Cond.fieldLink RX7 15 "ThinLine$Text" "first" "[I" ∈ tl_L := List.mem_filter.mpr ⟨by decide +kernel, rfl⟩
theorem wk_113 : Cond.fieldLink RX7 18 "ThinLine$Text" "second" "[I" ∈ tl_L := List.mem_filter.mpr ⟨by decide +kernel, rfl⟩
theorem wk_114 : Cond.fieldLink RX7 21 "ThinLine$Text" "sumAt" "[I" ∈ tl_L := List.mem_filter.mpr ⟨by decide +kernel, rfl⟩
theorem wk_115 : Cond.fieldLink RX7 24 "ThinLine$Text" "testAt" "[I" ∈ tl_L := List.mem_filter.mpr ⟨by decide +kernel, rfl⟩
theorem wk_116 : Cond.fieldLink RX7 27 "ThinLine$Text" "endAt" "[I" ∈ tl_L := List.mem_filter.mpr ⟨by decide +kernel, rfl⟩
theorem wk_117 : Cond.fieldLink RX7 30 "ThinLine$Text" "steps" "[I" ∈ tl_L := List.mem_filter.mpr ⟨by decide +kernel, rfl⟩
theorem wk_118 : Cond.instanceMethod yX5_init ∈ tl_L := List.mem_filter.mpr ⟨by decide +kernel, rfl⟩
theorem wk_119 : Cond.code yX5_init cX5_init 1 none ∈ tl_L := List.mem_filter.mpr ⟨List.mem_of_getElem? (i := 437) (by decide +kernel), rfl⟩
theorem wk_120 : Cond.methodLink RX5 3 objectInit ∈ tl_L := List.mem_filter.mpr ⟨by decide +kernel, rfl⟩
theorem wk_121 : Cond.fieldLink RX5 9 "ThinLine$Sums" "words" "[J" ∈ tl_L := List.mem_filter.mpr ⟨by decide +kernel, rfl⟩
theorem wk_122 : Cond.fieldLink RX5 15 "ThinLine$Sums" "stack" "[J" ∈ tl_L := List.mem_filter.mpr ⟨by decide +kernel, rfl⟩
theorem wk_123 : Cond.instanceMethod yX1_init ∈ tl_L := List.mem_filter.mpr ⟨by decide +kernel, rfl⟩
theorem wk_124 : Cond.code yX1_init cX1_init 1 none ∈ tl_L := List.mem_filter.mpr ⟨List.mem_of_getElem? (i := 451) (by decide +kernel), rfl⟩
theorem wk_125 : Cond.methodLink RX1 3 objectInit ∈ tl_L := List.mem_filter.mpr ⟨by decide +kernel, rfl⟩
theorem wk_126 : Cond.fieldLink RX1 9 "ThinLine$Maker" "eaten" "[I" ∈ tl_L := List.mem_filter.mpr ⟨by decide +kernel, rfl⟩
theorem wk_127 : Cond.instanceMethod yX10_init ∈ tl_L := List.mem_filter.mpr ⟨by decide +kernel, rfl⟩
theorem wk_128 : Cond.code yX10_init cX10_init 1 none ∈ tl_L := List.mem_filter.mpr ⟨List.mem_of_getElem? (i := 473) (by decide +kernel), rfl⟩
theorem wk_129 : Cond.methodLink RX10 3 objectInit ∈ tl_L := List.mem_filter.mpr ⟨by decide +kernel, rfl⟩
theorem wk_130 : Cond.arrayClass .boolean ∈ tl_L := List.mem_filter.mpr ⟨by decide +kernel, rfl⟩
theorem wk_131 : Cond.fieldLink RX10 9 "ThinLine$View" "told" "[Z" ∈ tl_L := List.mem_filter.mpr ⟨by decide +kernel, rfl⟩
theorem wk_132 : Cond.fieldLink RX10 15 "ThinLine$View" "skipped" "[Z" ∈ tl_L := List.mem_filter.mpr ⟨by decide +kernel, rfl⟩
theorem wk_133 : Cond.fieldLink RX10 18 "ThinLine$View" "used" "[Z" ∈ tl_L := List.mem_filter.mpr ⟨by decide +kernel, rfl⟩
theorem wk_134 : Cond.fieldLink RX10 21 "ThinLine$View" "seen" "[I" ∈ tl_L := List.mem_filter.mpr ⟨by decide +kernel, rfl⟩
theorem wk_135 : Cond.fieldLink RX10 25 "ThinLine$View" "height" "[I" ∈ tl_L := List.mem_filter.mpr ⟨by decide +kernel, rfl⟩
theorem wk_136 : Cond.fieldLink RX10 28 "ThinLine$View" "openAhead" "[I" ∈ tl_L := List.mem_filter.mpr ⟨by decide +kernel, rfl⟩
theorem wk_137 : Cond.fieldLink RX10 31 "ThinLine$View" "sumAhead" "[I" ∈ tl_L := List.mem_filter.mpr ⟨by decide +kernel, rfl⟩
theorem wk_138 : Cond.fieldLink RX10 34 "ThinLine$View" "knotColour" "[I" ∈ tl_L := List.mem_filter.mpr ⟨by decide +kernel, rfl⟩
theorem wk_139 : Cond.fieldLink RX10 37 "ThinLine$View" "knotHeight" "[I" ∈ tl_L := List.mem_filter.mpr ⟨by decide +kernel, rfl⟩
theorem wk_140 : Cond.instanceMethod yX3_init ∈ tl_L := List.mem_filter.mpr ⟨by decide +kernel, rfl⟩
theorem wk_141 : Cond.code yX3_init cX3_init 1 none ∈ tl_L := List.mem_filter.mpr ⟨List.mem_of_getElem? (i := 546) (by decide +kernel), rfl⟩
theorem wk_142 : Cond.methodLink RX3 3 objectInit ∈ tl_L := List.mem_filter.mpr ⟨by decide +kernel, rfl⟩
theorem wk_143 : Cond.fieldLink RX3 9 "ThinLine$Rests" "left" "[J" ∈ tl_L := List.mem_filter.mpr ⟨by decide +kernel, rfl⟩
theorem wk_144 : Cond.fieldLink RX3 15 "ThinLine$Rests" "many" "[I" ∈ tl_L := List.mem_filter.mpr ⟨by decide +kernel, rfl⟩
theorem wk_187 : Cond.methodLink RX11 94 yX11_isWeek ∈ tl_L := List.mem_filter.mpr ⟨by decide +kernel, rfl⟩
theorem wk_188 : Cond.static yX11_isWeek ∈ tl_L := List.mem_filter.mpr ⟨by decide +kernel, rfl⟩
theorem wk_189 : Cond.code yX11_isWeek cX11_isWeek 1 (some .boolean) ∈ tl_L := List.mem_filter.mpr ⟨List.mem_of_getElem? (i := 610) (by decide +kernel), rfl⟩
theorem wk_190 : Cond.methodLink RX11 105 yX11_isIn ∈ tl_L := List.mem_filter.mpr ⟨by decide +kernel, rfl⟩
theorem wk_191 : Cond.static yX11_isIn ∈ tl_L := List.mem_filter.mpr ⟨by decide +kernel, rfl⟩
theorem wk_192 : Cond.code yX11_isIn cX11_isIn 3 (some .boolean) ∈ tl_L := List.mem_filter.mpr ⟨List.mem_of_getElem? (i := 613) (by decide +kernel), rfl⟩
theorem wk_205 : Cond.methodLink RX11 102 yX11_isGlass ∈ tl_L := List.mem_filter.mpr ⟨by decide +kernel, rfl⟩
theorem wk_206 : Cond.static yX11_isGlass ∈ tl_L := List.mem_filter.mpr ⟨by decide +kernel, rfl⟩
theorem wk_207 : Cond.code yX11_isGlass cX11_isGlass 1 (some .boolean) ∈ tl_L := List.mem_filter.mpr ⟨List.mem_of_getElem? (i := 620) (by decide +kernel), rfl⟩
theorem wk_208 : Cond.instanceMethod yX4_add ∈ tl_L := List.mem_filter.mpr ⟨by decide +kernel, rfl⟩
theorem wk_209 : Cond.selects RX4 yX4_add yX4_add ∈ tl_L := List.mem_filter.mpr ⟨by decide +kernel, rfl⟩
theorem wk_210 : Cond.code yX4_add cX4_add 4 (some .int) ∈ tl_L := List.mem_filter.mpr ⟨List.mem_of_getElem? (i := 624) (by decide +kernel), rfl⟩
theorem wk_211 : Cond.fieldLink RX4 26 "ThinLine$Rows" "size" "I" ∈ tl_L := List.mem_filter.mpr ⟨by decide +kernel, rfl⟩
theorem wk_212 : Cond.constant RX4 30 (-1000000) ∈ tl_L := List.mem_filter.mpr ⟨by decide +kernel, rfl⟩
theorem wk_213 : Cond.methodLink RX4 31 yJ7_fill_53178 ∈ tl_L := List.mem_filter.mpr ⟨by decide +kernel, rfl⟩
theorem wk_214 : Cond.static yJ7_fill_53178 ∈ tl_L := List.mem_filter.mpr ⟨by decide +kernel, rfl⟩
theorem wk_215 : Cond.initialized RJ7 ∈ tl_L := List.mem_filter.mpr ⟨by decide +kernel, rfl⟩
theorem wk_216 : Cond.code yJ7_fill_53178 cJ7_fill_53178 4 none ∈ tl_L := List.mem_filter.mpr ⟨List.mem_of_getElem? (i := 628) (by decide +kernel), rfl⟩
theorem wk_227 : Cond.constant RX11 119 (-1000000) ∈ tl_L := List.mem_filter.mpr ⟨by decide +kernel, rfl⟩
theorem wk_228 : Cond.constant RX11 120 (-100000) ∈ tl_L := List.mem_filter.mpr ⟨by decide +kernel, rfl⟩
theorem wk_229 : Cond.constant RX11 121 (100000) ∈ tl_L := List.mem_filter.mpr ⟨by decide +kernel, rfl⟩
theorem wk_230 : Cond.constant RX11 128 (-2000000) ∈ tl_L := List.mem_filter.mpr ⟨by decide +kernel, rfl⟩
theorem wk_231 : Cond.instanceMethod yX4_has ∈ tl_L := List.mem_filter.mpr ⟨by decide +kernel, rfl⟩
theorem wk_232 : Cond.selects RX4 yX4_has yX4_has ∈ tl_L := List.mem_filter.mpr ⟨by decide +kernel, rfl⟩
theorem wk_233 : Cond.code yX4_has cX4_has 2 (some .boolean) ∈ tl_L := List.mem_filter.mpr ⟨List.mem_of_getElem? (i := 639) (by decide +kernel), rfl⟩
theorem wk_234 : Cond.methodLink RX11 125 yX11_isColour ∈ tl_L := List.mem_filter.mpr ⟨by decide +kernel, rfl⟩
theorem wk_235 : Cond.static yX11_isColour ∈ tl_L := List.mem_filter.mpr ⟨by decide +kernel, rfl⟩
theorem wk_236 : Cond.code yX11_isColour cX11_isColour 1 (some .boolean) ∈ tl_L := List.mem_filter.mpr ⟨List.mem_of_getElem? (i := 642) (by decide +kernel), rfl⟩
theorem wk_240 : Cond.fieldLink RX4 44 "ThinLine$Rows" "numbers" "I" ∈ tl_L := List.mem_filter.mpr ⟨by decide +kernel, rfl⟩
theorem wk_266 : Cond.fieldLink RX6 25 "ThinLine$Table" "size" "I" ∈ tl_L := List.mem_filter.mpr ⟨by decide +kernel, rfl⟩
theorem wk_283 : Cond.methodLink RX11 143 yX11_isSpan ∈ tl_L := List.mem_filter.mpr ⟨by decide +kernel, rfl⟩
theorem wk_284 : Cond.static yX11_isSpan ∈ tl_L := List.mem_filter.mpr ⟨by decide +kernel, rfl⟩
theorem wk_285 : Cond.code yX11_isSpan cX11_isSpan 2 (some .boolean) ∈ tl_L := List.mem_filter.mpr ⟨List.mem_of_getElem? (i := 668) (by decide +kernel), rfl⟩
theorem wk_286 : Cond.instanceMethod yX6_add ∈ tl_L := List.mem_filter.mpr ⟨by decide +kernel, rfl⟩
theorem wk_287 : Cond.selects RX6 yX6_add yX6_add ∈ tl_L := List.mem_filter.mpr ⟨by decide +kernel, rfl⟩
theorem wk_288 : Cond.code yX6_add cX6_add 6 (some .int) ∈ tl_L := List.mem_filter.mpr ⟨List.mem_of_getElem? (i := 672) (by decide +kernel), rfl⟩
theorem wk_289 : Cond.methodLink RX6 28 yX6_set ∈ tl_L := List.mem_filter.mpr ⟨by decide +kernel, rfl⟩
theorem wk_290 : Cond.instanceMethod yX6_set ∈ tl_L := List.mem_filter.mpr ⟨by decide +kernel, rfl⟩
theorem wk_291 : Cond.selects RX6 yX6_set yX6_set ∈ tl_L := List.mem_filter.mpr ⟨by decide +kernel, rfl⟩
theorem wk_292 : Cond.code yX6_set cX6_set 4 none ∈ tl_L := List.mem_filter.mpr ⟨List.mem_of_getElem? (i := 676) (by decide +kernel), rfl⟩
theorem wk_293 : Cond.methodLink RX6 32 yX6_has ∈ tl_L := List.mem_filter.mpr ⟨by decide +kernel, rfl⟩
theorem wk_294 : Cond.instanceMethod yX6_has ∈ tl_L := List.mem_filter.mpr ⟨by decide +kernel, rfl⟩
theorem wk_295 : Cond.selects RX6 yX6_has yX6_has ∈ tl_L := List.mem_filter.mpr ⟨by decide +kernel, rfl⟩
theorem wk_296 : Cond.code yX6_has cX6_has 2 (some .boolean) ∈ tl_L := List.mem_filter.mpr ⟨List.mem_of_getElem? (i := 680) (by decide +kernel), rfl⟩
theorem wk_315 : Cond.methodLink RX11 164 yX11_isStuff ∈ tl_L := List.mem_filter.mpr ⟨by decide +kernel, rfl⟩
theorem wk_316 : Cond.static yX11_isStuff ∈ tl_L := List.mem_filter.mpr ⟨by decide +kernel, rfl⟩
theorem wk_317 : Cond.code yX11_isStuff cX11_isStuff 1 (some .boolean) ∈ tl_L := List.mem_filter.mpr ⟨List.mem_of_getElem? (i := 694) (by decide +kernel), rfl⟩
theorem wk_318 : Cond.instanceMethod yX0_hasLine ∈ tl_L := List.mem_filter.mpr ⟨by decide +kernel, rfl⟩
theorem wk_319 : Cond.selects RX0 yX0_hasLine yX0_hasLine ∈ tl_L := List.mem_filter.mpr ⟨by decide +kernel, rfl⟩
theorem wk_320 : Cond.code yX0_hasLine cX0_hasLine 5 (some .boolean) ∈ tl_L := List.mem_filter.mpr ⟨List.mem_of_getElem? (i := 698) (by decide +kernel), rfl⟩
theorem wk_339 : Cond.instanceMethod yX0_append ∈ tl_L := List.mem_filter.mpr ⟨by decide +kernel, rfl⟩
theorem wk_340 : Cond.selects RX0 yX0_append yX0_append ∈ tl_L := List.mem_filter.mpr ⟨by decide +kernel, rfl⟩
theorem wk_341 : Cond.code yX0_append cX0_append 3 none ∈ tl_L := List.mem_filter.mpr ⟨List.mem_of_getElem? (i := 706) (by decide +kernel), rfl⟩
theorem wk_342 : Cond.fieldLink RX0 60 "ThinLine$Book" "taped" "I" ∈ tl_L := List.mem_filter.mpr ⟨by decide +kernel, rfl⟩
theorem wk_364 : Cond.methodLink RX11 182 yX11_shelfOf ∈ tl_L := List.mem_filter.mpr ⟨by decide +kernel, rfl⟩
theorem wk_365 : Cond.instanceMethod yX11_shelfOf ∈ tl_L := List.mem_filter.mpr ⟨by decide +kernel, rfl⟩
theorem wk_366 : Cond.selects RX11 yX11_shelfOf yX11_shelfOf ∈ tl_L := List.mem_filter.mpr ⟨by decide +kernel, rfl⟩
theorem wk_367 : Cond.code yX11_shelfOf cX11_shelfOf 2 (some (.object "ThinLine$Texts")) ∈ tl_L := List.mem_filter.mpr ⟨List.mem_of_getElem? (i := 718) (by decide +kernel), rfl⟩
theorem wk_368 : Cond.instanceMethod yX8_isFull ∈ tl_L := List.mem_filter.mpr ⟨by decide +kernel, rfl⟩
theorem wk_369 : Cond.selects RX8 yX8_isFull yX8_isFull ∈ tl_L := List.mem_filter.mpr ⟨by decide +kernel, rfl⟩
theorem wk_370 : Cond.code yX8_isFull cX8_isFull 1 (some .boolean) ∈ tl_L := List.mem_filter.mpr ⟨List.mem_of_getElem? (i := 722) (by decide +kernel), rfl⟩
theorem wk_371 : Cond.fieldLink RX8 23 "ThinLine$Texts" "size" "I" ∈ tl_L := List.mem_filter.mpr ⟨by decide +kernel, rfl⟩
theorem wk_372 : Cond.instanceMethod yX7_wipe ∈ tl_L := List.mem_filter.mpr ⟨by decide +kernel, rfl⟩
theorem wk_373 : Cond.selects RX7 yX7_wipe yX7_wipe ∈ tl_L := List.mem_filter.mpr ⟨by decide +kernel, rfl⟩
theorem wk_374 : Cond.code yX7_wipe cX7_wipe 1 none ∈ tl_L := List.mem_filter.mpr ⟨List.mem_of_getElem? (i := 726) (by decide +kernel), rfl⟩
theorem wk_375 : Cond.fieldLink RX7 33 "ThinLine$Text" "clauses" "I" ∈ tl_L := List.mem_filter.mpr ⟨by decide +kernel, rfl⟩
theorem wk_376 : Cond.fieldLink RX7 37 "ThinLine$Text" "length" "I" ∈ tl_L := List.mem_filter.mpr ⟨by decide +kernel, rfl⟩
theorem wk_377 : Cond.instanceMethod yX2_parse ∈ tl_L := List.mem_filter.mpr ⟨by decide +kernel, rfl⟩
theorem wk_378 : Cond.selects RX2 yX2_parse yX2_parse ∈ tl_L := List.mem_filter.mpr ⟨by decide +kernel, rfl⟩
theorem wk_379 : Cond.code yX2_parse cX2_parse 5 (some .int) ∈ tl_L := List.mem_filter.mpr ⟨List.mem_of_getElem? (i := 730) (by decide +kernel), rfl⟩
theorem wk_380 : Cond.fieldLink RX2 29 "ThinLine$Parser" "sort" "I" ∈ tl_L := List.mem_filter.mpr ⟨by decide +kernel, rfl⟩
theorem wk_381 : Cond.fieldLink RX2 33 "ThinLine$Parser" "at" "I" ∈ tl_L := List.mem_filter.mpr ⟨by decide +kernel, rfl⟩
theorem wk_382 : Cond.fieldLink RX2 36 "ThinLine$Parser" "items" "I" ∈ tl_L := List.mem_filter.mpr ⟨by decide +kernel, rfl⟩
theorem wk_383 : Cond.fieldLink RX2 39 "ThinLine$Parser" "fault" "I" ∈ tl_L := List.mem_filter.mpr ⟨by decide +kernel, rfl⟩
theorem wk_384 : Cond.instanceMethod yX9_cut ∈ tl_L := List.mem_filter.mpr ⟨by decide +kernel, rfl⟩
theorem wk_385 : Cond.selects RX9 yX9_cut yX9_cut ∈ tl_L := List.mem_filter.mpr ⟨by decide +kernel, rfl⟩
theorem wk_386 : Cond.code yX9_cut cX9_cut 5 none ∈ tl_L := List.mem_filter.mpr ⟨List.mem_of_getElem? (i := 734) (by decide +kernel), rfl⟩
theorem wk_387 : Cond.fieldLink RX9 21 "ThinLine$Tokens" "size" "I" ∈ tl_L := List.mem_filter.mpr ⟨by decide +kernel, rfl⟩
theorem wk_455 : Cond.methodLink RX9 44 yX9_add ∈ tl_L := List.mem_filter.mpr ⟨by decide +kernel, rfl⟩
theorem wk_456 : Cond.instanceMethod yX9_add ∈ tl_L := List.mem_filter.mpr ⟨by decide +kernel, rfl⟩
theorem wk_457 : Cond.selects RX9 yX9_add yX9_add ∈ tl_L := List.mem_filter.mpr ⟨by decide +kernel, rfl⟩
theorem wk_458 : Cond.code yX9_add cX9_add 4 none ∈ tl_L := List.mem_filter.mpr ⟨List.mem_of_getElem? (i := 828) (by decide +kernel), rfl⟩
theorem wk_459 : Cond.methodLink RX2 42 yX2_head ∈ tl_L := List.mem_filter.mpr ⟨by decide +kernel, rfl⟩
theorem wk_460 : Cond.instanceMethod yX2_head ∈ tl_L := List.mem_filter.mpr ⟨by decide +kernel, rfl⟩
theorem wk_461 : Cond.selects RX2 yX2_head yX2_head ∈ tl_L := List.mem_filter.mpr ⟨by decide +kernel, rfl⟩
theorem wk_462 : Cond.code yX2_head cX2_head 3 (some .boolean) ∈ tl_L := List.mem_filter.mpr ⟨List.mem_of_getElem? (i := 832) (by decide +kernel), rfl⟩
theorem wk_463 : Cond.methodLink RX2 67 yX2_valueHere ∈ tl_L := List.mem_filter.mpr ⟨by decide +kernel, rfl⟩
theorem wk_464 : Cond.instanceMethod yX2_valueHere ∈ tl_L := List.mem_filter.mpr ⟨by decide +kernel, rfl⟩
theorem wk_465 : Cond.selects RX2 yX2_valueHere yX2_valueHere ∈ tl_L := List.mem_filter.mpr ⟨by decide +kernel, rfl⟩
theorem wk_466 : Cond.code yX2_valueHere cX2_valueHere 1 (some .int) ∈ tl_L := List.mem_filter.mpr ⟨List.mem_of_getElem? (i := 836) (by decide +kernel), rfl⟩
theorem wk_467 : Cond.methodLink RX2 49 yX2_kindHere ∈ tl_L := List.mem_filter.mpr ⟨by decide +kernel, rfl⟩
theorem wk_468 : Cond.instanceMethod yX2_kindHere ∈ tl_L := List.mem_filter.mpr ⟨by decide +kernel, rfl⟩
theorem wk_469 : Cond.selects RX2 yX2_kindHere yX2_kindHere ∈ tl_L := List.mem_filter.mpr ⟨by decide +kernel, rfl⟩
theorem wk_470 : Cond.code yX2_kindHere cX2_kindHere 1 (some .int) ∈ tl_L := List.mem_filter.mpr ⟨List.mem_of_getElem? (i := 840) (by decide +kernel), rfl⟩
theorem wk_475 : Cond.methodLink RX2 53 yX2_faultHere ∈ tl_L := List.mem_filter.mpr ⟨by decide +kernel, rfl⟩
theorem wk_476 : Cond.instanceMethod yX2_faultHere ∈ tl_L := List.mem_filter.mpr ⟨by decide +kernel, rfl⟩
theorem wk_477 : Cond.selects RX2 yX2_faultHere yX2_faultHere ∈ tl_L := List.mem_filter.mpr ⟨by decide +kernel, rfl⟩
theorem wk_478 : Cond.code yX2_faultHere cX2_faultHere 3 (some .boolean) ∈ tl_L := List.mem_filter.mpr ⟨List.mem_of_getElem? (i := 848) (by decide +kernel), rfl⟩
theorem wk_693 : Cond.instanceMethod yX8_at ∈ tl_L := List.mem_filter.mpr ⟨by decide +kernel, rfl⟩
theorem wk_694 : Cond.selects RX8 yX8_at yX8_at ∈ tl_L := List.mem_filter.mpr ⟨by decide +kernel, rfl⟩
theorem wk_695 : Cond.code yX8_at cX8_at 2 (some (.object "ThinLine$Text")) ∈ tl_L := List.mem_filter.mpr ⟨List.mem_of_getElem? (i := 914) (by decide +kernel), rfl⟩
theorem wk_762 : Cond.methodLink RX11 360 Lib.MathLoose.max_long.x ∈ tl_L := List.mem_filter.mpr ⟨by decide +kernel, rfl⟩
theorem wk_763 : Cond.static Lib.MathLoose.max_long.x ∈ tl_L := List.mem_filter.mpr ⟨by decide +kernel, rfl⟩
theorem wk_764 : Cond.code Lib.MathLoose.max_long.x Lib.MathLoose.max_long.code 4 (some .long) ∈ tl_L := List.mem_filter.mpr ⟨List.mem_of_getElem? (i := 985) (by decide +kernel), rfl⟩
theorem wk_770 : Cond.static Lib.Math.min.name ∈ tl_L := List.mem_filter.mpr ⟨by decide +kernel, rfl⟩
theorem wk_771 : Cond.code Lib.Math.min.name Lib.Math.min.code 2 (some .int) ∈ tl_L := List.mem_filter.mpr ⟨List.mem_of_getElem? (i := 992) (by decide +kernel), rfl⟩
theorem wk_826 : Cond.methodLink RX11 246 yX11_look ∈ tl_L := List.mem_filter.mpr ⟨by decide +kernel, rfl⟩
theorem wk_827 : Cond.instanceMethod yX11_look ∈ tl_L := List.mem_filter.mpr ⟨by decide +kernel, rfl⟩
theorem wk_828 : Cond.selects RX11 yX11_look yX11_look ∈ tl_L := List.mem_filter.mpr ⟨by decide +kernel, rfl⟩
theorem wk_829 : Cond.code yX11_look cX11_look 5 (some .boolean) ∈ tl_L := List.mem_filter.mpr ⟨List.mem_of_getElem? (i := 1007) (by decide +kernel), rfl⟩
theorem wk_961 : Cond.constantLong RX11 262 (-2000000000) ∈ tl_L := List.mem_filter.mpr ⟨by decide +kernel, rfl⟩
theorem wk_962 : Cond.constantLong RX11 272 (-1) ∈ tl_L := List.mem_filter.mpr ⟨by decide +kernel, rfl⟩
theorem wk_1053 : Cond.constant RX11 312 (99999) ∈ tl_L := List.mem_filter.mpr ⟨by decide +kernel, rfl⟩
theorem wk_1055 : Cond.constantLong RX11 322 (-2) ∈ tl_L := List.mem_filter.mpr ⟨by decide +kernel, rfl⟩
theorem wk_1085 : Cond.constant RX11 494 (-999999) ∈ tl_L := List.mem_filter.mpr ⟨by decide +kernel, rfl⟩
theorem wk_1086 : Cond.constant RX11 495 (999999) ∈ tl_L := List.mem_filter.mpr ⟨by decide +kernel, rfl⟩
theorem wk_1157 : Cond.constant RX11 368 (-2000000000) ∈ tl_L := List.mem_filter.mpr ⟨by decide +kernel, rfl⟩
theorem wk_1210 : Cond.methodLink RX11 384 yJ7_fill_53178 ∈ tl_L := List.mem_filter.mpr ⟨by decide +kernel, rfl⟩
theorem wk_1211 : Cond.methodLink RX11 396 yX11_begunUpTo ∈ tl_L := List.mem_filter.mpr ⟨by decide +kernel, rfl⟩
theorem wk_1212 : Cond.instanceMethod yX11_begunUpTo ∈ tl_L := List.mem_filter.mpr ⟨by decide +kernel, rfl⟩
theorem wk_1213 : Cond.selects RX11 yX11_begunUpTo yX11_begunUpTo ∈ tl_L := List.mem_filter.mpr ⟨by decide +kernel, rfl⟩
theorem wk_1214 : Cond.code yX11_begunUpTo cX11_begunUpTo 4 (some .int) ∈ tl_L := List.mem_filter.mpr ⟨List.mem_of_getElem? (i := 1253) (by decide +kernel), rfl⟩
theorem wk_1302 : Cond.constantLong RX11 304 (-2100000000) ∈ tl_L := List.mem_filter.mpr ⟨by decide +kernel, rfl⟩
theorem wk_1336 : Cond.methodLink RX11 426 yX11_findHouses ∈ tl_L := List.mem_filter.mpr ⟨by decide +kernel, rfl⟩
theorem wk_1337 : Cond.instanceMethod yX11_findHouses ∈ tl_L := List.mem_filter.mpr ⟨by decide +kernel, rfl⟩
theorem wk_1338 : Cond.selects RX11 yX11_findHouses yX11_findHouses ∈ tl_L := List.mem_filter.mpr ⟨by decide +kernel, rfl⟩
theorem wk_1339 : Cond.code yX11_findHouses cX11_findHouses 2 none ∈ tl_L := List.mem_filter.mpr ⟨List.mem_of_getElem? (i := 1328) (by decide +kernel), rfl⟩
theorem wk_1448 : Cond.methodLink RX11 474 yX11_isNeed ∈ tl_L := List.mem_filter.mpr ⟨by decide +kernel, rfl⟩
theorem wk_1449 : Cond.static yX11_isNeed ∈ tl_L := List.mem_filter.mpr ⟨by decide +kernel, rfl⟩
theorem wk_1450 : Cond.code yX11_isNeed cX11_isNeed 1 (some .boolean) ∈ tl_L := List.mem_filter.mpr ⟨List.mem_of_getElem? (i := 1384) (by decide +kernel), rfl⟩
theorem wk_1451 : Cond.constant RX11 496 (999999999) ∈ tl_L := List.mem_filter.mpr ⟨by decide +kernel, rfl⟩
theorem wk_1452 : Cond.methodLink RX11 477 yX11_findGiven ∈ tl_L := List.mem_filter.mpr ⟨by decide +kernel, rfl⟩
theorem wk_1453 : Cond.instanceMethod yX11_findGiven ∈ tl_L := List.mem_filter.mpr ⟨by decide +kernel, rfl⟩
theorem wk_1454 : Cond.selects RX11 yX11_findGiven yX11_findGiven ∈ tl_L := List.mem_filter.mpr ⟨by decide +kernel, rfl⟩
theorem wk_1455 : Cond.code yX11_findGiven cX11_findGiven 5 (some .long) ∈ tl_L := List.mem_filter.mpr ⟨List.mem_of_getElem? (i := 1389) (by decide +kernel), rfl⟩
theorem wk_1469 : Cond.methodLink RX11 480 yJ6_bitCount_0f7a4 ∈ tl_L := List.mem_filter.mpr ⟨by decide +kernel, rfl⟩
theorem wk_1470 : Cond.static yJ6_bitCount_0f7a4 ∈ tl_L := List.mem_filter.mpr ⟨by decide +kernel, rfl⟩
theorem wk_1471 : Cond.initialized RJ6 ∈ tl_L := List.mem_filter.mpr ⟨by decide +kernel, rfl⟩
theorem wk_1472 : Cond.code yJ6_bitCount_0f7a4 cJ6_bitCount_0f7a4 1 (some .int) ∈ tl_L := List.mem_filter.mpr ⟨List.mem_of_getElem? (i := 1396) (by decide +kernel), rfl⟩
theorem wk_1473 : Cond.constant RJ6 265 (1431655765) ∈ tl_L := List.mem_filter.mpr ⟨by decide +kernel, rfl⟩
theorem wk_1474 : Cond.constant RJ6 266 (858993459) ∈ tl_L := List.mem_filter.mpr ⟨by decide +kernel, rfl⟩
theorem wk_1475 : Cond.constant RJ6 267 (252645135) ∈ tl_L := List.mem_filter.mpr ⟨by decide +kernel, rfl⟩
theorem wk_1476 : Cond.methodLink RX11 485 yX11_givenTogether ∈ tl_L := List.mem_filter.mpr ⟨by decide +kernel, rfl⟩
theorem wk_1477 : Cond.instanceMethod yX11_givenTogether ∈ tl_L := List.mem_filter.mpr ⟨by decide +kernel, rfl⟩
theorem wk_1478 : Cond.selects RX11 yX11_givenTogether yX11_givenTogether ∈ tl_L := List.mem_filter.mpr ⟨by decide +kernel, rfl⟩
theorem wk_1479 : Cond.code yX11_givenTogether cX11_givenTogether 5 (some .long) ∈ tl_L := List.mem_filter.mpr ⟨List.mem_of_getElem? (i := 1403) (by decide +kernel), rfl⟩
theorem wk_1499 : Cond.instanceMethod yX0_copyFrom ∈ tl_L := List.mem_filter.mpr ⟨by decide +kernel, rfl⟩
theorem wk_1500 : Cond.selects RX0 yX0_copyFrom yX0_copyFrom ∈ tl_L := List.mem_filter.mpr ⟨by decide +kernel, rfl⟩
theorem wk_1501 : Cond.code yX0_copyFrom cX0_copyFrom 2 none ∈ tl_L := List.mem_filter.mpr ⟨List.mem_of_getElem? (i := 1415) (by decide +kernel), rfl⟩
theorem wk_1502 : Cond.fieldLink RX0 43 "ThinLine$Book" "now" "I" ∈ tl_L := List.mem_filter.mpr ⟨by decide +kernel, rfl⟩
theorem wk_1503 : Cond.methodLink RX0 47 arraycopyName ∈ tl_L := List.mem_filter.mpr ⟨by decide +kernel, rfl⟩
theorem wk_1504 : Cond.native arraycopyName ∈ tl_L := List.mem_filter.mpr ⟨by decide +kernel, rfl⟩
theorem wk_1505 : Cond.static arraycopyName ∈ tl_L := List.mem_filter.mpr ⟨by decide +kernel, rfl⟩
theorem wk_1506 : Cond.initialized "java/lang/System" ∈ tl_L := List.mem_filter.mpr ⟨by decide +kernel, rfl⟩
theorem wk_1507 : Cond.instanceMethod yX4_copyFrom ∈ tl_L := List.mem_filter.mpr ⟨by decide +kernel, rfl⟩
theorem wk_1508 : Cond.selects RX4 yX4_copyFrom yX4_copyFrom ∈ tl_L := List.mem_filter.mpr ⟨by decide +kernel, rfl⟩
theorem wk_1509 : Cond.code yX4_copyFrom cX4_copyFrom 3 none ∈ tl_L := List.mem_filter.mpr ⟨List.mem_of_getElem? (i := 1422) (by decide +kernel), rfl⟩
theorem wk_1510 : Cond.methodLink RX4 47 arraycopyName ∈ tl_L := List.mem_filter.mpr ⟨by decide +kernel, rfl⟩
theorem wk_1511 : Cond.instanceMethod yX6_copyFrom ∈ tl_L := List.mem_filter.mpr ⟨by decide +kernel, rfl⟩
theorem wk_1512 : Cond.selects RX6 yX6_copyFrom yX6_copyFrom ∈ tl_L := List.mem_filter.mpr ⟨by decide +kernel, rfl⟩
theorem wk_1513 : Cond.code yX6_copyFrom cX6_copyFrom 2 none ∈ tl_L := List.mem_filter.mpr ⟨List.mem_of_getElem? (i := 1427) (by decide +kernel), rfl⟩
theorem wk_1514 : Cond.methodLink RX6 36 Lib.Math.min.name ∈ tl_L := List.mem_filter.mpr ⟨by decide +kernel, rfl⟩
theorem wk_1515 : Cond.methodLink RX6 39 arraycopyName ∈ tl_L := List.mem_filter.mpr ⟨by decide +kernel, rfl⟩
theorem nk_2 : tl_N[2]? = some (Cond.fieldLinkNest "ThinLine" 339 "ThinLine$Rows" "size" "I" "ThinLine") := by decide +kernel
theorem nk_3 : tl_N[3]? = some (Cond.fieldLinkNest "ThinLine" 488 "ThinLine$Rows" "numbers" "I" "ThinLine") := by decide +kernel
theorem nk_14 : tl_N[14]? = some (Cond.fieldLinkNest "ThinLine$Book" 63 "ThinLine$Table" "size" "I" "ThinLine") := by decide +kernel
theorem nk_15 : tl_N[15]? = some (Cond.fieldLinkNest "ThinLine" 173 "ThinLine$Table" "size" "I" "ThinLine") := by decide +kernel
theorem nk_16 : tl_N[16]? = some (Cond.fieldLinkNest "ThinLine" 98 "ThinLine$Book" "now" "I" "ThinLine") := by decide +kernel
theorem nk_19 : tl_N[19]? = some (Cond.fieldLinkNest "ThinLine" 447 "ThinLine$Book" "told" "[I" "ThinLine") := by decide +kernel
theorem nk_20 : tl_N[20]? = some (Cond.fieldLinkNest "ThinLine" 109 "ThinLine$Book" "rows" "LThinLine$Rows;" "ThinLine") := by decide +kernel
theorem nk_21 : tl_N[21]? = some (Cond.fieldLinkNest "ThinLine" 147 "ThinLine$Book" "slips" "LThinLine$Table;" "ThinLine") := by decide +kernel
theorem nk_22 : tl_N[22]? = some (Cond.fieldLinkNest "ThinLine" 170 "ThinLine$Book" "lines" "LThinLine$Table;" "ThinLine") := by decide +kernel
theorem nk_23 : tl_N[23]? = some (Cond.fieldLinkNest "ThinLine" 429 "ThinLine$Book" "candidates" "LThinLine$Table;" "ThinLine") := by decide +kernel
theorem nk_24 : tl_N[24]? = some (Cond.fieldLinkNest "ThinLine" 420 "ThinLine$Book" "houses" "LThinLine$Table;" "ThinLine") := by decide +kernel
theorem nk_25 : tl_N[25]? = some (Cond.fieldLinkNest "ThinLine$Tokens" 25 "ThinLine$Book" "taped" "I" "ThinLine") := by decide +kernel
theorem nk_26 : tl_N[26]? = some (Cond.fieldLinkNest "ThinLine" 176 "ThinLine$Book" "taped" "I" "ThinLine") := by decide +kernel
theorem nk_28 : tl_N[28]? = some (Cond.fieldLinkNest "ThinLine" 470 "ThinLine$Texts" "size" "I" "ThinLine") := by decide +kernel
theorem nk_31 : tl_N[31]? = some (Cond.fieldLinkNest "ThinLine$Parser" 60 "ThinLine$Tokens" "kind" "[I" "ThinLine") := by decide +kernel
theorem nk_32 : tl_N[32]? = some (Cond.fieldLinkNest "ThinLine$Parser" 70 "ThinLine$Tokens" "place" "[I" "ThinLine") := by decide +kernel
theorem nk_33 : tl_N[33]? = some (Cond.fieldLinkNest "ThinLine$Parser" 64 "ThinLine$Tokens" "value" "[I" "ThinLine") := by decide +kernel
theorem nk_34 : tl_N[34]? = some (Cond.fieldLinkNest "ThinLine$Parser" 57 "ThinLine$Tokens" "size" "I" "ThinLine") := by decide +kernel
theorem lk_X0_17 : tl_kIN RX0 17 yX4_init "ThinLine" cX4_init 1 0 1 := ⟨wk_71, by decide +kernel, wk_70, wk_60, rfl, ⟨by decide +kernel, by decide +kernel, by decide +kernel⟩⟩
theorem lk_X0_24 : tl_kIN RX0 24 yX6_init "ThinLine" cX6_init 2 1 12 := ⟨wk_79, by decide +kernel, wk_78, wk_64, rfl, ⟨by decide +kernel, by decide +kernel, by decide +kernel⟩⟩
theorem lk_X0_53 : tl_kVN RX0 53 RX4 yX4_copyFrom "ThinLine" cX4_copyFrom 3 none 1 141 := ⟨wk_1509, by decide +kernel, wk_1507, wk_1508, wk_60, ⟨by decide +kernel, by decide +kernel, by decide +kernel⟩⟩
theorem lk_X0_57 : tl_kVN RX0 57 RX6 yX6_copyFrom "ThinLine" cX6_copyFrom 2 none 1 142 := ⟨wk_1513, by decide +kernel, wk_1511, wk_1512, wk_64, ⟨by decide +kernel, by decide +kernel, by decide +kernel⟩⟩
theorem lk_X11_102 : tl_kS RX11 102 yX11_isGlass cX11_isGlass 1 (some .boolean) 1 := ⟨wk_207, wk_205, wk_206, wk_2, ⟨by decide +kernel, by decide +kernel, by decide +kernel⟩⟩
theorem lk_X11_105 : tl_kS RX11 105 yX11_isIn cX11_isIn 3 (some .boolean) 3 := ⟨wk_192, wk_190, wk_191, wk_2, ⟨by decide +kernel, by decide +kernel, by decide +kernel⟩⟩
theorem lk_X11_113 : tl_kVN RX11 113 RX4 yX4_add "ThinLine" cX4_add 4 (some .int) 3 72 := ⟨wk_210, by decide +kernel, wk_208, wk_209, wk_60, ⟨by decide +kernel, by decide +kernel, by decide +kernel⟩⟩
theorem lk_X11_122 : tl_kVN RX11 122 RX4 yX4_has "ThinLine" cX4_has 2 (some .boolean) 1 73 := ⟨wk_233, by decide +kernel, wk_231, wk_232, wk_60, ⟨by decide +kernel, by decide +kernel, by decide +kernel⟩⟩
theorem lk_X11_125 : tl_kS RX11 125 yX11_isColour cX11_isColour 1 (some .boolean) 1 := ⟨wk_236, wk_234, wk_235, wk_2, ⟨by decide +kernel, by decide +kernel, by decide +kernel⟩⟩
theorem lk_X11_143 : tl_kS RX11 143 yX11_isSpan cX11_isSpan 2 (some .boolean) 2 := ⟨wk_285, wk_283, wk_284, wk_2, ⟨by decide +kernel, by decide +kernel, by decide +kernel⟩⟩
theorem lk_X11_151 : tl_kVN RX11 151 RX6 yX6_add "ThinLine" cX6_add 6 (some .int) 4 78 := ⟨wk_288, by decide +kernel, wk_286, wk_287, wk_64, ⟨by decide +kernel, by decide +kernel, by decide +kernel⟩⟩
theorem lk_X11_156 : tl_kVN RX11 156 RX6 yX6_has "ThinLine" cX6_has 2 (some .boolean) 1 79 := ⟨wk_296, by decide +kernel, wk_294, wk_295, wk_64, ⟨by decide +kernel, by decide +kernel, by decide +kernel⟩⟩
theorem lk_X11_164 : tl_kS RX11 164 yX11_isStuff cX11_isStuff 1 (some .boolean) 1 := ⟨wk_317, wk_315, wk_316, wk_2, ⟨by decide +kernel, by decide +kernel, by decide +kernel⟩⟩
theorem lk_X11_167 : tl_kVN RX11 167 RX0 yX0_hasLine "ThinLine" cX0_hasLine 5 (some .boolean) 2 82 := ⟨wk_320, by decide +kernel, wk_318, wk_319, wk_14, ⟨by decide +kernel, by decide +kernel, by decide +kernel⟩⟩
theorem lk_X11_179 : tl_kVN RX11 179 RX0 yX0_append "ThinLine" cX0_append 3 none 1 83 := ⟨wk_341, by decide +kernel, wk_339, wk_340, wk_14, ⟨by decide +kernel, by decide +kernel, by decide +kernel⟩⟩
theorem lk_X11_182 : tl_kV RX11 182 RX11 yX11_shelfOf cX11_shelfOf 2 (some (.object "ThinLine$Texts")) 1 := ⟨wk_367, wk_364, wk_365, wk_366, wk_2, ⟨by decide +kernel, by decide +kernel, by decide +kernel⟩⟩
theorem lk_X11_186 : tl_kVN RX11 186 RX8 yX8_isFull "ThinLine" cX8_isFull 1 (some .boolean) 0 84 := ⟨wk_370, by decide +kernel, wk_368, wk_369, wk_19, ⟨by decide +kernel, by decide +kernel, by decide +kernel⟩⟩
theorem lk_X11_190 : tl_kVN RX11 190 RX7 yX7_wipe "ThinLine" cX7_wipe 1 none 0 85 := ⟨wk_374, by decide +kernel, wk_372, wk_373, wk_29, ⟨by decide +kernel, by decide +kernel, by decide +kernel⟩⟩
theorem lk_X11_193 : tl_kVN RX11 193 RX2 yX2_parse "ThinLine" cX2_parse 5 (some .int) 3 86 := ⟨wk_379, by decide +kernel, wk_377, wk_378, wk_25, ⟨by decide +kernel, by decide +kernel, by decide +kernel⟩⟩
theorem lk_X11_201 : tl_kVN RX11 201 RX8 yX8_at "ThinLine" cX8_at 2 (some (.object "ThinLine$Text")) 1 93 := ⟨wk_695, by decide +kernel, wk_693, wk_694, wk_19, ⟨by decide +kernel, by decide +kernel, by decide +kernel⟩⟩
theorem lk_X11_22 : tl_kIN RX11 22 yX8_init "ThinLine" cX8_init 2 1 27 := ⟨wk_88, by decide +kernel, wk_87, wk_19, rfl, ⟨by decide +kernel, by decide +kernel, by decide +kernel⟩⟩
theorem lk_X11_246 : tl_kV RX11 246 RX11 yX11_look cX11_look 5 (some .boolean) 3 := ⟨wk_829, wk_826, wk_827, wk_828, wk_2, ⟨by decide +kernel, by decide +kernel, by decide +kernel⟩⟩
theorem lk_X11_37 : tl_kIN RX11 37 yX2_init "ThinLine" cX2_init 1 0 29 := ⟨wk_94, by decide +kernel, wk_93, wk_25, rfl, ⟨by decide +kernel, by decide +kernel, by decide +kernel⟩⟩
theorem lk_X11_384 : tl_kS RX11 384 yJ7_fill_53178 cJ7_fill_53178 4 none 2 := ⟨wk_216, wk_1210, wk_214, wk_215, ⟨by decide +kernel, by decide +kernel, by decide +kernel⟩⟩
theorem lk_X11_396 : tl_kV RX11 396 RX11 yX11_begunUpTo cX11_begunUpTo 4 (some .int) 1 := ⟨wk_1214, wk_1211, wk_1212, wk_1213, wk_2, ⟨by decide +kernel, by decide +kernel, by decide +kernel⟩⟩
theorem lk_X11_426 : tl_kV RX11 426 RX11 yX11_findHouses cX11_findHouses 2 none 0 := ⟨wk_1339, wk_1336, wk_1337, wk_1338, wk_2, ⟨by decide +kernel, by decide +kernel, by decide +kernel⟩⟩
theorem lk_X11_44 : tl_kIN RX11 44 yX7_init "ThinLine" cX7_init 1 0 56 := ⟨wk_109, by decide +kernel, wk_108, wk_29, rfl, ⟨by decide +kernel, by decide +kernel, by decide +kernel⟩⟩
theorem lk_X11_474 : tl_kS RX11 474 yX11_isNeed cX11_isNeed 1 (some .boolean) 1 := ⟨wk_1450, wk_1448, wk_1449, wk_2, ⟨by decide +kernel, by decide +kernel, by decide +kernel⟩⟩
theorem lk_X11_477 : tl_kV RX11 477 RX11 yX11_findGiven cX11_findGiven 5 (some .long) 0 := ⟨wk_1455, wk_1452, wk_1453, wk_1454, wk_2, ⟨by decide +kernel, by decide +kernel, by decide +kernel⟩⟩
theorem lk_X11_480 : tl_kS RX11 480 yJ6_bitCount_0f7a4 cJ6_bitCount_0f7a4 1 (some .int) 1 := ⟨wk_1472, wk_1469, wk_1470, wk_1471, ⟨by decide +kernel, by decide +kernel, by decide +kernel⟩⟩
theorem lk_X11_485 : tl_kV RX11 485 RX11 yX11_givenTogether cX11_givenTogether 5 (some .long) 1 := ⟨wk_1479, wk_1476, wk_1477, wk_1478, wk_2, ⟨by decide +kernel, by decide +kernel, by decide +kernel⟩⟩
theorem lk_X11_491 : tl_kVN RX11 491 RX0 yX0_copyFrom "ThinLine" cX0_copyFrom 2 none 1 140 := ⟨wk_1501, by decide +kernel, wk_1499, wk_1500, wk_14, ⟨by decide +kernel, by decide +kernel, by decide +kernel⟩⟩
theorem lk_X11_51 : tl_kIN RX11 51 yX5_init "ThinLine" cX5_init 1 0 57 := ⟨wk_119, by decide +kernel, wk_118, wk_33, rfl, ⟨by decide +kernel, by decide +kernel, by decide +kernel⟩⟩
theorem lk_X11_58 : tl_kIN RX11 58 yX1_init "ThinLine" cX1_init 1 0 58 := ⟨wk_124, by decide +kernel, wk_123, wk_37, rfl, ⟨by decide +kernel, by decide +kernel, by decide +kernel⟩⟩
theorem lk_X11_65 : tl_kIN RX11 65 yX10_init "ThinLine" cX10_init 1 0 59 := ⟨wk_128, by decide +kernel, wk_127, wk_41, rfl, ⟨by decide +kernel, by decide +kernel, by decide +kernel⟩⟩
theorem lk_X11_72 : tl_kIN RX11 72 yX3_init "ThinLine" cX3_init 1 0 71 := ⟨wk_141, by decide +kernel, wk_140, wk_45, rfl, ⟨by decide +kernel, by decide +kernel, by decide +kernel⟩⟩
theorem lk_X11_9 : tl_kIN RX11 9 yX0_init "ThinLine" cX0_init 1 0 0 := ⟨wk_55, by decide +kernel, wk_54, wk_14, rfl, ⟨by decide +kernel, by decide +kernel, by decide +kernel⟩⟩
theorem lk_X11_94 : tl_kS RX11 94 yX11_isWeek cX11_isWeek 1 (some .boolean) 1 := ⟨wk_189, wk_187, wk_188, wk_2, ⟨by decide +kernel, by decide +kernel, by decide +kernel⟩⟩
theorem lk_X2_11 : tl_kIN RX2 11 yX9_init "ThinLine" cX9_init 1 0 30 := ⟨wk_103, by decide +kernel, wk_102, wk_98, rfl, ⟨by decide +kernel, by decide +kernel, by decide +kernel⟩⟩
theorem lk_X2_20 : tl_kIN RX2 20 yX7_init "ThinLine" cX7_init 1 0 35 := ⟨wk_109, by decide +kernel, wk_108, wk_29, rfl, ⟨by decide +kernel, by decide +kernel, by decide +kernel⟩⟩
theorem lk_X2_25 : tl_kVN RX2 25 RX9 yX9_cut "ThinLine" cX9_cut 5 none 1 87 := ⟨wk_386, by decide +kernel, wk_384, wk_385, wk_98, ⟨by decide +kernel, by decide +kernel, by decide +kernel⟩⟩
theorem lk_X2_42 : tl_kV RX2 42 RX2 yX2_head cX2_head 3 (some .boolean) 0 := ⟨wk_462, wk_459, wk_460, wk_461, wk_25, ⟨by decide +kernel, by decide +kernel, by decide +kernel⟩⟩
theorem lk_X2_49 : tl_kV RX2 49 RX2 yX2_kindHere cX2_kindHere 1 (some .int) 0 := ⟨wk_470, wk_467, wk_468, wk_469, wk_25, ⟨by decide +kernel, by decide +kernel, by decide +kernel⟩⟩
theorem lk_X2_53 : tl_kV RX2 53 RX2 yX2_faultHere cX2_faultHere 3 (some .boolean) 1 := ⟨wk_478, wk_475, wk_476, wk_477, wk_25, ⟨by decide +kernel, by decide +kernel, by decide +kernel⟩⟩
theorem lk_X2_67 : tl_kV RX2 67 RX2 yX2_valueHere cX2_valueHere 1 (some .int) 0 := ⟨wk_466, wk_463, wk_464, wk_465, wk_25, ⟨by decide +kernel, by decide +kernel, by decide +kernel⟩⟩
theorem lk_X4_31 : tl_kS RX4 31 yJ7_fill_53178 cJ7_fill_53178 4 none 2 := ⟨wk_216, wk_213, wk_214, wk_215, ⟨by decide +kernel, by decide +kernel, by decide +kernel⟩⟩
theorem lk_X6_28 : tl_kV RX6 28 RX6 yX6_set cX6_set 4 none 3 := ⟨wk_292, wk_289, wk_290, wk_291, wk_64, ⟨by decide +kernel, by decide +kernel, by decide +kernel⟩⟩
theorem lk_X6_32 : tl_kV RX6 32 RX6 yX6_has cX6_has 2 (some .boolean) 1 := ⟨wk_296, wk_293, wk_294, wk_295, wk_64, ⟨by decide +kernel, by decide +kernel, by decide +kernel⟩⟩
theorem lk_X9_44 : tl_kV RX9 44 RX9 yX9_add cX9_add 4 none 3 := ⟨wk_458, wk_455, wk_456, wk_457, wk_98, ⟨by decide +kernel, by decide +kernel, by decide +kernel⟩⟩
