theorem dJ3_checkIndex_8e157_0 : decode cJ3_checkIndex_8e157 0 = .ok (.iload_n 0, 1) := by decide +kernel
theorem dJ3_checkIndex_8e157_1 : decode cJ3_checkIndex_8e157 1 = .ok (.ifCond .lt 8, 3) := by decide +kernel
theorem dJ3_checkIndex_8e157_4 : decode cJ3_checkIndex_8e157 4 = .ok (.iload_n 0, 1) := by decide +kernel
theorem dJ3_checkIndex_8e157_5 : decode cJ3_checkIndex_8e157 5 = .ok (.iload_n 1, 1) := by decide +kernel
theorem dJ3_checkIndex_8e157_6 : decode cJ3_checkIndex_8e157 6 = .ok (.if_icmp .lt 10, 3) := by decide +kernel
theorem dJ3_checkIndex_8e157_16 : decode cJ3_checkIndex_8e157 16 = .ok (.iload_n 0, 1) := by decide +kernel
theorem dJ3_checkIndex_8e157_17 : decode cJ3_checkIndex_8e157 17 = .ok (.ireturn, 1) := by decide +kernel
theorem dJ0_checkIndex_df160_0 : decode cJ0_checkIndex_df160 0 = .ok (.iload_n 0, 1) := by decide +kernel
theorem dJ0_checkIndex_df160_1 : decode cJ0_checkIndex_df160 1 = .ok (.iload_n 1, 1) := by decide +kernel
theorem dJ0_checkIndex_df160_2 : decode cJ0_checkIndex_df160 2 = .ok (.getstatic 1053, 3) := by decide +kernel
theorem dJ0_checkIndex_df160_5 : decode cJ0_checkIndex_df160 5 = .ok (.invokestatic 1059, 3) := by decide +kernel
theorem dJ0_checkIndex_df160_8 : decode cJ0_checkIndex_df160 8 = .ok (.pop, 1) := by decide +kernel
theorem dJ0_checkIndex_df160_9 : decode cJ0_checkIndex_df160 9 = .ok (.return_, 1) := by decide +kernel
theorem wk_433 : Cond.fieldLink RJ0 1053 "jdk/internal/util/Preconditions" "SIOOBE_FORMATTER" "Ljava/util/function/BiFunction;" ∈ tl_L := List.mem_filter.mpr ⟨lw_m3 (i := 145) rfl, rfl⟩
theorem wk_434 : Cond.methodLink RJ0 1059 yJ3_checkIndex_8e157 ∈ tl_L := List.mem_filter.mpr ⟨lw_m3 (i := 147) rfl, rfl⟩
theorem wk_435 : Cond.static yJ3_checkIndex_8e157 ∈ tl_L := List.mem_filter.mpr ⟨lw_m3 (i := 148) rfl, rfl⟩
theorem wk_436 : Cond.initialized RJ3 ∈ tl_L := List.mem_filter.mpr ⟨lw_m1 (i := 18) rfl, rfl⟩
theorem wk_437 : Cond.code yJ3_checkIndex_8e157 cJ3_checkIndex_8e157 3 (some .int) ∈ tl_L := List.mem_filter.mpr ⟨lw_m3 (i := 149) rfl, rfl⟩
theorem lk_J0_1059 : tl_kS RJ0 1059 yJ3_checkIndex_8e157 cJ3_checkIndex_8e157 3 (some .int) 3 := ⟨wk_437, wk_434, wk_435, wk_436, ⟨by decide +kernel, by decide +kernel, by decide +kernel⟩⟩
theorem dJ0_coder_7d493_0 : decode cJ0_coder_7d493 0 = .ok (.getstatic 38, 3) := by decide +kernel
theorem dJ0_coder_7d493_3 : decode cJ0_coder_7d493 3 = .ok (.ifCond .eq 10, 3) := by decide +kernel
theorem dJ0_coder_7d493_6 : decode cJ0_coder_7d493 6 = .ok (.aload_n 0, 1) := by decide +kernel
theorem dJ0_coder_7d493_7 : decode cJ0_coder_7d493 7 = .ok (.getfield 15, 3) := by decide +kernel
theorem dJ0_coder_7d493_10 : decode cJ0_coder_7d493 10 = .ok (.goto 4, 3) := by decide +kernel
theorem dJ0_coder_7d493_14 : decode cJ0_coder_7d493 14 = .ok (.ireturn, 1) := by decide +kernel
theorem wk_416 : Cond.fieldLink RJ0 38 "java/lang/String" "COMPACT_STRINGS" "Z" ∈ tl_L := List.mem_filter.mpr ⟨lw_m3 (i := 129) rfl, rfl⟩
theorem wk_417 : Cond.fieldLink RJ0 15 "java/lang/String" "coder" "B" ∈ tl_L := List.mem_filter.mpr ⟨lw_m9 (i := 56) rfl, rfl⟩
theorem dJ0_isLatin1_aae02_0 : decode cJ0_isLatin1_aae02 0 = .ok (.getstatic 38, 3) := by decide +kernel
theorem dJ0_isLatin1_aae02_3 : decode cJ0_isLatin1_aae02 3 = .ok (.ifCond .eq 14, 3) := by decide +kernel
theorem dJ0_isLatin1_aae02_6 : decode cJ0_isLatin1_aae02 6 = .ok (.aload_n 0, 1) := by decide +kernel
theorem dJ0_isLatin1_aae02_7 : decode cJ0_isLatin1_aae02 7 = .ok (.getfield 15, 3) := by decide +kernel
theorem dJ0_isLatin1_aae02_10 : decode cJ0_isLatin1_aae02 10 = .ok (.ifCond .ne 7, 3) := by decide +kernel
theorem dJ0_isLatin1_aae02_13 : decode cJ0_isLatin1_aae02 13 = .ok (.iconst 1, 1) := by decide +kernel
theorem dJ0_isLatin1_aae02_14 : decode cJ0_isLatin1_aae02 14 = .ok (.goto 4, 3) := by decide +kernel
theorem dJ0_isLatin1_aae02_18 : decode cJ0_isLatin1_aae02 18 = .ok (.ireturn, 1) := by decide +kernel
theorem dJ0_length_8abf5_0 : decode cJ0_length_8abf5 0 = .ok (.aload_n 0, 1) := by decide +kernel
theorem dJ0_length_8abf5_1 : decode cJ0_length_8abf5 1 = .ok (.getfield 9, 3) := by decide +kernel
theorem dJ0_length_8abf5_4 : decode cJ0_length_8abf5 4 = .ok (.arraylength, 1) := by decide +kernel
theorem dJ0_length_8abf5_5 : decode cJ0_length_8abf5 5 = .ok (.aload_n 0, 1) := by decide +kernel
theorem dJ0_length_8abf5_6 : decode cJ0_length_8abf5 6 = .ok (.invokevirtual 335, 3) := by decide +kernel
theorem dJ0_length_8abf5_9 : decode cJ0_length_8abf5 9 = .ok (.ishr, 1) := by decide +kernel
theorem dJ0_length_8abf5_10 : decode cJ0_length_8abf5 10 = .ok (.ireturn, 1) := by decide +kernel
theorem wk_409 : Cond.initialized RJ0 ∈ tl_L := List.mem_filter.mpr ⟨lw_m1 (i := 16) rfl, rfl⟩
theorem wk_411 : Cond.fieldLink RJ0 9 "java/lang/String" "value" "[B" ∈ tl_L := List.mem_filter.mpr ⟨lw_m9 (i := 55) rfl, rfl⟩
theorem wk_412 : Cond.methodLink RJ0 335 yJ0_coder_7d493 ∈ tl_L := List.mem_filter.mpr ⟨lw_m3 (i := 125) rfl, rfl⟩
theorem wk_413 : Cond.instanceMethod yJ0_coder_7d493 ∈ tl_L := List.mem_filter.mpr ⟨lw_m3 (i := 126) rfl, rfl⟩
theorem wk_414 : Cond.selects RJ0 yJ0_coder_7d493 yJ0_coder_7d493 ∈ tl_L := List.mem_filter.mpr ⟨lw_m3 (i := 127) rfl, rfl⟩
theorem wk_415 : Cond.code yJ0_coder_7d493 cJ0_coder_7d493 1 (some .byte) ∈ tl_L := List.mem_filter.mpr ⟨lw_m3 (i := 128) rfl, rfl⟩
theorem lk_J0_335 : tl_kV RJ0 335 RJ0 yJ0_coder_7d493 cJ0_coder_7d493 1 (some .byte) 0 := ⟨wk_415, wk_412, wk_413, wk_414, wk_409, ⟨by decide +kernel, by decide +kernel, by decide +kernel⟩⟩
theorem dJ1_charAt_3b067_0 : decode cJ1_charAt_3b067 0 = .ok (.iload_n 1, 1) := by decide +kernel
theorem dJ1_charAt_3b067_1 : decode cJ1_charAt_3b067 1 = .ok (.aload_n 0, 1) := by decide +kernel
theorem dJ1_charAt_3b067_2 : decode cJ1_charAt_3b067 2 = .ok (.arraylength, 1) := by decide +kernel
theorem dJ1_charAt_3b067_3 : decode cJ1_charAt_3b067 3 = .ok (.invokestatic 9, 3) := by decide +kernel
theorem dJ1_charAt_3b067_6 : decode cJ1_charAt_3b067 6 = .ok (.aload_n 0, 1) := by decide +kernel
theorem dJ1_charAt_3b067_7 : decode cJ1_charAt_3b067 7 = .ok (.iload_n 1, 1) := by decide +kernel
theorem dJ1_charAt_3b067_8 : decode cJ1_charAt_3b067 8 = .ok (.baload, 1) := by decide +kernel
theorem dJ1_charAt_3b067_9 : decode cJ1_charAt_3b067 9 = .ok (.sipush 255, 3) := by decide +kernel
theorem dJ1_charAt_3b067_12 : decode cJ1_charAt_3b067 12 = .ok (.iand, 1) := by decide +kernel
theorem dJ1_charAt_3b067_13 : decode cJ1_charAt_3b067 13 = .ok (.i2c, 1) := by decide +kernel
theorem dJ1_charAt_3b067_14 : decode cJ1_charAt_3b067 14 = .ok (.ireturn, 1) := by decide +kernel
theorem wk_430 : Cond.methodLink RJ1 9 yJ0_checkIndex_df160 ∈ tl_L := List.mem_filter.mpr ⟨lw_m3 (i := 142) rfl, rfl⟩
theorem wk_431 : Cond.static yJ0_checkIndex_df160 ∈ tl_L := List.mem_filter.mpr ⟨lw_m3 (i := 143) rfl, rfl⟩
theorem wk_432 : Cond.code yJ0_checkIndex_df160 cJ0_checkIndex_df160 2 none ∈ tl_L := List.mem_filter.mpr ⟨lw_m3 (i := 144) rfl, rfl⟩
theorem lk_J1_9 : tl_kS RJ1 9 yJ0_checkIndex_df160 cJ0_checkIndex_df160 2 none 2 := ⟨wk_432, wk_430, wk_431, wk_409, ⟨by decide +kernel, by decide +kernel, by decide +kernel⟩⟩
theorem dJ0_charAt_5068e_0 : decode cJ0_charAt_5068e 0 = .ok (.aload_n 0, 1) := by decide +kernel
theorem dJ0_charAt_5068e_1 : decode cJ0_charAt_5068e 1 = .ok (.invokevirtual 492, 3) := by decide +kernel
theorem dJ0_charAt_5068e_4 : decode cJ0_charAt_5068e 4 = .ok (.ifCond .eq 12, 3) := by decide +kernel
theorem dJ0_charAt_5068e_7 : decode cJ0_charAt_5068e 7 = .ok (.aload_n 0, 1) := by decide +kernel
theorem dJ0_charAt_5068e_8 : decode cJ0_charAt_5068e 8 = .ok (.getfield 9, 3) := by decide +kernel
theorem dJ0_charAt_5068e_11 : decode cJ0_charAt_5068e 11 = .ok (.iload_n 1, 1) := by decide +kernel
theorem dJ0_charAt_5068e_12 : decode cJ0_charAt_5068e 12 = .ok (.invokestatic 495, 3) := by decide +kernel
theorem dJ0_charAt_5068e_15 : decode cJ0_charAt_5068e 15 = .ok (.ireturn, 1) := by decide +kernel
theorem wk_422 : Cond.methodLink RJ0 492 yJ0_isLatin1_aae02 ∈ tl_L := List.mem_filter.mpr ⟨lw_m3 (i := 135) rfl, rfl⟩
theorem wk_423 : Cond.instanceMethod yJ0_isLatin1_aae02 ∈ tl_L := List.mem_filter.mpr ⟨lw_m3 (i := 136) rfl, rfl⟩
theorem wk_424 : Cond.selects RJ0 yJ0_isLatin1_aae02 yJ0_isLatin1_aae02 ∈ tl_L := List.mem_filter.mpr ⟨lw_m3 (i := 137) rfl, rfl⟩
theorem wk_425 : Cond.code yJ0_isLatin1_aae02 cJ0_isLatin1_aae02 1 (some .boolean) ∈ tl_L := List.mem_filter.mpr ⟨lw_m3 (i := 138) rfl, rfl⟩
theorem wk_426 : Cond.methodLink RJ0 495 yJ1_charAt_3b067 ∈ tl_L := List.mem_filter.mpr ⟨lw_m3 (i := 139) rfl, rfl⟩
theorem wk_427 : Cond.static yJ1_charAt_3b067 ∈ tl_L := List.mem_filter.mpr ⟨lw_m3 (i := 140) rfl, rfl⟩
theorem wk_428 : Cond.initialized RJ1 ∈ tl_L := List.mem_filter.mpr ⟨lw_m1 (i := 17) rfl, rfl⟩
theorem wk_429 : Cond.code yJ1_charAt_3b067 cJ1_charAt_3b067 2 (some .char) ∈ tl_L := List.mem_filter.mpr ⟨lw_m3 (i := 141) rfl, rfl⟩
theorem lk_J0_492 : tl_kV RJ0 492 RJ0 yJ0_isLatin1_aae02 cJ0_isLatin1_aae02 1 (some .boolean) 0 := ⟨wk_425, wk_422, wk_423, wk_424, wk_409, ⟨by decide +kernel, by decide +kernel, by decide +kernel⟩⟩
theorem lk_J0_495 : tl_kS RJ0 495 yJ1_charAt_3b067 cJ1_charAt_3b067 2 (some .char) 2 := ⟨wk_429, wk_426, wk_427, wk_428, ⟨by decide +kernel, by decide +kernel, by decide +kernel⟩⟩
theorem dX9_spelling_0 : decode cX9_spelling 0 = .ok (.iload_n 0, 1) := by decide +kernel
theorem dX9_spelling_1 : decode cX9_spelling 1 = .ok (.tableswitch 169 0 21 #[103, 106, 109, 112, 115, 118, 121, 124, 127, 130, 133, 136, 139, 142, 145, 148, 151, 154, 157, 160, 163, 166], 103) := by decide +kernel
theorem dX9_spelling_104 : decode cX9_spelling 104 = .ok (.ldc 66, 2) := by decide +kernel
theorem dX9_spelling_106 : decode cX9_spelling 106 = .ok (.areturn, 1) := by decide +kernel
theorem dX9_spelling_107 : decode cX9_spelling 107 = .ok (.ldc 68, 2) := by decide +kernel
theorem dX9_spelling_109 : decode cX9_spelling 109 = .ok (.areturn, 1) := by decide +kernel
theorem dX9_spelling_110 : decode cX9_spelling 110 = .ok (.ldc 70, 2) := by decide +kernel
theorem dX9_spelling_112 : decode cX9_spelling 112 = .ok (.areturn, 1) := by decide +kernel
theorem dX9_spelling_113 : decode cX9_spelling 113 = .ok (.ldc 72, 2) := by decide +kernel
theorem dX9_spelling_115 : decode cX9_spelling 115 = .ok (.areturn, 1) := by decide +kernel
theorem dX9_spelling_116 : decode cX9_spelling 116 = .ok (.ldc 74, 2) := by decide +kernel
theorem dX9_spelling_118 : decode cX9_spelling 118 = .ok (.areturn, 1) := by decide +kernel
theorem dX9_spelling_119 : decode cX9_spelling 119 = .ok (.ldc 76, 2) := by decide +kernel
theorem dX9_spelling_121 : decode cX9_spelling 121 = .ok (.areturn, 1) := by decide +kernel
theorem dX9_spelling_122 : decode cX9_spelling 122 = .ok (.ldc 78, 2) := by decide +kernel
theorem dX9_spelling_124 : decode cX9_spelling 124 = .ok (.areturn, 1) := by decide +kernel
theorem dX9_spelling_125 : decode cX9_spelling 125 = .ok (.ldc 80, 2) := by decide +kernel
theorem dX9_spelling_127 : decode cX9_spelling 127 = .ok (.areturn, 1) := by decide +kernel
theorem dX9_spelling_128 : decode cX9_spelling 128 = .ok (.ldc 82, 2) := by decide +kernel
theorem dX9_spelling_130 : decode cX9_spelling 130 = .ok (.areturn, 1) := by decide +kernel
theorem dX9_spelling_131 : decode cX9_spelling 131 = .ok (.ldc 84, 2) := by decide +kernel
theorem dX9_spelling_133 : decode cX9_spelling 133 = .ok (.areturn, 1) := by decide +kernel
theorem dX9_spelling_134 : decode cX9_spelling 134 = .ok (.ldc 86, 2) := by decide +kernel
theorem dX9_spelling_136 : decode cX9_spelling 136 = .ok (.areturn, 1) := by decide +kernel
theorem dX9_spelling_137 : decode cX9_spelling 137 = .ok (.ldc 88, 2) := by decide +kernel
theorem dX9_spelling_139 : decode cX9_spelling 139 = .ok (.areturn, 1) := by decide +kernel
theorem dX9_spelling_140 : decode cX9_spelling 140 = .ok (.ldc 90, 2) := by decide +kernel
theorem dX9_spelling_142 : decode cX9_spelling 142 = .ok (.areturn, 1) := by decide +kernel
theorem dX9_spelling_143 : decode cX9_spelling 143 = .ok (.ldc 92, 2) := by decide +kernel
theorem dX9_spelling_145 : decode cX9_spelling 145 = .ok (.areturn, 1) := by decide +kernel
theorem dX9_spelling_146 : decode cX9_spelling 146 = .ok (.ldc 94, 2) := by decide +kernel
theorem dX9_spelling_148 : decode cX9_spelling 148 = .ok (.areturn, 1) := by decide +kernel
theorem dX9_spelling_149 : decode cX9_spelling 149 = .ok (.ldc 96, 2) := by decide +kernel
theorem dX9_spelling_151 : decode cX9_spelling 151 = .ok (.areturn, 1) := by decide +kernel
theorem dX9_spelling_152 : decode cX9_spelling 152 = .ok (.ldc 98, 2) := by decide +kernel
theorem dX9_spelling_154 : decode cX9_spelling 154 = .ok (.areturn, 1) := by decide +kernel
theorem dX9_spelling_155 : decode cX9_spelling 155 = .ok (.ldc 100, 2) := by decide +kernel
theorem dX9_spelling_157 : decode cX9_spelling 157 = .ok (.areturn, 1) := by decide +kernel
theorem dX9_spelling_158 : decode cX9_spelling 158 = .ok (.ldc 102, 2) := by decide +kernel
theorem dX9_spelling_160 : decode cX9_spelling 160 = .ok (.areturn, 1) := by decide +kernel
theorem dX9_spelling_161 : decode cX9_spelling 161 = .ok (.ldc 104, 2) := by decide +kernel
theorem dX9_spelling_163 : decode cX9_spelling 163 = .ok (.areturn, 1) := by decide +kernel
theorem dX9_spelling_164 : decode cX9_spelling 164 = .ok (.ldc 106, 2) := by decide +kernel
theorem dX9_spelling_166 : decode cX9_spelling 166 = .ok (.areturn, 1) := by decide +kernel
theorem dX9_spelling_167 : decode cX9_spelling 167 = .ok (.ldc 108, 2) := by decide +kernel
theorem dX9_spelling_169 : decode cX9_spelling 169 = .ok (.areturn, 1) := by decide +kernel
theorem dX9_spelling_170 : decode cX9_spelling 170 = .ok (.ldc 110, 2) := by decide +kernel
theorem dX9_spelling_172 : decode cX9_spelling 172 = .ok (.areturn, 1) := by decide +kernel
theorem dX9_isSpelled_0 : decode cX9_isSpelled 0 = .ok (.aload_n 3, 1) := by decide +kernel
theorem dX9_isSpelled_1 : decode cX9_isSpelled 1 = .ok (.invokevirtual 56, 3) := by decide +kernel
theorem dX9_isSpelled_4 : decode cX9_isSpelled 4 = .ok (.iload_n 2, 1) := by decide +kernel
theorem dX9_isSpelled_5 : decode cX9_isSpelled 5 = .ok (.iload_n 1, 1) := by decide +kernel
theorem dX9_isSpelled_6 : decode cX9_isSpelled 6 = .ok (.isub, 1) := by decide +kernel
theorem dX9_isSpelled_7 : decode cX9_isSpelled 7 = .ok (.if_icmp .ne 7, 3) := by decide +kernel
theorem dX9_isSpelled_10 : decode cX9_isSpelled 10 = .ok (.iconst 1, 1) := by decide +kernel
theorem dX9_isSpelled_11 : decode cX9_isSpelled 11 = .ok (.goto 4, 3) := by decide +kernel
theorem dX9_isSpelled_14 : decode cX9_isSpelled 14 = .ok (.iconst 0, 1) := by decide +kernel
theorem dX9_isSpelled_15 : decode cX9_isSpelled 15 = .ok (.istore 4, 2) := by decide +kernel
theorem dX9_isSpelled_17 : decode cX9_isSpelled 17 = .ok (.iconst 0, 1) := by decide +kernel
theorem dX9_isSpelled_18 : decode cX9_isSpelled 18 = .ok (.istore 5, 2) := by decide +kernel
theorem dX9_isSpelled_20 : decode cX9_isSpelled 20 = .ok (.iload 4, 2) := by decide +kernel
theorem dX9_isSpelled_22 : decode cX9_isSpelled 22 = .ok (.ifCond .eq 42, 3) := by decide +kernel
theorem dX9_isSpelled_25 : decode cX9_isSpelled 25 = .ok (.iload 5, 2) := by decide +kernel
theorem dX9_isSpelled_27 : decode cX9_isSpelled 27 = .ok (.aload_n 3, 1) := by decide +kernel
theorem dX9_isSpelled_28 : decode cX9_isSpelled 28 = .ok (.invokevirtual 56, 3) := by decide +kernel
theorem dX9_isSpelled_31 : decode cX9_isSpelled 31 = .ok (.if_icmp .ge 33, 3) := by decide +kernel
theorem dX9_isSpelled_34 : decode cX9_isSpelled 34 = .ok (.aload_n 0, 1) := by decide +kernel
theorem dX9_isSpelled_35 : decode cX9_isSpelled 35 = .ok (.iload_n 1, 1) := by decide +kernel
theorem dX9_isSpelled_36 : decode cX9_isSpelled 36 = .ok (.iload 5, 2) := by decide +kernel
theorem dX9_isSpelled_38 : decode cX9_isSpelled 38 = .ok (.iadd, 1) := by decide +kernel
theorem dX9_isSpelled_39 : decode cX9_isSpelled 39 = .ok (.invokevirtual 30, 3) := by decide +kernel
theorem dX9_isSpelled_42 : decode cX9_isSpelled 42 = .ok (.aload_n 3, 1) := by decide +kernel
theorem dX9_isSpelled_43 : decode cX9_isSpelled 43 = .ok (.iload 5, 2) := by decide +kernel
theorem dX9_isSpelled_45 : decode cX9_isSpelled 45 = .ok (.invokevirtual 62, 3) := by decide +kernel
theorem dX9_isSpelled_48 : decode cX9_isSpelled 48 = .ok (.if_icmp .ne 7, 3) := by decide +kernel
theorem dX9_isSpelled_51 : decode cX9_isSpelled 51 = .ok (.iconst 1, 1) := by decide +kernel
theorem dX9_isSpelled_52 : decode cX9_isSpelled 52 = .ok (.goto 4, 3) := by decide +kernel
theorem dX9_isSpelled_55 : decode cX9_isSpelled 55 = .ok (.iconst 0, 1) := by decide +kernel
theorem dX9_isSpelled_56 : decode cX9_isSpelled 56 = .ok (.istore 4, 2) := by decide +kernel
theorem dX9_isSpelled_58 : decode cX9_isSpelled 58 = .ok (.iinc 5 1, 3) := by decide +kernel
theorem dX9_isSpelled_61 : decode cX9_isSpelled 61 = .ok (.goto (-41), 3) := by decide +kernel
theorem dX9_isSpelled_64 : decode cX9_isSpelled 64 = .ok (.iload 4, 2) := by decide +kernel
theorem dX9_isSpelled_66 : decode cX9_isSpelled 66 = .ok (.ireturn, 1) := by decide +kernel
theorem wk_388 : Cond.instanceMethod yX0_byteAt ∈ tl_L := List.mem_filter.mpr ⟨lw_m3 (i := 81) rfl, rfl⟩
theorem wk_389 : Cond.selects RX0 yX0_byteAt yX0_byteAt ∈ tl_L := List.mem_filter.mpr ⟨lw_s1 (i := 15) (q := (yX0_byteAt, 9)) rfl, rfl⟩
theorem wk_390 : Cond.code yX0_byteAt cX0_byteAt 2 (some .int) ∈ tl_L := List.mem_filter.mpr ⟨lw_m3 (i := 82) rfl, rfl⟩
theorem wk_406 : Cond.methodLink RX9 56 yJ0_length_8abf5 ∈ tl_L := List.mem_filter.mpr ⟨lw_m3 (i := 121) rfl, rfl⟩
theorem wk_407 : Cond.instanceMethod yJ0_length_8abf5 ∈ tl_L := List.mem_filter.mpr ⟨lw_m3 (i := 122) rfl, rfl⟩
theorem wk_408 : Cond.selects RJ0 yJ0_length_8abf5 yJ0_length_8abf5 ∈ tl_L := List.mem_filter.mpr ⟨lw_m3 (i := 123) rfl, rfl⟩
theorem wk_410 : Cond.code yJ0_length_8abf5 cJ0_length_8abf5 1 (some .int) ∈ tl_L := List.mem_filter.mpr ⟨lw_m3 (i := 124) rfl, rfl⟩
theorem wk_418 : Cond.methodLink RX9 62 yJ0_charAt_5068e ∈ tl_L := List.mem_filter.mpr ⟨lw_m3 (i := 131) rfl, rfl⟩
theorem wk_419 : Cond.instanceMethod yJ0_charAt_5068e ∈ tl_L := List.mem_filter.mpr ⟨lw_m3 (i := 132) rfl, rfl⟩
theorem wk_420 : Cond.selects RJ0 yJ0_charAt_5068e yJ0_charAt_5068e ∈ tl_L := List.mem_filter.mpr ⟨lw_m3 (i := 133) rfl, rfl⟩
theorem wk_421 : Cond.code yJ0_charAt_5068e cJ0_charAt_5068e 2 (some .char) ∈ tl_L := List.mem_filter.mpr ⟨lw_m3 (i := 134) rfl, rfl⟩
theorem lk_X9_30 : tl_kVN RX9 30 RX0 yX0_byteAt "ThinLine" cX0_byteAt 2 (some .int) 1 88 := ⟨wk_390, by decide +kernel, wk_388, wk_389, wk_14, ⟨by decide +kernel, by decide +kernel, by decide +kernel⟩⟩
theorem lk_X9_56 : tl_kV RX9 56 RJ0 yJ0_length_8abf5 cJ0_length_8abf5 1 (some .int) 0 := ⟨wk_410, wk_406, wk_407, wk_408, wk_409, ⟨by decide +kernel, by decide +kernel, by decide +kernel⟩⟩
theorem lk_X9_62 : tl_kV RX9 62 RJ0 yJ0_charAt_5068e cJ0_charAt_5068e 2 (some .char) 1 := ⟨wk_421, wk_418, wk_419, wk_420, wk_409, ⟨by decide +kernel, by decide +kernel, by decide +kernel⟩⟩
theorem dX9_wordIn_0 : decode cX9_wordIn 0 = .ok (.iconst 0, 1) := by decide +kernel
theorem dX9_wordIn_1 : decode cX9_wordIn 1 = .ok (.istore_n 3, 1) := by decide +kernel
theorem dX9_wordIn_2 : decode cX9_wordIn 2 = .ok (.iload_n 3, 1) := by decide +kernel
theorem dX9_wordIn_3 : decode cX9_wordIn 3 = .ok (.bipush 22, 2) := by decide +kernel
theorem dX9_wordIn_5 : decode cX9_wordIn 5 = .ok (.if_icmp .ge 24, 3) := by decide +kernel
theorem dX9_wordIn_8 : decode cX9_wordIn 8 = .ok (.aload_n 0, 1) := by decide +kernel
theorem dX9_wordIn_9 : decode cX9_wordIn 9 = .ok (.iload_n 1, 1) := by decide +kernel
theorem dX9_wordIn_10 : decode cX9_wordIn 10 = .ok (.iload_n 2, 1) := by decide +kernel
theorem dX9_wordIn_11 : decode cX9_wordIn 11 = .ok (.iload_n 3, 1) := by decide +kernel
theorem dX9_wordIn_12 : decode cX9_wordIn 12 = .ok (.invokestatic 48, 3) := by decide +kernel
theorem dX9_wordIn_15 : decode cX9_wordIn 15 = .ok (.invokestatic 52, 3) := by decide +kernel
theorem dX9_wordIn_18 : decode cX9_wordIn 18 = .ok (.ifCond .eq 5, 3) := by decide +kernel
theorem dX9_wordIn_21 : decode cX9_wordIn 21 = .ok (.iload_n 3, 1) := by decide +kernel
theorem dX9_wordIn_22 : decode cX9_wordIn 22 = .ok (.ireturn, 1) := by decide +kernel
theorem dX9_wordIn_23 : decode cX9_wordIn 23 = .ok (.iinc 3 1, 3) := by decide +kernel
theorem dX9_wordIn_26 : decode cX9_wordIn 26 = .ok (.goto (-24), 3) := by decide +kernel
theorem dX9_wordIn_29 : decode cX9_wordIn 29 = .ok (.iconst (-1), 1) := by decide +kernel
theorem dX9_wordIn_30 : decode cX9_wordIn 30 = .ok (.ireturn, 1) := by decide +kernel
theorem wk_98 : Cond.initialized RX9 ∈ tl_L := List.mem_filter.mpr ⟨lw_m1 (i := 8) rfl, rfl⟩
theorem wk_400 : Cond.methodLink RX9 48 yX9_spelling ∈ tl_L := List.mem_filter.mpr ⟨lw_m3 (i := 92) rfl, rfl⟩
theorem wk_401 : Cond.static yX9_spelling ∈ tl_L := List.mem_filter.mpr ⟨lw_m3 (i := 93) rfl, rfl⟩
theorem wk_402 : Cond.code yX9_spelling cX9_spelling 1 (some (.object "java/lang/String")) ∈ tl_L := List.mem_filter.mpr ⟨lw_m3 (i := 94) rfl, rfl⟩
theorem wk_403 : Cond.methodLink RX9 52 yX9_isSpelled ∈ tl_L := List.mem_filter.mpr ⟨lw_m3 (i := 118) rfl, rfl⟩
theorem wk_404 : Cond.static yX9_isSpelled ∈ tl_L := List.mem_filter.mpr ⟨lw_m3 (i := 119) rfl, rfl⟩
theorem wk_405 : Cond.code yX9_isSpelled cX9_isSpelled 6 (some .boolean) ∈ tl_L := List.mem_filter.mpr ⟨lw_m3 (i := 120) rfl, rfl⟩
theorem lk_X9_48 : tl_kS RX9 48 yX9_spelling cX9_spelling 1 (some (.object "java/lang/String")) 1 := ⟨wk_402, wk_400, wk_401, wk_98, ⟨by decide +kernel, by decide +kernel, by decide +kernel⟩⟩
theorem lk_X9_52 : tl_kS RX9 52 yX9_isSpelled cX9_isSpelled 6 (some .boolean) 4 := ⟨wk_405, wk_403, wk_404, wk_98, ⟨by decide +kernel, by decide +kernel, by decide +kernel⟩⟩
theorem dX9_numberIn_0 : decode cX9_numberIn 0 = .ok (.iload_n 2, 1) := by decide +kernel
theorem dX9_numberIn_1 : decode cX9_numberIn 1 = .ok (.iload_n 1, 1) := by decide +kernel
theorem dX9_numberIn_2 : decode cX9_numberIn 2 = .ok (.isub, 1) := by decide +kernel
theorem dX9_numberIn_3 : decode cX9_numberIn 3 = .ok (.iconst 5, 1) := by decide +kernel
theorem dX9_numberIn_4 : decode cX9_numberIn 4 = .ok (.if_icmp .le 5, 3) := by decide +kernel
theorem dX9_numberIn_7 : decode cX9_numberIn 7 = .ok (.iconst (-1), 1) := by decide +kernel
theorem dX9_numberIn_8 : decode cX9_numberIn 8 = .ok (.ireturn, 1) := by decide +kernel
theorem dX9_numberIn_9 : decode cX9_numberIn 9 = .ok (.iconst 0, 1) := by decide +kernel
theorem dX9_numberIn_10 : decode cX9_numberIn 10 = .ok (.istore_n 3, 1) := by decide +kernel
theorem dX9_numberIn_11 : decode cX9_numberIn 11 = .ok (.iload_n 1, 1) := by decide +kernel
theorem dX9_numberIn_12 : decode cX9_numberIn 12 = .ok (.istore 4, 2) := by decide +kernel
theorem dX9_numberIn_14 : decode cX9_numberIn 14 = .ok (.iload 4, 2) := by decide +kernel
theorem dX9_numberIn_16 : decode cX9_numberIn 16 = .ok (.iload_n 2, 1) := by decide +kernel
theorem dX9_numberIn_17 : decode cX9_numberIn 17 = .ok (.if_icmp .ge 24, 3) := by decide +kernel
theorem dX9_numberIn_20 : decode cX9_numberIn 20 = .ok (.iload_n 3, 1) := by decide +kernel
theorem dX9_numberIn_21 : decode cX9_numberIn 21 = .ok (.bipush 10, 2) := by decide +kernel
theorem dX9_numberIn_23 : decode cX9_numberIn 23 = .ok (.imul, 1) := by decide +kernel
theorem dX9_numberIn_24 : decode cX9_numberIn 24 = .ok (.aload_n 0, 1) := by decide +kernel
theorem dX9_numberIn_25 : decode cX9_numberIn 25 = .ok (.iload 4, 2) := by decide +kernel
theorem dX9_numberIn_27 : decode cX9_numberIn 27 = .ok (.invokevirtual 30, 3) := by decide +kernel
theorem dX9_numberIn_30 : decode cX9_numberIn 30 = .ok (.iadd, 1) := by decide +kernel
theorem dX9_numberIn_31 : decode cX9_numberIn 31 = .ok (.bipush 48, 2) := by decide +kernel
theorem dX9_numberIn_33 : decode cX9_numberIn 33 = .ok (.isub, 1) := by decide +kernel
theorem dX9_numberIn_34 : decode cX9_numberIn 34 = .ok (.istore_n 3, 1) := by decide +kernel
theorem dX9_numberIn_35 : decode cX9_numberIn 35 = .ok (.iinc 4 1, 3) := by decide +kernel
theorem dX9_numberIn_38 : decode cX9_numberIn 38 = .ok (.goto (-24), 3) := by decide +kernel
theorem dX9_numberIn_41 : decode cX9_numberIn 41 = .ok (.iload_n 3, 1) := by decide +kernel
theorem dX9_numberIn_42 : decode cX9_numberIn 42 = .ok (.ireturn, 1) := by decide +kernel
theorem dX9_sortOf_0 : decode cX9_sortOf 0 = .ok (.iload_n 0, 1) := by decide +kernel
theorem dX9_sortOf_1 : decode cX9_sortOf 1 = .ok (.bipush 48, 2) := by decide +kernel
theorem dX9_sortOf_3 : decode cX9_sortOf 3 = .ok (.if_icmp .lt 11, 3) := by decide +kernel
theorem dX9_sortOf_6 : decode cX9_sortOf 6 = .ok (.iload_n 0, 1) := by decide +kernel
theorem dX9_sortOf_7 : decode cX9_sortOf 7 = .ok (.bipush 57, 2) := by decide +kernel
theorem dX9_sortOf_9 : decode cX9_sortOf 9 = .ok (.if_icmp .gt 5, 3) := by decide +kernel
theorem dX9_sortOf_12 : decode cX9_sortOf 12 = .ok (.iconst 2, 1) := by decide +kernel
theorem dX9_sortOf_13 : decode cX9_sortOf 13 = .ok (.ireturn, 1) := by decide +kernel
theorem dX9_sortOf_14 : decode cX9_sortOf 14 = .ok (.iload_n 0, 1) := by decide +kernel
theorem dX9_sortOf_15 : decode cX9_sortOf 15 = .ok (.bipush 97, 2) := by decide +kernel
theorem dX9_sortOf_17 : decode cX9_sortOf 17 = .ok (.if_icmp .lt 11, 3) := by decide +kernel
theorem dX9_sortOf_20 : decode cX9_sortOf 20 = .ok (.iload_n 0, 1) := by decide +kernel
theorem dX9_sortOf_21 : decode cX9_sortOf 21 = .ok (.bipush 122, 2) := by decide +kernel
theorem dX9_sortOf_23 : decode cX9_sortOf 23 = .ok (.if_icmp .gt 5, 3) := by decide +kernel
theorem dX9_sortOf_26 : decode cX9_sortOf 26 = .ok (.iconst 3, 1) := by decide +kernel
theorem dX9_sortOf_27 : decode cX9_sortOf 27 = .ok (.ireturn, 1) := by decide +kernel
theorem dX9_sortOf_28 : decode cX9_sortOf 28 = .ok (.iload_n 0, 1) := by decide +kernel
theorem dX9_sortOf_29 : decode cX9_sortOf 29 = .ok (.lookupswitch 119 #[(42, 95), (43, 91), (45, 93), (47, 98), (59, 116), (60, 101), (61, 104), (62, 107), (91, 110), (93, 113)], 91) := by decide +kernel
theorem dX9_sortOf_120 : decode cX9_sortOf 120 = .ok (.iconst 4, 1) := by decide +kernel
theorem dX9_sortOf_121 : decode cX9_sortOf 121 = .ok (.ireturn, 1) := by decide +kernel
theorem dX9_sortOf_122 : decode cX9_sortOf 122 = .ok (.iconst 5, 1) := by decide +kernel
theorem dX9_sortOf_123 : decode cX9_sortOf 123 = .ok (.ireturn, 1) := by decide +kernel
theorem dX9_sortOf_124 : decode cX9_sortOf 124 = .ok (.bipush 6, 2) := by decide +kernel
theorem dX9_sortOf_126 : decode cX9_sortOf 126 = .ok (.ireturn, 1) := by decide +kernel
theorem dX9_sortOf_127 : decode cX9_sortOf 127 = .ok (.bipush 7, 2) := by decide +kernel
theorem dX9_sortOf_129 : decode cX9_sortOf 129 = .ok (.ireturn, 1) := by decide +kernel
theorem dX9_sortOf_130 : decode cX9_sortOf 130 = .ok (.bipush 8, 2) := by decide +kernel
theorem dX9_sortOf_132 : decode cX9_sortOf 132 = .ok (.ireturn, 1) := by decide +kernel
theorem dX9_sortOf_133 : decode cX9_sortOf 133 = .ok (.bipush 10, 2) := by decide +kernel
theorem dX9_sortOf_135 : decode cX9_sortOf 135 = .ok (.ireturn, 1) := by decide +kernel
theorem dX9_sortOf_136 : decode cX9_sortOf 136 = .ok (.bipush 12, 2) := by decide +kernel
theorem dX9_sortOf_138 : decode cX9_sortOf 138 = .ok (.ireturn, 1) := by decide +kernel
theorem dX9_sortOf_139 : decode cX9_sortOf 139 = .ok (.bipush 16, 2) := by decide +kernel
theorem dX9_sortOf_141 : decode cX9_sortOf 141 = .ok (.ireturn, 1) := by decide +kernel
theorem dX9_sortOf_142 : decode cX9_sortOf 142 = .ok (.bipush 17, 2) := by decide +kernel
theorem dX9_sortOf_144 : decode cX9_sortOf 144 = .ok (.ireturn, 1) := by decide +kernel
theorem dX9_sortOf_145 : decode cX9_sortOf 145 = .ok (.bipush 18, 2) := by decide +kernel
theorem dX9_sortOf_147 : decode cX9_sortOf 147 = .ok (.ireturn, 1) := by decide +kernel
theorem dX9_sortOf_148 : decode cX9_sortOf 148 = .ok (.iconst 1, 1) := by decide +kernel
theorem dX9_sortOf_149 : decode cX9_sortOf 149 = .ok (.ireturn, 1) := by decide +kernel
theorem dX9_add_0 : decode cX9_add 0 = .ok (.aload_n 0, 1) := by decide +kernel
theorem dX9_add_1 : decode cX9_add 1 = .ok (.getfield 21, 3) := by decide +kernel
theorem dX9_add_4 : decode cX9_add 4 = .ok (.aload_n 0, 1) := by decide +kernel
theorem dX9_add_5 : decode cX9_add 5 = .ok (.getfield 9, 3) := by decide +kernel
theorem dX9_add_8 : decode cX9_add 8 = .ok (.arraylength, 1) := by decide +kernel
theorem dX9_add_9 : decode cX9_add 9 = .ok (.if_icmp .ge 43, 3) := by decide +kernel
theorem dX9_add_12 : decode cX9_add 12 = .ok (.aload_n 0, 1) := by decide +kernel
theorem dX9_add_13 : decode cX9_add 13 = .ok (.getfield 9, 3) := by decide +kernel
theorem dX9_add_16 : decode cX9_add 16 = .ok (.aload_n 0, 1) := by decide +kernel
theorem dX9_add_17 : decode cX9_add 17 = .ok (.getfield 21, 3) := by decide +kernel
theorem dX9_add_20 : decode cX9_add 20 = .ok (.iload_n 1, 1) := by decide +kernel
theorem dX9_add_21 : decode cX9_add 21 = .ok (.iastore, 1) := by decide +kernel
theorem dX9_add_22 : decode cX9_add 22 = .ok (.aload_n 0, 1) := by decide +kernel
theorem dX9_add_23 : decode cX9_add 23 = .ok (.getfield 15, 3) := by decide +kernel
theorem dX9_add_26 : decode cX9_add 26 = .ok (.aload_n 0, 1) := by decide +kernel
theorem dX9_add_27 : decode cX9_add 27 = .ok (.getfield 21, 3) := by decide +kernel
theorem dX9_add_30 : decode cX9_add 30 = .ok (.iload_n 2, 1) := by decide +kernel
theorem dX9_add_31 : decode cX9_add 31 = .ok (.iastore, 1) := by decide +kernel
theorem dX9_add_32 : decode cX9_add 32 = .ok (.aload_n 0, 1) := by decide +kernel
theorem dX9_add_33 : decode cX9_add 33 = .ok (.getfield 18, 3) := by decide +kernel
theorem dX9_add_36 : decode cX9_add 36 = .ok (.aload_n 0, 1) := by decide +kernel
theorem dX9_add_37 : decode cX9_add 37 = .ok (.getfield 21, 3) := by decide +kernel
theorem dX9_add_40 : decode cX9_add 40 = .ok (.iload_n 3, 1) := by decide +kernel
theorem dX9_add_41 : decode cX9_add 41 = .ok (.iastore, 1) := by decide +kernel
theorem dX9_add_42 : decode cX9_add 42 = .ok (.aload_n 0, 1) := by decide +kernel
theorem dX9_add_43 : decode cX9_add 43 = .ok (.dup, 1) := by decide +kernel
theorem dX9_add_44 : decode cX9_add 44 = .ok (.getfield 21, 3) := by decide +kernel
theorem dX9_add_47 : decode cX9_add 47 = .ok (.iconst 1, 1) := by decide +kernel
theorem dX9_add_48 : decode cX9_add 48 = .ok (.iadd, 1) := by decide +kernel
theorem dX9_add_49 : decode cX9_add 49 = .ok (.putfield 21, 3) := by decide +kernel
theorem dX9_add_52 : decode cX9_add 52 = .ok (.return_, 1) := by decide +kernel
theorem wk_105 : Cond.fieldLink RX9 9 "ThinLine$Tokens" "kind" "[I" ∈ tl_L := List.mem_filter.mpr ⟨lw_m1 (i := 165) rfl, rfl⟩
theorem wk_106 : Cond.fieldLink RX9 15 "ThinLine$Tokens" "place" "[I" ∈ tl_L := List.mem_filter.mpr ⟨lw_m1 (i := 167) rfl, rfl⟩
theorem wk_107 : Cond.fieldLink RX9 18 "ThinLine$Tokens" "value" "[I" ∈ tl_L := List.mem_filter.mpr ⟨lw_m1 (i := 169) rfl, rfl⟩
theorem wk_387 : Cond.fieldLink RX9 21 "ThinLine$Tokens" "size" "I" ∈ tl_L := List.mem_filter.mpr ⟨lw_m1 (i := 171) rfl, rfl⟩
theorem dX9_cut_0 : decode cX9_cut 0 = .ok (.aload_n 0, 1) := by decide +kernel
theorem dX9_cut_1 : decode cX9_cut 1 = .ok (.iconst 0, 1) := by decide +kernel
theorem dX9_cut_2 : decode cX9_cut 2 = .ok (.putfield 21, 3) := by decide +kernel
theorem dX9_cut_5 : decode cX9_cut 5 = .ok (.iconst 0, 1) := by decide +kernel
theorem dX9_cut_6 : decode cX9_cut 6 = .ok (.istore_n 2, 1) := by decide +kernel
theorem dX9_cut_7 : decode cX9_cut 7 = .ok (.iload_n 2, 1) := by decide +kernel
theorem dX9_cut_8 : decode cX9_cut 8 = .ok (.aload_n 1, 1) := by decide +kernel
theorem dX9_cut_9 : decode cX9_cut 9 = .ok (.getfield 25, 3) := by decide +kernel
theorem dX9_cut_12 : decode cX9_cut 12 = .ok (.if_icmp .ge 159, 3) := by decide +kernel
theorem dX9_cut_15 : decode cX9_cut 15 = .ok (.iload_n 2, 1) := by decide +kernel
theorem dX9_cut_16 : decode cX9_cut 16 = .ok (.istore_n 3, 1) := by decide +kernel
theorem dX9_cut_17 : decode cX9_cut 17 = .ok (.aload_n 1, 1) := by decide +kernel
theorem dX9_cut_18 : decode cX9_cut 18 = .ok (.iload_n 2, 1) := by decide +kernel
theorem dX9_cut_19 : decode cX9_cut 19 = .ok (.invokevirtual 30, 3) := by decide +kernel
theorem dX9_cut_22 : decode cX9_cut 22 = .ok (.invokestatic 34, 3) := by decide +kernel
theorem dX9_cut_25 : decode cX9_cut 25 = .ok (.istore 4, 2) := by decide +kernel
theorem dX9_cut_27 : decode cX9_cut 27 = .ok (.iinc 2 1, 3) := by decide +kernel
theorem dX9_cut_30 : decode cX9_cut 30 = .ok (.iload 4, 2) := by decide +kernel
theorem dX9_cut_32 : decode cX9_cut 32 = .ok (.iconst 2, 1) := by decide +kernel
theorem dX9_cut_33 : decode cX9_cut 33 = .ok (.if_icmp .eq 9, 3) := by decide +kernel
theorem dX9_cut_36 : decode cX9_cut 36 = .ok (.iload 4, 2) := by decide +kernel
theorem dX9_cut_38 : decode cX9_cut 38 = .ok (.iconst 3, 1) := by decide +kernel
theorem dX9_cut_39 : decode cX9_cut 39 = .ok (.if_icmp .ne 61, 3) := by decide +kernel
theorem dX9_cut_42 : decode cX9_cut 42 = .ok (.iload_n 2, 1) := by decide +kernel
theorem dX9_cut_43 : decode cX9_cut 43 = .ok (.aload_n 1, 1) := by decide +kernel
theorem dX9_cut_44 : decode cX9_cut 44 = .ok (.getfield 25, 3) := by decide +kernel
theorem dX9_cut_47 : decode cX9_cut 47 = .ok (.if_icmp .ge 22, 3) := by decide +kernel
theorem dX9_cut_50 : decode cX9_cut 50 = .ok (.aload_n 1, 1) := by decide +kernel
theorem dX9_cut_51 : decode cX9_cut 51 = .ok (.iload_n 2, 1) := by decide +kernel
theorem dX9_cut_52 : decode cX9_cut 52 = .ok (.invokevirtual 30, 3) := by decide +kernel
theorem dX9_cut_55 : decode cX9_cut 55 = .ok (.invokestatic 34, 3) := by decide +kernel
theorem dX9_cut_58 : decode cX9_cut 58 = .ok (.iload 4, 2) := by decide +kernel
theorem dX9_cut_60 : decode cX9_cut 60 = .ok (.if_icmp .ne 9, 3) := by decide +kernel
theorem dX9_cut_63 : decode cX9_cut 63 = .ok (.iinc 2 1, 3) := by decide +kernel
theorem dX9_cut_66 : decode cX9_cut 66 = .ok (.goto (-24), 3) := by decide +kernel
theorem dX9_cut_69 : decode cX9_cut 69 = .ok (.aload_n 0, 1) := by decide +kernel
theorem dX9_cut_70 : decode cX9_cut 70 = .ok (.iload 4, 2) := by decide +kernel
theorem dX9_cut_72 : decode cX9_cut 72 = .ok (.iload_n 3, 1) := by decide +kernel
theorem dX9_cut_73 : decode cX9_cut 73 = .ok (.iload 4, 2) := by decide +kernel
theorem dX9_cut_75 : decode cX9_cut 75 = .ok (.iconst 2, 1) := by decide +kernel
theorem dX9_cut_76 : decode cX9_cut 76 = .ok (.if_icmp .ne 12, 3) := by decide +kernel
theorem dX9_cut_79 : decode cX9_cut 79 = .ok (.aload_n 1, 1) := by decide +kernel
theorem dX9_cut_80 : decode cX9_cut 80 = .ok (.iload_n 3, 1) := by decide +kernel
theorem dX9_cut_81 : decode cX9_cut 81 = .ok (.iload_n 2, 1) := by decide +kernel
theorem dX9_cut_82 : decode cX9_cut 82 = .ok (.invokestatic 37, 3) := by decide +kernel
theorem dX9_cut_85 : decode cX9_cut 85 = .ok (.goto 9, 3) := by decide +kernel
theorem dX9_cut_88 : decode cX9_cut 88 = .ok (.aload_n 1, 1) := by decide +kernel
theorem dX9_cut_89 : decode cX9_cut 89 = .ok (.iload_n 3, 1) := by decide +kernel
theorem dX9_cut_90 : decode cX9_cut 90 = .ok (.iload_n 2, 1) := by decide +kernel
theorem dX9_cut_91 : decode cX9_cut 91 = .ok (.invokestatic 41, 3) := by decide +kernel
theorem dX9_cut_94 : decode cX9_cut 94 = .ok (.invokevirtual 44, 3) := by decide +kernel
theorem dX9_cut_97 : decode cX9_cut 97 = .ok (.goto 71, 3) := by decide +kernel
theorem dX9_cut_100 : decode cX9_cut 100 = .ok (.iload 4, 2) := by decide +kernel
theorem dX9_cut_102 : decode cX9_cut 102 = .ok (.bipush 8, 2) := by decide +kernel
theorem dX9_cut_104 : decode cX9_cut 104 = .ok (.if_icmp .eq 10, 3) := by decide +kernel
theorem dX9_cut_107 : decode cX9_cut 107 = .ok (.iload 4, 2) := by decide +kernel
theorem dX9_cut_109 : decode cX9_cut 109 = .ok (.bipush 12, 2) := by decide +kernel
theorem dX9_cut_111 : decode cX9_cut 111 = .ok (.if_icmp .ne 39, 3) := by decide +kernel
theorem dX9_cut_114 : decode cX9_cut 114 = .ok (.aload_n 1, 1) := by decide +kernel
theorem dX9_cut_115 : decode cX9_cut 115 = .ok (.iload_n 2, 1) := by decide +kernel
theorem dX9_cut_116 : decode cX9_cut 116 = .ok (.invokevirtual 30, 3) := by decide +kernel
theorem dX9_cut_119 : decode cX9_cut 119 = .ok (.bipush 61, 2) := by decide +kernel
theorem dX9_cut_121 : decode cX9_cut 121 = .ok (.if_icmp .ne 29, 3) := by decide +kernel
theorem dX9_cut_124 : decode cX9_cut 124 = .ok (.iinc 2 1, 3) := by decide +kernel
theorem dX9_cut_127 : decode cX9_cut 127 = .ok (.aload_n 0, 1) := by decide +kernel
theorem dX9_cut_128 : decode cX9_cut 128 = .ok (.iload 4, 2) := by decide +kernel
theorem dX9_cut_130 : decode cX9_cut 130 = .ok (.bipush 8, 2) := by decide +kernel
theorem dX9_cut_132 : decode cX9_cut 132 = .ok (.if_icmp .ne 8, 3) := by decide +kernel
theorem dX9_cut_135 : decode cX9_cut 135 = .ok (.bipush 9, 2) := by decide +kernel
theorem dX9_cut_137 : decode cX9_cut 137 = .ok (.goto 5, 3) := by decide +kernel
theorem dX9_cut_140 : decode cX9_cut 140 = .ok (.bipush 11, 2) := by decide +kernel
theorem dX9_cut_142 : decode cX9_cut 142 = .ok (.iload_n 3, 1) := by decide +kernel
theorem dX9_cut_143 : decode cX9_cut 143 = .ok (.iconst 0, 1) := by decide +kernel
theorem dX9_cut_144 : decode cX9_cut 144 = .ok (.invokevirtual 44, 3) := by decide +kernel
theorem dX9_cut_147 : decode cX9_cut 147 = .ok (.goto 21, 3) := by decide +kernel
theorem dX9_cut_150 : decode cX9_cut 150 = .ok (.aload_n 1, 1) := by decide +kernel
theorem dX9_cut_151 : decode cX9_cut 151 = .ok (.iload_n 3, 1) := by decide +kernel
theorem dX9_cut_152 : decode cX9_cut 152 = .ok (.invokevirtual 30, 3) := by decide +kernel
theorem dX9_cut_155 : decode cX9_cut 155 = .ok (.bipush 32, 2) := by decide +kernel
theorem dX9_cut_157 : decode cX9_cut 157 = .ok (.if_icmp .eq 11, 3) := by decide +kernel
theorem dX9_cut_160 : decode cX9_cut 160 = .ok (.aload_n 0, 1) := by decide +kernel
theorem dX9_cut_161 : decode cX9_cut 161 = .ok (.iload 4, 2) := by decide +kernel
theorem dX9_cut_163 : decode cX9_cut 163 = .ok (.iload_n 3, 1) := by decide +kernel
theorem dX9_cut_164 : decode cX9_cut 164 = .ok (.iconst 0, 1) := by decide +kernel
theorem dX9_cut_165 : decode cX9_cut 165 = .ok (.invokevirtual 44, 3) := by decide +kernel
theorem dX9_cut_168 : decode cX9_cut 168 = .ok (.goto (-161), 3) := by decide +kernel
theorem dX9_cut_171 : decode cX9_cut 171 = .ok (.aload_n 0, 1) := by decide +kernel
theorem dX9_cut_172 : decode cX9_cut 172 = .ok (.iconst 0, 1) := by decide +kernel
theorem dX9_cut_173 : decode cX9_cut 173 = .ok (.aload_n 1, 1) := by decide +kernel
theorem dX9_cut_174 : decode cX9_cut 174 = .ok (.getfield 25, 3) := by decide +kernel
theorem dX9_cut_177 : decode cX9_cut 177 = .ok (.iconst 0, 1) := by decide +kernel
theorem dX9_cut_178 : decode cX9_cut 178 = .ok (.invokevirtual 44, 3) := by decide +kernel
theorem dX9_cut_181 : decode cX9_cut 181 = .ok (.return_, 1) := by decide +kernel
theorem wk_391 : Cond.methodLink RX9 34 yX9_sortOf ∈ tl_L := List.mem_filter.mpr ⟨lw_m3 (i := 83) rfl, rfl⟩
theorem wk_392 : Cond.static yX9_sortOf ∈ tl_L := List.mem_filter.mpr ⟨lw_m3 (i := 84) rfl, rfl⟩
theorem wk_393 : Cond.code yX9_sortOf cX9_sortOf 1 (some .int) ∈ tl_L := List.mem_filter.mpr ⟨lw_m3 (i := 85) rfl, rfl⟩
theorem wk_394 : Cond.methodLink RX9 37 yX9_numberIn ∈ tl_L := List.mem_filter.mpr ⟨lw_m3 (i := 86) rfl, rfl⟩
theorem wk_395 : Cond.static yX9_numberIn ∈ tl_L := List.mem_filter.mpr ⟨lw_m3 (i := 87) rfl, rfl⟩
theorem wk_396 : Cond.code yX9_numberIn cX9_numberIn 5 (some .int) ∈ tl_L := List.mem_filter.mpr ⟨lw_m3 (i := 88) rfl, rfl⟩
theorem wk_397 : Cond.methodLink RX9 41 yX9_wordIn ∈ tl_L := List.mem_filter.mpr ⟨lw_m3 (i := 89) rfl, rfl⟩
theorem wk_398 : Cond.static yX9_wordIn ∈ tl_L := List.mem_filter.mpr ⟨lw_m3 (i := 90) rfl, rfl⟩
theorem wk_399 : Cond.code yX9_wordIn cX9_wordIn 4 (some .int) ∈ tl_L := List.mem_filter.mpr ⟨lw_m3 (i := 91) rfl, rfl⟩
theorem wk_455 : Cond.methodLink RX9 44 yX9_add ∈ tl_L := List.mem_filter.mpr ⟨lw_m3 (i := 169) rfl, rfl⟩
theorem wk_456 : Cond.instanceMethod yX9_add ∈ tl_L := List.mem_filter.mpr ⟨lw_m3 (i := 171) rfl, rfl⟩
theorem wk_457 : Cond.selects RX9 yX9_add yX9_add ∈ tl_L := List.mem_filter.mpr ⟨lw_s2 (i := 0) (q := (yX9_add, 4)) rfl, rfl⟩
theorem wk_458 : Cond.code yX9_add cX9_add 4 none ∈ tl_L := List.mem_filter.mpr ⟨lw_m3 (i := 172) rfl, rfl⟩
theorem nk_25 : tl_N[25]? = some (Cond.fieldLinkNest "ThinLine$Tokens" 25 "ThinLine$Book" "taped" "I" "ThinLine") := by decide +kernel
theorem lk_X9_34 : tl_kS RX9 34 yX9_sortOf cX9_sortOf 1 (some .int) 1 := ⟨wk_393, wk_391, wk_392, wk_98, ⟨by decide +kernel, by decide +kernel, by decide +kernel⟩⟩
theorem lk_X9_37 : tl_kS RX9 37 yX9_numberIn cX9_numberIn 5 (some .int) 3 := ⟨wk_396, wk_394, wk_395, wk_98, ⟨by decide +kernel, by decide +kernel, by decide +kernel⟩⟩
theorem lk_X9_41 : tl_kS RX9 41 yX9_wordIn cX9_wordIn 4 (some .int) 3 := ⟨wk_399, wk_397, wk_398, wk_98, ⟨by decide +kernel, by decide +kernel, by decide +kernel⟩⟩
theorem lk_X9_44 : tl_kV RX9 44 RX9 yX9_add cX9_add 4 none 3 := ⟨wk_458, wk_455, wk_456, wk_457, wk_98, ⟨by decide +kernel, by decide +kernel, by decide +kernel⟩⟩
/-! ===== the class's text constants ===== -/
abbrev ts_Y := (Nat → Nat) × (Nat → Nat) × Option Nat
def ts_e : List (Nat × String) := [(66, "shine"), (68, "ripple"), (70, "noise"), (72, "eats"), (74, "bends"), (76, "gap"), (78, "wide"), (80, "skip"), (82, "gives"), (84, "if"), (86, "or"), (88, "and"), (90, "not"), (92, "colour"), (94, "glass"), (96, "hour"), (98, "row"), (100, "light"), (102, "heat"), (104, "storm"), (106, "fall"), (108, "week"), (110, "")]
def ts_len : List Nat := [5, 6, 5, 4, 5, 3, 4, 4, 5, 2, 2, 3, 3, 6, 5, 4, 3, 5, 4, 5, 4, 4, 0]
def ts_byt : List (List Int32) := [[115, 104, 105, 110, 101], [114, 105, 112, 112, 108, 101], [110, 111, 105, 115, 101], [101, 97, 116, 115], [98, 101, 110, 100, 115], [103, 97, 112], [119, 105, 100, 101], [115, 107, 105, 112], [103, 105, 118, 101, 115], [105, 102], [111, 114], [97, 110, 100], [110, 111, 116], [99, 111, 108, 111, 117, 114], [103, 108, 97, 115, 115], [104, 111, 117, 114], [114, 111, 119], [108, 105, 103, 104, 116], [104, 101, 97, 116], [115, 116, 111, 114, 109], [102, 97, 108, 108], [119, 101, 101, 107], []]
def ts_Z (A : Nat → Prop) (Z : ts_Y) (U : State) (H : Heap) : Prop := va_Z "java/lang/String" "COMPACT_STRINGS" "Z" (.int 1) A U H ∧ va_Z "jdk/internal/util/Preconditions" "SIOOBE_FORMATTER" "Ljava/util/function/BiFunction;" (va_rf Z.2.2) A U H ∧ vk_S 23 ts_len ts_byt Z.1 Z.2.1 A U H ∧ ∀ i : Nat, i < 23 → vk_R "ThinLine$Tokens" (ts_e.getD i (0, "")).1 (ts_e.getD i (0, "")).2 (Z.1 i) U
theorem ts_lens : ∀ i, i < 23 → ts_len.getD i 0 ≤ 6 := by decide
theorem ts_lenI {i : Nat} (h : i < 23) : (nI (ts_len.getD i 0)).toInt = ts_len.getD i 0 ∧ ts_len.getD i 0 ≤ 6 := ⟨nI_toInt (by have := ts_lens i h; omega), ts_lens i h⟩
theorem ts_Z.use {A B : Nat → Prop} {Z : ts_Y} {s U : State} {H : Heap} {locs : List Loc} (h : ts_Z A Z s s.heap) (hS : va_S A s.heap H locs) (hF : ∀ q, B q → A q) (hW : s.WarmedH U.vm) (hU : U.heap = H) : ts_Z B Z U U.heap := by
  rw [hU]
  exact ⟨((h.1.kept hS.2.1).moved hW.alike).narrow hF, ((h.2.1.kept hS.2.1).moved hW.alike).narrow hF, ((h.2.2.1.kept hS.2.1).moved hW.alike).narrow hF, fun i hi => (h.2.2.2 i hi).warm hW⟩
def tp_PS (D : va_G) (cy : Nat → ClassId) (L : List Nat) (K : Nat → tk_K) (Γ : tk_G) (f : Nat → va_E) (sz : Nat) (Z : ts_Y) (U : State) : Prop := U.heap.size = sz ∧ va_P D vwCl (va_pl L f) U.heap ∧ va_K D vwCl (tl_T cy) U ∧ L.Nodup ∧ tp_I cy L K Γ f ∧ tl_ok U ∧ tp_U L K ∧ ts_Z (tp_A L sz) Z U U.heap
theorem tp_PS.blind {D : va_G} {cy : Nat → ClassId} {L : List Nat} {K : Nat → tk_K} {Γ : tk_G} {f : Nat → va_E} {sz : Nat} {Z : ts_Y} {As : List Value} : FrameBlind (va_Pc As (tp_PS D cy L K Γ f sz Z)) := by
  intro a U g mk q
  obtain ⟨q0, q1, qP, qK, qD, qI, qN, qU, z1, z2, z3, z4⟩ := q
  have hv : U.vm.Alike (U.calling g mk a).vm := Vm.Alike.refl U.vm
  exact ⟨q0, q1, qP, va_K.moved (u := U) (U := U.calling g mk a) hv qK, qD, qI, tl_ok.same (u := U) (U := U.calling g mk a) rfl qN, qU, va_Z.moved (u := U) (U := U.calling g mk a) hv z1, va_Z.moved (u := U) (U := U.calling g mk a) hv z2, vk_S.moved (u := U) (U := U.calling g mk a) hv z3, fun i hi => vk_R.same (u := U) (U := U.calling g mk a) rfl (z4 i hi)⟩
theorem tp_PS.pre {D : va_G} {cy : Nat → ClassId} {L : List Nat} {K : Nat → tk_K} {Γ : tk_G} {f : Nat → va_E} {Z : ts_Y} {As : List Value} {s : State} {H : Heap} {A : Nat → Prop} {locs : List Loc} (hK : va_K D vwCl (tl_T cy) s) (hN : tl_ok s) (hL : L.Nodup) (hU : tp_U L K) (hI : tp_I cy L K Γ f) (hP : va_P D vwCl (va_pl L f) H) (hZ : ts_Z A Z s s.heap) (hS : va_S A s.heap H locs) (hF : ∀ q, tp_A L H.size q → A q) : PreS s H (va_Pc As (tp_PS D cy L K Γ f H.size Z)) As :=
  ⟨tp_PS.blind, fun U hU9 hW => ⟨rfl, by rw [hU9], by rw [hU9]; exact hP, va_K.moved hW.alike hK, hL, hI, tl_ok.warm hW hN, hU, hZ.use hS hF hW hU9⟩⟩
set_option maxHeartbeats 4000000 in
set_option maxRecDepth 100000 in
theorem ts_ckN (l : Launch) (D : va_G) (cy : Nat → ClassId) (sz : Nat) (L : List Nat) (K : Nat → tk_K) (Γ : tk_G) (f : Nat → va_E) (p0 : Int32) (p1 : Int32) (h0 : 0 ≤ p0.toInt ∧ p0.toInt < p1.toInt) : Met l yJ3_checkIndex_8e157 (tl_w yJ3_checkIndex_8e157 cJ3_checkIndex_8e157 3 (some .int)) ({ frames := 0, cells := 0, slots := 0, locals := 0 }) (va_Pc [.int p0, .int p1, .null] (tp_P D cy L K Γ f sz)) (vp_Si (fun r : Int32 => True)) 0 0 (fun _ => False) := by
  refine Met.ofW (cc := cJ3_checkIndex_8e157) (maxL := 3) (ret := (some .int)) (by decide) rfl ?_
  intro p e s m args below meth c s₁ B hml hv
  obtain ⟨rfl, hsz, hP, hK, hL, hI, hN, hU⟩ := hv
  have hx := B.exec
  have hb := B.bytes
  have hr := B.returns
  have hta := tl_hta (atoms_spec (ws := tl_w yJ3_checkIndex_8e157 cJ3_checkIndex_8e157 3 (some .int)) B.pre)
  have hown : s.vm.findClass RJ3 = some m.cls := findClass_of_methodNamed B.named
  have hlocks := B.notSynchronized
  subst hsz
  have hI0 := hI
  have hl := lv_entry ([.int p0, .int p1, .null]) (n := 3) (Nat.le_of_ble_eq_true rfl)
  rw [lg_entry_eq]
  generalize (lg_sl ([.int p0, .int p1, .null]) ++ List.replicate (3 - (lg_sl ([.int p0, .int p1, .null])).length) Slot.unset).toArray = ls at hl ⊢
  have hl : lv_has ls 3 [(0, .int p0), (1, .int p1), (2, .null)] := hl
  refine lv_iload_n hx hb dJ3_checkIndex_8e157_0 rfl (lv_at hl 0 rfl) ?_
  refine lv_if_lt (tgt := 9) hx hb dJ3_checkIndex_8e157_1 (by decide) (fun c_1 => ?_) (fun c_1 => ?_)
  · have c_1 : p0.toInt < (0 : Int) := tl_lt c_1
    exfalso; omega
  · have c_1 : (0 : Int) ≤ p0.toInt := tl_nlt c_1
    refine lv_iload_n hx hb dJ3_checkIndex_8e157_4 rfl (lv_at hl 0 rfl) ?_
    refine lv_iload_n hx hb dJ3_checkIndex_8e157_5 rfl (lv_at hl 1 rfl) ?_
    refine lv_icmp_lt (tgt := 16) hx hb dJ3_checkIndex_8e157_6 (by decide) (fun c_2 => ?_) (fun c_2 => ?_)
    · have c_2 : p0.toInt < p1.toInt := tl_lt c_2
      refine lv_iload_n hx hb dJ3_checkIndex_8e157_16 rfl (lv_at hl 0 rfl) ?_
      exact W.iret (v := p0) hx hb hr (fun t ht hW => ⟨_, rfl, trivial, ht⟩) (fun q h => by cases h) dJ3_checkIndex_8e157_17
    · have c_2 : p1.toInt ≤ p0.toInt := tl_nlt c_2
      exfalso; omega
set_option maxHeartbeats 4000000 in
set_option maxRecDepth 100000 in
theorem ts_ckR (l : Launch) (D : va_G) (cy : Nat → ClassId) (sz : Nat) (L : List Nat) (K : Nat → tk_K) (Γ : tk_G) (f : Nat → va_E) (p0 : Int32) (p1 : Int32) (q9 : Nat) (h0 : 0 ≤ p0.toInt ∧ p0.toInt < p1.toInt) : Met l yJ3_checkIndex_8e157 (tl_w yJ3_checkIndex_8e157 cJ3_checkIndex_8e157 3 (some .int)) ({ frames := 0, cells := 0, slots := 0, locals := 0 }) (va_Pc [.int p0, .int p1, .ref q9] (tp_P D cy L K Γ f sz)) (vp_Si (fun r : Int32 => True)) 0 0 (fun _ => False) := by
  refine Met.ofW (cc := cJ3_checkIndex_8e157) (maxL := 3) (ret := (some .int)) (by decide) rfl ?_
  intro p e s m args below meth c s₁ B hml hv
  obtain ⟨rfl, hsz, hP, hK, hL, hI, hN, hU⟩ := hv
  have hx := B.exec
  have hb := B.bytes
  have hr := B.returns
  have hta := tl_hta (atoms_spec (ws := tl_w yJ3_checkIndex_8e157 cJ3_checkIndex_8e157 3 (some .int)) B.pre)
  have hown : s.vm.findClass RJ3 = some m.cls := findClass_of_methodNamed B.named
  have hlocks := B.notSynchronized
  subst hsz
  have hI0 := hI
  have hl := lv_entry ([.int p0, .int p1, .ref q9]) (n := 3) (Nat.le_of_ble_eq_true rfl)
  rw [lg_entry_eq]
  generalize (lg_sl ([.int p0, .int p1, .ref q9]) ++ List.replicate (3 - (lg_sl ([.int p0, .int p1, .ref q9])).length) Slot.unset).toArray = ls at hl ⊢
  have hl : lv_has ls 3 [(0, .int p0), (1, .int p1), (2, .ref q9)] := hl
  refine lv_iload_n hx hb dJ3_checkIndex_8e157_0 rfl (lv_at hl 0 rfl) ?_
  refine lv_if_lt (tgt := 9) hx hb dJ3_checkIndex_8e157_1 (by decide) (fun c_1 => ?_) (fun c_1 => ?_)
  · have c_1 : p0.toInt < (0 : Int) := tl_lt c_1
    exfalso; omega
  · have c_1 : (0 : Int) ≤ p0.toInt := tl_nlt c_1
    refine lv_iload_n hx hb dJ3_checkIndex_8e157_4 rfl (lv_at hl 0 rfl) ?_
    refine lv_iload_n hx hb dJ3_checkIndex_8e157_5 rfl (lv_at hl 1 rfl) ?_
    refine lv_icmp_lt (tgt := 16) hx hb dJ3_checkIndex_8e157_6 (by decide) (fun c_2 => ?_) (fun c_2 => ?_)
    · have c_2 : p0.toInt < p1.toInt := tl_lt c_2
      refine lv_iload_n hx hb dJ3_checkIndex_8e157_16 rfl (lv_at hl 0 rfl) ?_
      exact W.iret (v := p0) hx hb hr (fun t ht hW => ⟨_, rfl, trivial, ht⟩) (fun q h => by cases h) dJ3_checkIndex_8e157_17
    · have c_2 : p1.toInt ≤ p0.toInt := tl_nlt c_2
      exfalso; omega
set_option maxHeartbeats 4000000 in
set_option maxRecDepth 100000 in
theorem t_J0_checkIndex_df160 (l : Launch) (D : va_G) (cy : Nat → ClassId) (sz : Nat) (L : List Nat) (K : Nat → tk_K) (Γ : tk_G) (f : Nat → va_E) (Z : ts_Y) (p0 : Int32) (p1 : Int32) (h0 : 0 ≤ p0.toInt ∧ p0.toInt < p1.toInt) : Met l yJ0_checkIndex_df160 (tl_w yJ0_checkIndex_df160 cJ0_checkIndex_df160 2 none) ({ frames := 1, cells := 0, slots := 0, locals := 22 }) (va_Pc [.int p0, .int p1] (tp_PS D cy L K Γ f sz Z)) (va_Sv (fun _ : Unit => True)) 0 0 (fun _ => False) := by
  refine Met.ofW (cc := cJ0_checkIndex_df160) (maxL := 2) (ret := none) (by decide) rfl ?_
  intro p e s m args below meth c s₁ B hml hv
  obtain ⟨rfl, hsz, hP, hK, hL, hI, hN, hU, hZ⟩ := hv
  have hx := B.exec
  have hb := B.bytes
  have hr := B.returns
  have hta := tl_hta (atoms_spec (ws := tl_w yJ0_checkIndex_df160 cJ0_checkIndex_df160 2 none) B.pre)
  have hown : s.vm.findClass RJ0 = some m.cls := findClass_of_methodNamed B.named
  have hlocks := B.notSynchronized
  subst hsz
  have hI0 := hI
  have hS : va_S (tp_A L s.heap.size) s.heap s.heap [] := va_S.rf
  have hAf : ∀ (H : Heap), s.heap.size ≤ H.size → ∀ q, tp_A L H.size q → tp_A L s.heap.size q := fun H h q hq => hq.elim Or.inl (fun h2 => Or.inr (Nat.le_trans h h2))
  have hl := lv_entry ([.int p0, .int p1]) (n := 2) (Nat.le_of_ble_eq_true rfl)
  rw [lg_entry_eq]
  generalize (lg_sl ([.int p0, .int p1]) ++ List.replicate (2 - (lg_sl ([.int p0, .int p1])).length) Slot.unset).toArray = ls at hl ⊢
  have hl : lv_has ls 2 [(0, .int p0), (1, .int p1)] := hl
  refine lv_iload_n hx hb dJ0_checkIndex_df160_0 rfl (lv_at hl 0 rfl) ?_
  refine lv_iload_n hx hb dJ0_checkIndex_df160_1 rfl (lv_at hl 1 rfl) ?_
  refine va_gets hx hb hZ.2.1 hS hown (hta _ wk_433) (fun _ h9 => h9) dJ0_checkIndex_df160_2 ?_
  cases hz9 : Z.2.2 with
  | none =>
    refine W.eq (g2 := F0 m 5 ls ([.null, .int p1, .int p0])) (by rfl) ?_
    refine tl_si (tq_rS (As := [.int p0, .int p1, .null]) (rest := []) ⟨hx, hb, hml, hown, hta⟩ (tp_P.pre hK hN hL hU hI hP) lk_J0_1059 (ts_ckN l D cy s.heap.size L K Γ f p0 p1 (by first | omega | (simp only [Int32.toInt_toInt64]; omega) | decide | assumption)) rfl rfl ⟨Nat.le_of_ble_eq_true rfl, Nat.le_of_ble_eq_true rfl⟩ rfl hl.1 rfl (Nat.le_of_ble_eq_true rfl) dJ0_checkIndex_df160_5 ⟨Nat.le_of_ble_eq_true rfl, Nat.le_of_ble_eq_true rfl⟩) (fun r_2 hw_1 => ?_)
    refine lv_pop hx hb dJ0_checkIndex_df160_8 rfl ?_
    exact W.vret hx hb hr (fun t ht hW => ⟨rfl, trivial, ht⟩) (fun q h => by cases h) dJ0_checkIndex_df160_9
  | some q9 =>
    refine W.eq (g2 := F0 m 5 ls ([.ref q9, .int p1, .int p0])) (by rfl) ?_
    refine tl_si (tq_rS (As := [.int p0, .int p1, .ref q9]) (rest := []) ⟨hx, hb, hml, hown, hta⟩ (tp_P.pre hK hN hL hU hI hP) lk_J0_1059 (ts_ckR l D cy s.heap.size L K Γ f p0 p1 q9 (by first | omega | (simp only [Int32.toInt_toInt64]; omega) | decide | assumption)) rfl rfl ⟨Nat.le_of_ble_eq_true rfl, Nat.le_of_ble_eq_true rfl⟩ rfl hl.1 rfl (Nat.le_of_ble_eq_true rfl) dJ0_checkIndex_df160_5 ⟨Nat.le_of_ble_eq_true rfl, Nat.le_of_ble_eq_true rfl⟩) (fun r_4 hw_3 => ?_)
    refine lv_pop hx hb dJ0_checkIndex_df160_8 rfl ?_
    exact W.vret hx hb hr (fun t ht hW => ⟨rfl, trivial, ht⟩) (fun q h => by cases h) dJ0_checkIndex_df160_9
set_option maxHeartbeats 4000000 in
set_option maxRecDepth 100000 in
theorem t_J0_coder_7d493 (l : Launch) (D : va_G) (cy : Nat → ClassId) (sz : Nat) (L : List Nat) (K : Nat → tk_K) (Γ : tk_G) (f : Nat → va_E) (Z : ts_Y) (i : Nat) (hi : i < 23) : Met l yJ0_coder_7d493 (tl_w yJ0_coder_7d493 cJ0_coder_7d493 1 (some .byte)) ({ frames := 0, cells := 0, slots := 0, locals := 0 }) (va_Pc [.ref (Z.1 i)] (tp_PS D cy L K Γ f sz Z)) (vp_Si (fun r : Int32 => r = 0)) 0 0 (fun _ => False) := by
  refine Met.ofW (cc := cJ0_coder_7d493) (maxL := 1) (ret := (some .byte)) (by decide) rfl ?_
  intro p e s m args below meth c s₁ B hml hv
  obtain ⟨rfl, hsz, hP, hK, hL, hI, hN, hU, hZ⟩ := hv
  have hx := B.exec
  have hb := B.bytes
  have hr := B.returns
  have hta := tl_hta (atoms_spec (ws := tl_w yJ0_coder_7d493 cJ0_coder_7d493 1 (some .byte)) B.pre)
  have hown : s.vm.findClass RJ0 = some m.cls := findClass_of_methodNamed B.named
  have hlocks := B.notSynchronized
  subst hsz
  have hI0 := hI
  have hS : va_S (tp_A L s.heap.size) s.heap s.heap [] := va_S.rf
  have hAf : ∀ (H : Heap), s.heap.size ≤ H.size → ∀ q, tp_A L H.size q → tp_A L s.heap.size q := fun H h q hq => hq.elim Or.inl (fun h2 => Or.inr (Nat.le_trans h h2))
  have hl := lv_entry ([.ref (Z.1 i)]) (n := 1) (Nat.le_of_ble_eq_true rfl)
  rw [lg_entry_eq]
  generalize (lg_sl ([.ref (Z.1 i)]) ++ List.replicate (1 - (lg_sl ([.ref (Z.1 i)])).length) Slot.unset).toArray = ls at hl ⊢
  have hl : lv_has ls 1 [(0, .ref (Z.1 i))] := hl
  refine va_gets hx hb hZ.1 hS hown (hta _ wk_416) (fun _ h9 => h9) dJ0_coder_7d493_0 ?_
  refine lv_if_eq (tgt := 13) hx hb dJ0_coder_7d493_3 (by decide) (fun c => absurd c (by decide)) (fun _ => ?_)
  refine lv_aload_n hx hb dJ0_coder_7d493_6 rfl (lv_at hl 0 rfl) ?_
  refine vk_getf hx hb (v := .int 0) (hZ.2.2.1.1 i hi).2.1 hS hown (hta _ wk_417) (fun _ h9 => h9) dJ0_coder_7d493_7 ?_
  refine lv_goto (tgt := 14) hx hb dJ0_coder_7d493_10 (by decide) ?_
  exact W.zret (ty := .byte) (v := 0) hx hb hr rfl (fun t ht hW => ⟨_, rfl, rfl, ht⟩) (fun q h => by cases h) dJ0_coder_7d493_14
set_option maxHeartbeats 4000000 in
set_option maxRecDepth 100000 in
theorem t_J0_isLatin1_aae02 (l : Launch) (D : va_G) (cy : Nat → ClassId) (sz : Nat) (L : List Nat) (K : Nat → tk_K) (Γ : tk_G) (f : Nat → va_E) (Z : ts_Y) (i : Nat) (hi : i < 23) : Met l yJ0_isLatin1_aae02 (tl_w yJ0_isLatin1_aae02 cJ0_isLatin1_aae02 1 (some .boolean)) ({ frames := 0, cells := 0, slots := 0, locals := 0 }) (va_Pc [.ref (Z.1 i)] (tp_PS D cy L K Γ f sz Z)) (vp_Si (fun r : Int32 => r = 1)) 0 0 (fun _ => False) := by
  refine Met.ofW (cc := cJ0_isLatin1_aae02) (maxL := 1) (ret := (some .boolean)) (by decide) rfl ?_
  intro p e s m args below meth c s₁ B hml hv
  obtain ⟨rfl, hsz, hP, hK, hL, hI, hN, hU, hZ⟩ := hv
  have hx := B.exec
  have hb := B.bytes
  have hr := B.returns
  have hta := tl_hta (atoms_spec (ws := tl_w yJ0_isLatin1_aae02 cJ0_isLatin1_aae02 1 (some .boolean)) B.pre)
  have hown : s.vm.findClass RJ0 = some m.cls := findClass_of_methodNamed B.named
  have hlocks := B.notSynchronized
  subst hsz
  have hI0 := hI
  have hS : va_S (tp_A L s.heap.size) s.heap s.heap [] := va_S.rf
  have hAf : ∀ (H : Heap), s.heap.size ≤ H.size → ∀ q, tp_A L H.size q → tp_A L s.heap.size q := fun H h q hq => hq.elim Or.inl (fun h2 => Or.inr (Nat.le_trans h h2))
  have hl := lv_entry ([.ref (Z.1 i)]) (n := 1) (Nat.le_of_ble_eq_true rfl)
  rw [lg_entry_eq]
  generalize (lg_sl ([.ref (Z.1 i)]) ++ List.replicate (1 - (lg_sl ([.ref (Z.1 i)])).length) Slot.unset).toArray = ls at hl ⊢
  have hl : lv_has ls 1 [(0, .ref (Z.1 i))] := hl
  refine va_gets hx hb hZ.1 hS hown (hta _ wk_416) (fun _ h9 => h9) dJ0_isLatin1_aae02_0 ?_
  refine lv_if_eq (tgt := 17) hx hb dJ0_isLatin1_aae02_3 (by decide) (fun c => absurd c (by decide)) (fun _ => ?_)
  refine lv_aload_n hx hb dJ0_isLatin1_aae02_6 rfl (lv_at hl 0 rfl) ?_
  refine vk_getf hx hb (v := .int 0) (hZ.2.2.1.1 i hi).2.1 hS hown (hta _ wk_417) (fun _ h9 => h9) dJ0_isLatin1_aae02_7 ?_
  refine lv_if_ne (tgt := 17) hx hb dJ0_isLatin1_aae02_10 (by decide) (fun c => absurd c (by decide)) (fun _ => ?_)
  refine lv_iconst (v := 1) hx hb dJ0_isLatin1_aae02_13 (by decide) ?_
  refine lv_goto (tgt := 18) hx hb dJ0_isLatin1_aae02_14 (by decide) ?_
  exact W.zret (ty := .boolean) (v := 1) hx hb hr rfl (fun t ht hW => ⟨_, rfl, rfl, ht⟩) (fun q h => by cases h) dJ0_isLatin1_aae02_18
set_option maxHeartbeats 4000000 in
set_option maxRecDepth 100000 in
theorem t_J0_length_8abf5 (l : Launch) (D : va_G) (cy : Nat → ClassId) (sz : Nat) (L : List Nat) (K : Nat → tk_K) (Γ : tk_G) (f : Nat → va_E) (Z : ts_Y) (i : Nat) (hi : i < 23) : Met l yJ0_length_8abf5 (tl_w yJ0_length_8abf5 cJ0_length_8abf5 1 (some .int)) ({ frames := 1, cells := 0, slots := 0, locals := 20 }) (va_Pc [.ref (Z.1 i)] (tp_PS D cy L K Γ f sz Z)) (vp_Si (fun r : Int32 => r = nI (ts_len.getD i 0))) 0 0 (fun _ => False) := by
  refine Met.ofW (cc := cJ0_length_8abf5) (maxL := 1) (ret := (some .int)) (by decide) rfl ?_
  intro p e s m args below meth c s₁ B hml hv
  obtain ⟨rfl, hsz, hP, hK, hL, hI, hN, hU, hZ⟩ := hv
  have hx := B.exec
  have hb := B.bytes
  have hr := B.returns
  have hta := tl_hta (atoms_spec (ws := tl_w yJ0_length_8abf5 cJ0_length_8abf5 1 (some .int)) B.pre)
  have hown : s.vm.findClass RJ0 = some m.cls := findClass_of_methodNamed B.named
  have hlocks := B.notSynchronized
  subst hsz
  have hI0 := hI
  have hS : va_S (tp_A L s.heap.size) s.heap s.heap [] := va_S.rf
  have hAf : ∀ (H : Heap), s.heap.size ≤ H.size → ∀ q, tp_A L H.size q → tp_A L s.heap.size q := fun H h q hq => hq.elim Or.inl (fun h2 => Or.inr (Nat.le_trans h h2))
  have hl := lv_entry ([.ref (Z.1 i)]) (n := 1) (Nat.le_of_ble_eq_true rfl)
  rw [lg_entry_eq]
  generalize (lg_sl ([.ref (Z.1 i)]) ++ List.replicate (1 - (lg_sl ([.ref (Z.1 i)])).length) Slot.unset).toArray = ls at hl ⊢
  have hl : lv_has ls 1 [(0, .ref (Z.1 i))] := hl
  refine lv_aload_n hx hb dJ0_length_8abf5_0 rfl (lv_at hl 0 rfl) ?_
  refine vk_getf hx hb (v := .ref (Z.2.1 i)) (hZ.2.2.1.1 i hi).2.2.1 hS hown (hta _ wk_411) (fun _ h9 => h9) dJ0_length_8abf5_1 ?_
  refine va_tlen hx hb (v := nI (ts_len.getD i 0)) (hZ.2.2.1.1 i hi).2.2.2 hS rfl dJ0_length_8abf5_4 ?_
  have hln := ts_lenI hi
  refine lv_aload_n hx hb dJ0_length_8abf5_5 rfl (lv_at hl 0 rfl) ?_
  refine tl_si (tq_rV (As := []) (rest := [.int (nI (ts_len.getD i 0))]) ⟨hx, hb, hml, hown, hta⟩ (tp_PS.pre hK hN hL hU hI hP hZ hS (hAf _ hS.1)) (vk_recv hZ.2.2.1 hi hS) lk_J0_335 (t_J0_coder_7d493 l D cy s.heap.size L K Γ f Z i hi) rfl rfl ⟨Nat.le_of_ble_eq_true rfl, Nat.le_of_ble_eq_true rfl⟩ rfl hl.1 rfl (Nat.le_of_ble_eq_true rfl) dJ0_length_8abf5_6 ⟨Nat.le_of_ble_eq_true rfl, Nat.le_of_ble_eq_true rfl⟩) (fun r_2 hw_1 => ?_)
  subst hw_1
  refine lv_ishr hx hb dJ0_length_8abf5_9 ?_
  refine lv_topi (fun z_3 ez_3 => ?_)
  exact W.iret (v := z_3) hx hb hr (fun t ht hW => ⟨_, rfl, (by rw [ez_3]; exact sc_shr0 (by omega)), ht⟩) (fun q h => by cases h) dJ0_length_8abf5_10
set_option maxHeartbeats 4000000 in
set_option maxRecDepth 100000 in
theorem t_J1_charAt_3b067 (l : Launch) (D : va_G) (cy : Nat → ClassId) (sz : Nat) (L : List Nat) (K : Nat → tk_K) (Γ : tk_G) (f : Nat → va_E) (Z : ts_Y) (i : Nat) (p0 : Int32) (hi : i < 23) (h0 : 0 ≤ p0.toInt ∧ p0.toInt < ts_len.getD i 0) : Met l yJ1_charAt_3b067 (tl_w yJ1_charAt_3b067 cJ1_charAt_3b067 2 (some .char)) ({ frames := 2, cells := 0, slots := 0, locals := 43 }) (va_Pc [.ref (Z.2.1 i), .int p0] (tp_PS D cy L K Γ f sz Z)) (vp_Si (fun r : Int32 => narrow .char (.int r) = .int r)) 0 0 (fun _ => False) := by
  refine Met.ofW (cc := cJ1_charAt_3b067) (maxL := 2) (ret := (some .char)) (by decide) rfl ?_
  intro p e s m args below meth c s₁ B hml hv
  obtain ⟨rfl, hsz, hP, hK, hL, hI, hN, hU, hZ⟩ := hv
  have hx := B.exec
  have hb := B.bytes
  have hr := B.returns
  have hta := tl_hta (atoms_spec (ws := tl_w yJ1_charAt_3b067 cJ1_charAt_3b067 2 (some .char)) B.pre)
  have hown : s.vm.findClass RJ1 = some m.cls := findClass_of_methodNamed B.named
  have hlocks := B.notSynchronized
  subst hsz
  have hI0 := hI
  have hS : va_S (tp_A L s.heap.size) s.heap s.heap [] := va_S.rf
  have hAf : ∀ (H : Heap), s.heap.size ≤ H.size → ∀ q, tp_A L H.size q → tp_A L s.heap.size q := fun H h q hq => hq.elim Or.inl (fun h2 => Or.inr (Nat.le_trans h h2))
  have hl := lv_entry ([.ref (Z.2.1 i), .int p0]) (n := 2) (Nat.le_of_ble_eq_true rfl)
  rw [lg_entry_eq]
  generalize (lg_sl ([.ref (Z.2.1 i), .int p0]) ++ List.replicate (2 - (lg_sl ([.ref (Z.2.1 i), .int p0])).length) Slot.unset).toArray = ls at hl ⊢
  have hl : lv_has ls 2 [(0, .ref (Z.2.1 i)), (1, .int p0)] := hl
  refine lv_iload_n hx hb dJ1_charAt_3b067_0 rfl (lv_at hl 1 rfl) ?_
  refine lv_aload_n hx hb dJ1_charAt_3b067_1 rfl (lv_at hl 0 rfl) ?_
  refine va_tlen hx hb (v := nI (ts_len.getD i 0)) (hZ.2.2.1.1 i hi).2.2.2 hS rfl dJ1_charAt_3b067_2 ?_
  have hln := ts_lenI hi
  refine tl_sv (tq_rS (As := [.int p0, .int (nI (ts_len.getD i 0))]) (rest := []) ⟨hx, hb, hml, hown, hta⟩ (tp_PS.pre hK hN hL hU hI hP hZ hS (hAf _ hS.1)) lk_J1_9 (t_J0_checkIndex_df160 l D cy s.heap.size L K Γ f Z p0 (nI (ts_len.getD i 0)) (by first | omega | (simp only [Int32.toInt_toInt64]; omega) | decide | assumption)) rfl rfl ⟨Nat.le_of_ble_eq_true rfl, Nat.le_of_ble_eq_true rfl⟩ rfl hl.1 rfl (Nat.le_of_ble_eq_true rfl) dJ1_charAt_3b067_3 ⟨Nat.le_of_ble_eq_true rfl, Nat.le_of_ble_eq_true rfl⟩) (fun _ hw_1 => ?_)
  refine lv_aload_n hx hb dJ1_charAt_3b067_6 rfl (lv_at hl 0 rfl) ?_
  refine lv_iload_n hx hb dJ1_charAt_3b067_7 rfl (lv_at hl 1 rfl) ?_
  refine va_tb hx hb (hZ.2.2.1.1 i hi).2.2.2 hS (tl_in (by omega) (by omega)) rfl dJ1_charAt_3b067_8 ?_
  refine lv_topi (fun z_3 ez_3 => ?_)
  refine lv_sipush (v := 255) hx hb dJ1_charAt_3b067_9 (by decide) ?_
  refine lv_iand hx hb dJ1_charAt_3b067_12 ?_
  refine lv_topi (fun z_4 ez_4 => ?_)
  refine lv_i2c hx hb dJ1_charAt_3b067_13 rfl ?_
  refine lv_topi (fun z_5 ez_5 => ?_)
  exact W.zret (ty := .char) (v := z_5) hx hb hr (by rw [ez_5, ez_4, sc_c2]; exact sc_nar _) (fun t ht hW => ⟨_, rfl, (by rw [ez_5, ez_4, sc_c2]; exact sc_nar _) , ht⟩) (fun q h => by cases h) dJ1_charAt_3b067_14
set_option maxHeartbeats 4000000 in
set_option maxRecDepth 100000 in
theorem t_J0_charAt_5068e (l : Launch) (D : va_G) (cy : Nat → ClassId) (sz : Nat) (L : List Nat) (K : Nat → tk_K) (Γ : tk_G) (f : Nat → va_E) (Z : ts_Y) (i : Nat) (p0 : Int32) (hi : i < 23) (h0 : 0 ≤ p0.toInt ∧ p0.toInt < ts_len.getD i 0) : Met l yJ0_charAt_5068e (tl_w yJ0_charAt_5068e cJ0_charAt_5068e 2 (some .char)) ({ frames := 3, cells := 0, slots := 0, locals := 64 }) (va_Pc [.ref (Z.1 i), .int p0] (tp_PS D cy L K Γ f sz Z)) (vp_Si (fun r : Int32 => True)) 0 0 (fun _ => False) := by
  refine Met.ofW (cc := cJ0_charAt_5068e) (maxL := 2) (ret := (some .char)) (by decide) rfl ?_
  intro p e s m args below meth c s₁ B hml hv
  obtain ⟨rfl, hsz, hP, hK, hL, hI, hN, hU, hZ⟩ := hv
  have hx := B.exec
  have hb := B.bytes
  have hr := B.returns
  have hta := tl_hta (atoms_spec (ws := tl_w yJ0_charAt_5068e cJ0_charAt_5068e 2 (some .char)) B.pre)
  have hown : s.vm.findClass RJ0 = some m.cls := findClass_of_methodNamed B.named
  have hlocks := B.notSynchronized
  subst hsz
  have hI0 := hI
  have hS : va_S (tp_A L s.heap.size) s.heap s.heap [] := va_S.rf
  have hAf : ∀ (H : Heap), s.heap.size ≤ H.size → ∀ q, tp_A L H.size q → tp_A L s.heap.size q := fun H h q hq => hq.elim Or.inl (fun h2 => Or.inr (Nat.le_trans h h2))
  have hl := lv_entry ([.ref (Z.1 i), .int p0]) (n := 2) (Nat.le_of_ble_eq_true rfl)
  rw [lg_entry_eq]
  generalize (lg_sl ([.ref (Z.1 i), .int p0]) ++ List.replicate (2 - (lg_sl ([.ref (Z.1 i), .int p0])).length) Slot.unset).toArray = ls at hl ⊢
  have hl : lv_has ls 2 [(0, .ref (Z.1 i)), (1, .int p0)] := hl
  refine lv_aload_n hx hb dJ0_charAt_5068e_0 rfl (lv_at hl 0 rfl) ?_
  refine tl_si (tq_rV (As := []) (rest := []) ⟨hx, hb, hml, hown, hta⟩ (tp_PS.pre hK hN hL hU hI hP hZ hS (hAf _ hS.1)) (vk_recv hZ.2.2.1 hi hS) lk_J0_492 (t_J0_isLatin1_aae02 l D cy s.heap.size L K Γ f Z i hi) rfl rfl ⟨Nat.le_of_ble_eq_true rfl, Nat.le_of_ble_eq_true rfl⟩ rfl hl.1 rfl (Nat.le_of_ble_eq_true rfl) dJ0_charAt_5068e_1 ⟨Nat.le_of_ble_eq_true rfl, Nat.le_of_ble_eq_true rfl⟩) (fun r_2 hw_1 => ?_)
  subst hw_1
  refine lv_if_eq (tgt := 16) hx hb dJ0_charAt_5068e_4 (by decide) (fun c => absurd c (by decide)) (fun _ => ?_)
  refine lv_aload_n hx hb dJ0_charAt_5068e_7 rfl (lv_at hl 0 rfl) ?_
  refine vk_getf hx hb (v := .ref (Z.2.1 i)) (hZ.2.2.1.1 i hi).2.2.1 hS hown (hta _ wk_411) (fun _ h9 => h9) dJ0_charAt_5068e_8 ?_
  refine lv_iload_n hx hb dJ0_charAt_5068e_11 rfl (lv_at hl 1 rfl) ?_
  refine tl_si (tq_rS (As := [.ref (Z.2.1 i), .int p0]) (rest := []) ⟨hx, hb, hml, hown, hta⟩ (tp_PS.pre hK hN hL hU hI hP hZ hS (hAf _ hS.1)) lk_J0_495 (t_J1_charAt_3b067 l D cy s.heap.size L K Γ f Z i p0 hi (by first | omega | (simp only [Int32.toInt_toInt64]; omega) | decide | assumption)) rfl rfl ⟨Nat.le_of_ble_eq_true rfl, Nat.le_of_ble_eq_true rfl⟩ rfl hl.1 rfl (Nat.le_of_ble_eq_true rfl) dJ0_charAt_5068e_12 ⟨Nat.le_of_ble_eq_true rfl, Nat.le_of_ble_eq_true rfl⟩) (fun r_4 hw_3 => ?_)
  have hw_3 : narrow .char (.int r_4) = .int r_4 := hw_3
  exact W.zret (ty := .char) (v := r_4) hx hb hr (by assumption) (fun t ht hW => ⟨_, rfl, trivial, ht⟩) (fun q h => by cases h) dJ0_charAt_5068e_15
set_option maxHeartbeats 4000000 in
set_option maxRecDepth 100000 in
theorem t_X9_spelling (l : Launch) (D : va_G) (cy : Nat → ClassId) (sz : Nat) (L : List Nat) (K : Nat → tk_K) (Γ : tk_G) (f : Nat → va_E) (Z : ts_Y) (p0 : Int32)  : Met l yX9_spelling (tl_w yX9_spelling cX9_spelling 1 (some (.object "java/lang/String"))) ({ frames := 0, cells := 0, slots := 0, locals := 0 }) (va_Pc [.int p0] (tp_PS D cy L K Γ f sz Z)) (va_Sq (fun r : Option Nat => ∃ i, i < 23 ∧ r = some (Z.1 i))) 0 0 (fun _ => False) := by
  refine Met.ofW (cc := cX9_spelling) (maxL := 1) (ret := (some (.object "java/lang/String"))) (by decide) rfl ?_
  intro p e s m args below meth c s₁ B hml hv
  obtain ⟨rfl, hsz, hP, hK, hL, hI, hN, hU, hZ⟩ := hv
  have hx := B.exec
  have hb := B.bytes
  have hr := B.returns
  have hta := tl_hta (atoms_spec (ws := tl_w yX9_spelling cX9_spelling 1 (some (.object "java/lang/String"))) B.pre)
  have hown : s.vm.findClass RX9 = some m.cls := findClass_of_methodNamed B.named
  have hlocks := B.notSynchronized
  subst hsz
  have hI0 := hI
  have hS : va_S (tp_A L s.heap.size) s.heap s.heap [] := va_S.rf
  have hAf : ∀ (H : Heap), s.heap.size ≤ H.size → ∀ q, tp_A L H.size q → tp_A L s.heap.size q := fun H h q hq => hq.elim Or.inl (fun h2 => Or.inr (Nat.le_trans h h2))
  have hl := lv_entry ([.int p0]) (n := 1) (Nat.le_of_ble_eq_true rfl)
  rw [lg_entry_eq]
  generalize (lg_sl ([.int p0]) ++ List.replicate (1 - (lg_sl ([.int p0])).length) Slot.unset).toArray = ls at hl ⊢
  have hl : lv_has ls 1 [(0, .int p0)] := hl
  refine lv_iload_n hx hb dX9_spelling_0 rfl (lv_at hl 0 rfl) ?_
  rcases (show p0.toInt = 0 ∨ p0.toInt = 1 ∨ p0.toInt = 2 ∨ p0.toInt = 3 ∨ p0.toInt = 4 ∨ p0.toInt = 5 ∨ p0.toInt = 6 ∨ p0.toInt = 7 ∨ p0.toInt = 8 ∨ p0.toInt = 9 ∨ p0.toInt = 10 ∨ p0.toInt = 11 ∨ p0.toInt = 12 ∨ p0.toInt = 13 ∨ p0.toInt = 14 ∨ p0.toInt = 15 ∨ p0.toInt = 16 ∨ p0.toInt = 17 ∨ p0.toInt = 18 ∨ p0.toInt = 19 ∨ p0.toInt = 20 ∨ p0.toInt = 21 ∨ (p0.toInt < 0 ∨ 21 < p0.toInt) by omega) with c_1 | c_1 | c_1 | c_1 | c_1 | c_1 | c_1 | c_1 | c_1 | c_1 | c_1 | c_1 | c_1 | c_1 | c_1 | c_1 | c_1 | c_1 | c_1 | c_1 | c_1 | c_1 | c_1
  · refine lv_tableIn (tgt := 104) hx hb dX9_spelling_1 (by omega) (by omega) (by rw [c_1]; rfl) (by decide) ?_
    refine va_ldcS hx hb hown (show vk_R RX9 66 "shine" (Z.1 0) s from hZ.2.2.2 0 (by decide)) dX9_spelling_104 ?_
    exact W.aret (v := .ref (Z.1 0)) hx hb hr (Or.inl ⟨_, rfl⟩) (Or.inr ⟨_, rfl⟩) (fun t ht hW => ⟨some (Z.1 0), rfl, ⟨0, (by decide), rfl⟩, ht⟩) (fun q h => by cases h) dX9_spelling_106
  · refine lv_tableIn (tgt := 107) hx hb dX9_spelling_1 (by omega) (by omega) (by rw [c_1]; rfl) (by decide) ?_
    refine va_ldcS hx hb hown (show vk_R RX9 68 "ripple" (Z.1 1) s from hZ.2.2.2 1 (by decide)) dX9_spelling_107 ?_
    exact W.aret (v := .ref (Z.1 1)) hx hb hr (Or.inl ⟨_, rfl⟩) (Or.inr ⟨_, rfl⟩) (fun t ht hW => ⟨some (Z.1 1), rfl, ⟨1, (by decide), rfl⟩, ht⟩) (fun q h => by cases h) dX9_spelling_109
  · refine lv_tableIn (tgt := 110) hx hb dX9_spelling_1 (by omega) (by omega) (by rw [c_1]; rfl) (by decide) ?_
    refine va_ldcS hx hb hown (show vk_R RX9 70 "noise" (Z.1 2) s from hZ.2.2.2 2 (by decide)) dX9_spelling_110 ?_
    exact W.aret (v := .ref (Z.1 2)) hx hb hr (Or.inl ⟨_, rfl⟩) (Or.inr ⟨_, rfl⟩) (fun t ht hW => ⟨some (Z.1 2), rfl, ⟨2, (by decide), rfl⟩, ht⟩) (fun q h => by cases h) dX9_spelling_112
  · refine lv_tableIn (tgt := 113) hx hb dX9_spelling_1 (by omega) (by omega) (by rw [c_1]; rfl) (by decide) ?_
    refine va_ldcS hx hb hown (show vk_R RX9 72 "eats" (Z.1 3) s from hZ.2.2.2 3 (by decide)) dX9_spelling_113 ?_
    exact W.aret (v := .ref (Z.1 3)) hx hb hr (Or.inl ⟨_, rfl⟩) (Or.inr ⟨_, rfl⟩) (fun t ht hW => ⟨some (Z.1 3), rfl, ⟨3, (by decide), rfl⟩, ht⟩) (fun q h => by cases h) dX9_spelling_115
  · refine lv_tableIn (tgt := 116) hx hb dX9_spelling_1 (by omega) (by omega) (by rw [c_1]; rfl) (by decide) ?_
    refine va_ldcS hx hb hown (show vk_R RX9 74 "bends" (Z.1 4) s from hZ.2.2.2 4 (by decide)) dX9_spelling_116 ?_
    exact W.aret (v := .ref (Z.1 4)) hx hb hr (Or.inl ⟨_, rfl⟩) (Or.inr ⟨_, rfl⟩) (fun t ht hW => ⟨some (Z.1 4), rfl, ⟨4, (by decide), rfl⟩, ht⟩) (fun q h => by cases h) dX9_spelling_118
  · refine lv_tableIn (tgt := 119) hx hb dX9_spelling_1 (by omega) (by omega) (by rw [c_1]; rfl) (by decide) ?_
    refine va_ldcS hx hb hown (show vk_R RX9 76 "gap" (Z.1 5) s from hZ.2.2.2 5 (by decide)) dX9_spelling_119 ?_
    exact W.aret (v := .ref (Z.1 5)) hx hb hr (Or.inl ⟨_, rfl⟩) (Or.inr ⟨_, rfl⟩) (fun t ht hW => ⟨some (Z.1 5), rfl, ⟨5, (by decide), rfl⟩, ht⟩) (fun q h => by cases h) dX9_spelling_121
  · refine lv_tableIn (tgt := 122) hx hb dX9_spelling_1 (by omega) (by omega) (by rw [c_1]; rfl) (by decide) ?_
    refine va_ldcS hx hb hown (show vk_R RX9 78 "wide" (Z.1 6) s from hZ.2.2.2 6 (by decide)) dX9_spelling_122 ?_
    exact W.aret (v := .ref (Z.1 6)) hx hb hr (Or.inl ⟨_, rfl⟩) (Or.inr ⟨_, rfl⟩) (fun t ht hW => ⟨some (Z.1 6), rfl, ⟨6, (by decide), rfl⟩, ht⟩) (fun q h => by cases h) dX9_spelling_124
  · refine lv_tableIn (tgt := 125) hx hb dX9_spelling_1 (by omega) (by omega) (by rw [c_1]; rfl) (by decide) ?_
    refine va_ldcS hx hb hown (show vk_R RX9 80 "skip" (Z.1 7) s from hZ.2.2.2 7 (by decide)) dX9_spelling_125 ?_
    exact W.aret (v := .ref (Z.1 7)) hx hb hr (Or.inl ⟨_, rfl⟩) (Or.inr ⟨_, rfl⟩) (fun t ht hW => ⟨some (Z.1 7), rfl, ⟨7, (by decide), rfl⟩, ht⟩) (fun q h => by cases h) dX9_spelling_127
  · refine lv_tableIn (tgt := 128) hx hb dX9_spelling_1 (by omega) (by omega) (by rw [c_1]; rfl) (by decide) ?_
    refine va_ldcS hx hb hown (show vk_R RX9 82 "gives" (Z.1 8) s from hZ.2.2.2 8 (by decide)) dX9_spelling_128 ?_
    exact W.aret (v := .ref (Z.1 8)) hx hb hr (Or.inl ⟨_, rfl⟩) (Or.inr ⟨_, rfl⟩) (fun t ht hW => ⟨some (Z.1 8), rfl, ⟨8, (by decide), rfl⟩, ht⟩) (fun q h => by cases h) dX9_spelling_130
  · refine lv_tableIn (tgt := 131) hx hb dX9_spelling_1 (by omega) (by omega) (by rw [c_1]; rfl) (by decide) ?_
    refine va_ldcS hx hb hown (show vk_R RX9 84 "if" (Z.1 9) s from hZ.2.2.2 9 (by decide)) dX9_spelling_131 ?_
    exact W.aret (v := .ref (Z.1 9)) hx hb hr (Or.inl ⟨_, rfl⟩) (Or.inr ⟨_, rfl⟩) (fun t ht hW => ⟨some (Z.1 9), rfl, ⟨9, (by decide), rfl⟩, ht⟩) (fun q h => by cases h) dX9_spelling_133
  · refine lv_tableIn (tgt := 134) hx hb dX9_spelling_1 (by omega) (by omega) (by rw [c_1]; rfl) (by decide) ?_
    refine va_ldcS hx hb hown (show vk_R RX9 86 "or" (Z.1 10) s from hZ.2.2.2 10 (by decide)) dX9_spelling_134 ?_
    exact W.aret (v := .ref (Z.1 10)) hx hb hr (Or.inl ⟨_, rfl⟩) (Or.inr ⟨_, rfl⟩) (fun t ht hW => ⟨some (Z.1 10), rfl, ⟨10, (by decide), rfl⟩, ht⟩) (fun q h => by cases h) dX9_spelling_136
  · refine lv_tableIn (tgt := 137) hx hb dX9_spelling_1 (by omega) (by omega) (by rw [c_1]; rfl) (by decide) ?_
    refine va_ldcS hx hb hown (show vk_R RX9 88 "and" (Z.1 11) s from hZ.2.2.2 11 (by decide)) dX9_spelling_137 ?_
    exact W.aret (v := .ref (Z.1 11)) hx hb hr (Or.inl ⟨_, rfl⟩) (Or.inr ⟨_, rfl⟩) (fun t ht hW => ⟨some (Z.1 11), rfl, ⟨11, (by decide), rfl⟩, ht⟩) (fun q h => by cases h) dX9_spelling_139
  · refine lv_tableIn (tgt := 140) hx hb dX9_spelling_1 (by omega) (by omega) (by rw [c_1]; rfl) (by decide) ?_
    refine va_ldcS hx hb hown (show vk_R RX9 90 "not" (Z.1 12) s from hZ.2.2.2 12 (by decide)) dX9_spelling_140 ?_
    exact W.aret (v := .ref (Z.1 12)) hx hb hr (Or.inl ⟨_, rfl⟩) (Or.inr ⟨_, rfl⟩) (fun t ht hW => ⟨some (Z.1 12), rfl, ⟨12, (by decide), rfl⟩, ht⟩) (fun q h => by cases h) dX9_spelling_142
  · refine lv_tableIn (tgt := 143) hx hb dX9_spelling_1 (by omega) (by omega) (by rw [c_1]; rfl) (by decide) ?_
    refine va_ldcS hx hb hown (show vk_R RX9 92 "colour" (Z.1 13) s from hZ.2.2.2 13 (by decide)) dX9_spelling_143 ?_
    exact W.aret (v := .ref (Z.1 13)) hx hb hr (Or.inl ⟨_, rfl⟩) (Or.inr ⟨_, rfl⟩) (fun t ht hW => ⟨some (Z.1 13), rfl, ⟨13, (by decide), rfl⟩, ht⟩) (fun q h => by cases h) dX9_spelling_145
  · refine lv_tableIn (tgt := 146) hx hb dX9_spelling_1 (by omega) (by omega) (by rw [c_1]; rfl) (by decide) ?_
    refine va_ldcS hx hb hown (show vk_R RX9 94 "glass" (Z.1 14) s from hZ.2.2.2 14 (by decide)) dX9_spelling_146 ?_
    exact W.aret (v := .ref (Z.1 14)) hx hb hr (Or.inl ⟨_, rfl⟩) (Or.inr ⟨_, rfl⟩) (fun t ht hW => ⟨some (Z.1 14), rfl, ⟨14, (by decide), rfl⟩, ht⟩) (fun q h => by cases h) dX9_spelling_148
  · refine lv_tableIn (tgt := 149) hx hb dX9_spelling_1 (by omega) (by omega) (by rw [c_1]; rfl) (by decide) ?_
    refine va_ldcS hx hb hown (show vk_R RX9 96 "hour" (Z.1 15) s from hZ.2.2.2 15 (by decide)) dX9_spelling_149 ?_
    exact W.aret (v := .ref (Z.1 15)) hx hb hr (Or.inl ⟨_, rfl⟩) (Or.inr ⟨_, rfl⟩) (fun t ht hW => ⟨some (Z.1 15), rfl, ⟨15, (by decide), rfl⟩, ht⟩) (fun q h => by cases h) dX9_spelling_151
  · refine lv_tableIn (tgt := 152) hx hb dX9_spelling_1 (by omega) (by omega) (by rw [c_1]; rfl) (by decide) ?_
    refine va_ldcS hx hb hown (show vk_R RX9 98 "row" (Z.1 16) s from hZ.2.2.2 16 (by decide)) dX9_spelling_152 ?_
    exact W.aret (v := .ref (Z.1 16)) hx hb hr (Or.inl ⟨_, rfl⟩) (Or.inr ⟨_, rfl⟩) (fun t ht hW => ⟨some (Z.1 16), rfl, ⟨16, (by decide), rfl⟩, ht⟩) (fun q h => by cases h) dX9_spelling_154
  · refine lv_tableIn (tgt := 155) hx hb dX9_spelling_1 (by omega) (by omega) (by rw [c_1]; rfl) (by decide) ?_
    refine va_ldcS hx hb hown (show vk_R RX9 100 "light" (Z.1 17) s from hZ.2.2.2 17 (by decide)) dX9_spelling_155 ?_
    exact W.aret (v := .ref (Z.1 17)) hx hb hr (Or.inl ⟨_, rfl⟩) (Or.inr ⟨_, rfl⟩) (fun t ht hW => ⟨some (Z.1 17), rfl, ⟨17, (by decide), rfl⟩, ht⟩) (fun q h => by cases h) dX9_spelling_157
  · refine lv_tableIn (tgt := 158) hx hb dX9_spelling_1 (by omega) (by omega) (by rw [c_1]; rfl) (by decide) ?_
    refine va_ldcS hx hb hown (show vk_R RX9 102 "heat" (Z.1 18) s from hZ.2.2.2 18 (by decide)) dX9_spelling_158 ?_
    exact W.aret (v := .ref (Z.1 18)) hx hb hr (Or.inl ⟨_, rfl⟩) (Or.inr ⟨_, rfl⟩) (fun t ht hW => ⟨some (Z.1 18), rfl, ⟨18, (by decide), rfl⟩, ht⟩) (fun q h => by cases h) dX9_spelling_160
  · refine lv_tableIn (tgt := 161) hx hb dX9_spelling_1 (by omega) (by omega) (by rw [c_1]; rfl) (by decide) ?_
    refine va_ldcS hx hb hown (show vk_R RX9 104 "storm" (Z.1 19) s from hZ.2.2.2 19 (by decide)) dX9_spelling_161 ?_
    exact W.aret (v := .ref (Z.1 19)) hx hb hr (Or.inl ⟨_, rfl⟩) (Or.inr ⟨_, rfl⟩) (fun t ht hW => ⟨some (Z.1 19), rfl, ⟨19, (by decide), rfl⟩, ht⟩) (fun q h => by cases h) dX9_spelling_163
  · refine lv_tableIn (tgt := 164) hx hb dX9_spelling_1 (by omega) (by omega) (by rw [c_1]; rfl) (by decide) ?_
    refine va_ldcS hx hb hown (show vk_R RX9 106 "fall" (Z.1 20) s from hZ.2.2.2 20 (by decide)) dX9_spelling_164 ?_
    exact W.aret (v := .ref (Z.1 20)) hx hb hr (Or.inl ⟨_, rfl⟩) (Or.inr ⟨_, rfl⟩) (fun t ht hW => ⟨some (Z.1 20), rfl, ⟨20, (by decide), rfl⟩, ht⟩) (fun q h => by cases h) dX9_spelling_166
  · refine lv_tableIn (tgt := 167) hx hb dX9_spelling_1 (by omega) (by omega) (by rw [c_1]; rfl) (by decide) ?_
    refine va_ldcS hx hb hown (show vk_R RX9 108 "week" (Z.1 21) s from hZ.2.2.2 21 (by decide)) dX9_spelling_167 ?_
    exact W.aret (v := .ref (Z.1 21)) hx hb hr (Or.inl ⟨_, rfl⟩) (Or.inr ⟨_, rfl⟩) (fun t ht hW => ⟨some (Z.1 21), rfl, ⟨21, (by decide), rfl⟩, ht⟩) (fun q h => by cases h) dX9_spelling_169
  · refine lv_tableOut (tgt := 170) hx hb dX9_spelling_1 (by omega) (by decide) ?_
    refine va_ldcS hx hb hown (show vk_R RX9 110 "" (Z.1 22) s from hZ.2.2.2 22 (by decide)) dX9_spelling_170 ?_
    exact W.aret (v := .ref (Z.1 22)) hx hb hr (Or.inl ⟨_, rfl⟩) (Or.inr ⟨_, rfl⟩) (fun t ht hW => ⟨some (Z.1 22), rfl, ⟨22, (by decide), rfl⟩, ht⟩) (fun q h => by cases h) dX9_spelling_172
set_option maxHeartbeats 4000000 in
set_option maxRecDepth 100000 in
theorem t_X9_isSpelled (l : Launch) (D : va_G) (cy : Nat → ClassId) (sz : Nat) (L : List Nat) (K : Nat → tk_K) (Γ : tk_G) (f : Nat → va_E) (Z : ts_Y) (w : Nat) (bk : Nat) (p0 : Int32) (p1 : Int32) (i : Nat) (hbk : tp_r L K 1 (0) w bk) (hi : i < 23) : Met l yX9_isSpelled (tl_w yX9_isSpelled cX9_isSpelled 6 (some .boolean)) ({ frames := 4, cells := 0, slots := 0, locals := 85 }) (va_Pc [.ref bk, .int p0, .int p1, .ref (Z.1 i)] (tp_PS D cy L K Γ f sz Z)) (vp_Si (fun r : Int32 => tl_J r (True))) 0 0 (fun _ => False) := by
  refine Met.ofW (cc := cX9_isSpelled) (maxL := 6) (ret := (some .boolean)) (by decide) rfl ?_
  intro p e s m args below meth c s₁ B hml hv
  obtain ⟨rfl, hsz, hP, hK, hL, hI, hN, hU, hZ⟩ := hv
  have hx := B.exec
  have hb := B.bytes
  have hr := B.returns
  have hta := tl_hta (atoms_spec (ws := tl_w yX9_isSpelled cX9_isSpelled 6 (some .boolean)) B.pre)
  have hown : s.vm.findClass RX9 = some m.cls := findClass_of_methodNamed B.named
  have hlocks := B.notSynchronized
  subst hsz
  have hI0 := hI
  have hS : va_S (tp_A L s.heap.size) s.heap s.heap [] := va_S.rf
  have hAf : ∀ (H : Heap), s.heap.size ≤ H.size → ∀ q, tp_A L H.size q → tp_A L s.heap.size q := fun H h q hq => hq.elim Or.inl (fun h2 => Or.inr (Nat.le_trans h h2))
  have hl := lv_entry ([.ref bk, .int p0, .int p1, .ref (Z.1 i)]) (n := 6) (Nat.le_of_ble_eq_true rfl)
  rw [lg_entry_eq]
  generalize (lg_sl ([.ref bk, .int p0, .int p1, .ref (Z.1 i)]) ++ List.replicate (6 - (lg_sl ([.ref bk, .int p0, .int p1, .ref (Z.1 i)])).length) Slot.unset).toArray = ls at hl ⊢
  have hl : lv_has ls 6 [(0, .ref bk), (1, .int p0), (2, .int p1), (3, .ref (Z.1 i))] := hl
  have hln := ts_lenI hi
  refine lv_aload_n hx hb dX9_isSpelled_0 rfl (lv_at hl 3 rfl) ?_
  refine tl_si (tq_rV (As := []) (rest := []) ⟨hx, hb, hml, hown, hta⟩ (tp_PS.pre hK hN hL hU hI hP hZ hS (hAf _ hS.1)) (vk_recv hZ.2.2.1 hi hS) lk_X9_56 (t_J0_length_8abf5 l D cy s.heap.size L K Γ f Z i hi) rfl rfl ⟨Nat.le_of_ble_eq_true rfl, Nat.le_of_ble_eq_true rfl⟩ rfl hl.1 rfl (Nat.le_of_ble_eq_true rfl) dX9_isSpelled_1 ⟨Nat.le_of_ble_eq_true rfl, Nat.le_of_ble_eq_true rfl⟩) (fun r_2 hw_1 => ?_)
  subst hw_1
  refine lv_iload_n hx hb dX9_isSpelled_4 rfl (lv_at hl 2 rfl) ?_
  refine lv_iload_n hx hb dX9_isSpelled_5 rfl (lv_at hl 1 rfl) ?_
  refine lv_isub hx hb dX9_isSpelled_6 ?_
  refine lv_topi (fun z_3 ez_3 => ?_)
  try have iz_3 : z_3.toInt = p1.toInt - p0.toInt := by rw [ez_3]; exact tl_subN p1 p0 rfl rfl (by omega) (by omega)
  refine lv_icmp_ne (tgt := 14) hx hb dX9_isSpelled_7 (by decide) (fun c_4 => ?_) (fun c_4 => ?_)
  · have c_4 : ¬ (nI (ts_len.getD i 0)).toInt = z_3.toInt := tl_neq c_4
    refine lv_iconst (v := 0) hx hb dX9_isSpelled_14 (by decide) ?_
    refine lv_istore (lv' := [(4, .int 0), (0, .ref bk), (1, .int p0), (2, .int p1), (3, .ref (Z.1 i))]) hx hb dX9_isSpelled_15 hl (by decide) rfl (fun ls hl => ?_)
    refine lv_iconst (v := 0) hx hb dX9_isSpelled_17 (by decide) ?_
    refine lv_istore (lv' := [(5, .int 0), (4, .int 0), (0, .ref bk), (1, .int p0), (2, .int p1), (3, .ref (Z.1 i))]) hx hb dX9_isSpelled_18 hl (by decide) rfl (fun ls hl => ?_)
    refine tl_indR (G := fun ls => W p l e ((headSpec (tl_w yX9_isSpelled cX9_isSpelled 6 (some .boolean)) ({ frames := 4, cells := 0, slots := 0, locals := 85 })).room) s m #[.ref bk, .int p0, .int p1, .ref (Z.1 i)] below meth c s.heap [] 0 0 (MQ below (vp_Si (fun r : Int32 => tl_J r (True))) #[.ref bk, .int p0, .int p1, .ref (Z.1 i)] s 0 0 (fun _ => False)) (F0 m 20 ls [])) (α := Int32 × Int32) (fun aq => (7 - aq.1.toInt).toNat) (fun aq ls => (0 ≤ aq.1.toInt) ∧ (tl_J aq.2 True) ∧ lv_has ls 6 [(5, .int aq.1), (4, .int aq.2), (0, .ref bk), (1, .int p0), (2, .int p1), (3, .ref (Z.1 i))]) ?_ ((0 : Int32), (0 : Int32)) ls ⟨(show 0 ≤ (0 : Int) from (by omega)), (show tl_J 0 True from (by first | exact Or.inr rfl | exact Or.inl ⟨rfl, trivial⟩)), lv_sub hl [0, 1, 2, 3, 4, 5] rfl⟩
    rintro ⟨v5, v4⟩ ls ⟨h5, hj, hl⟩ ih20
    have h5 : 0 ≤ v5.toInt := h5
    have hj : tl_J v4 True := hj
    have hl : lv_has ls 6 [(5, .int v5), (4, .int v4), (0, .ref bk), (1, .int p0), (2, .int p1), (3, .ref (Z.1 i))] := hl
    refine lv_iload hx hb dX9_isSpelled_20 (lv_at hl 1 rfl) ?_
    refine lv_if_eq (tgt := 64) hx hb dX9_isSpelled_22 (by decide) (fun c_5 => ?_) (fun c_5 => ?_)
    · have c_5 : v4.toInt = (0 : Int) := tl_eq c_5
      refine lv_iload hx hb dX9_isSpelled_64 (lv_at hl 1 rfl) ?_
      exact W.zret (ty := .boolean) (v := v4) hx hb hr hj.nar (fun t ht hW => ⟨_, rfl, hj, ht⟩) (fun q h => by cases h) dX9_isSpelled_66
    · have c_5 : ¬ v4.toInt = (0 : Int) := tl_neq c_5
      refine lv_iload hx hb dX9_isSpelled_25 (lv_at hl 0 rfl) ?_
      refine lv_aload_n hx hb dX9_isSpelled_27 rfl (lv_at hl 5 rfl) ?_
      refine tl_si (tq_rV (As := []) (rest := [.int v5]) ⟨hx, hb, hml, hown, hta⟩ (tp_PS.pre hK hN hL hU hI hP hZ hS (hAf _ hS.1)) (vk_recv hZ.2.2.1 hi hS) lk_X9_56 (t_J0_length_8abf5 l D cy s.heap.size L K Γ f Z i hi) rfl rfl ⟨Nat.le_of_ble_eq_true rfl, Nat.le_of_ble_eq_true rfl⟩ rfl hl.1 rfl (Nat.le_of_ble_eq_true rfl) dX9_isSpelled_28 ⟨Nat.le_of_ble_eq_true rfl, Nat.le_of_ble_eq_true rfl⟩) (fun r_7 hw_6 => ?_)
      subst hw_6
      refine lv_icmp_ge (tgt := 64) hx hb dX9_isSpelled_31 (by decide) (fun c_8 => ?_) (fun c_8 => ?_)
      · have c_8 : (nI (ts_len.getD i 0)).toInt ≤ v5.toInt := tl_le c_8
        refine lv_iload hx hb dX9_isSpelled_64 (lv_at hl 1 rfl) ?_
        exact W.zret (ty := .boolean) (v := v4) hx hb hr hj.nar (fun t ht hW => ⟨_, rfl, hj, ht⟩) (fun q h => by cases h) dX9_isSpelled_66
      · have c_8 : v5.toInt < (nI (ts_len.getD i 0)).toInt := tl_nle c_8
        refine lv_aload_n hx hb dX9_isSpelled_34 rfl (lv_at hl 2 rfl) ?_
        refine lv_iload_n hx hb dX9_isSpelled_35 rfl (lv_at hl 3 rfl) ?_
        refine lv_iload hx hb dX9_isSpelled_36 (lv_at hl 0 rfl) ?_
        refine lv_iadd hx hb dX9_isSpelled_38 ?_
        refine lv_topi (fun z_9 ez_9 => ?_)
        try have iz_9 : z_9.toInt = p0.toInt + v5.toInt := by rw [ez_9]; exact tl_addN p0 v5 rfl rfl (by omega) (by omega)
        obtain ⟨x_11, x_12, x_13, x_14, x_15, x_16, x_17, x_18, x_19, hf_10, hx_11, hx_12, hx_13, hx_14, hx_15, hx_16, hx_17, hx_18, hx_19⟩ := (show tp_o_BOOK L K (0) w (Γ (1, 0, w)) (f bk) from hI0.at hbk)
        refine tl_si (tq_rVN hN (As := [.int z_9]) (rest := []) ⟨hx, hb, hml, hown, hta⟩ (tp_P.pre hK hN hL hU hI hP) (tp_recv hK hP hbk.1 hf_10 rfl) lk_X9_30 (t_X0_byteAt l D cy s.heap.size L K Γ f w bk z_9 hbk) rfl rfl ⟨Nat.le_of_ble_eq_true rfl, Nat.le_of_ble_eq_true rfl⟩ rfl hl.1 rfl (Nat.le_of_ble_eq_true rfl) dX9_isSpelled_39 ⟨Nat.le_of_ble_eq_true rfl, Nat.le_of_ble_eq_true rfl⟩) (fun r_21 hw_20 => ?_)
        refine lv_aload_n hx hb dX9_isSpelled_42 rfl (lv_at hl 5 rfl) ?_
        refine lv_iload hx hb dX9_isSpelled_43 (lv_at hl 0 rfl) ?_
        refine tl_si (tq_rV (As := [.int v5]) (rest := [.int r_21]) ⟨hx, hb, hml, hown, hta⟩ (tp_PS.pre hK hN hL hU hI hP hZ hS (hAf _ hS.1)) (vk_recv hZ.2.2.1 hi hS) lk_X9_62 (t_J0_charAt_5068e l D cy s.heap.size L K Γ f Z i v5 hi (by first | omega | (simp only [Int32.toInt_toInt64]; omega) | decide | assumption)) rfl rfl ⟨Nat.le_of_ble_eq_true rfl, Nat.le_of_ble_eq_true rfl⟩ rfl hl.1 rfl (Nat.le_of_ble_eq_true rfl) dX9_isSpelled_45 ⟨Nat.le_of_ble_eq_true rfl, Nat.le_of_ble_eq_true rfl⟩) (fun r_23 hw_22 => ?_)
        refine lv_icmp_ne (tgt := 55) hx hb dX9_isSpelled_48 (by decide) (fun c_24 => ?_) (fun c_24 => ?_)
        · have c_24 : ¬ r_21.toInt = r_23.toInt := tl_neq c_24
          refine lv_iconst (v := 0) hx hb dX9_isSpelled_55 (by decide) ?_
          refine lv_istore (lv' := [(4, .int 0), (5, .int v5), (0, .ref bk), (1, .int p0), (2, .int p1), (3, .ref (Z.1 i))]) hx hb dX9_isSpelled_56 hl (by decide) rfl (fun ls hl => ?_)
          obtain ⟨z_25, ez_25⟩ : ∃ y : Int32, y = v5 + 1 := ⟨_, rfl⟩
          refine lv_iinc (v := z_25) (lv' := [(5, .int z_25), (4, .int 0), (0, .ref bk), (1, .int p0), (2, .int p1), (3, .ref (Z.1 i))]) hx hb dX9_isSpelled_58 hl (k := 1) rfl (by rw [ez_25]; rfl) (by decide) rfl (fun ls hl => ?_)
          try have iz_25 : z_25.toInt = v5.toInt + 1 := by rw [ez_25]; exact tl_addL v5 1 (by decide) (by omega) (by omega)
          refine lv_goto (tgt := 20) hx hb dX9_isSpelled_61 (by decide) ?_
          exact ih20 (z_25, 0) ls (by show (7 - z_25.toInt).toNat < (7 - v5.toInt).toNat; omega) ⟨(show 0 ≤ z_25.toInt from (by omega)), (show tl_J 0 True from (by first | exact Or.inr rfl | exact Or.inl ⟨rfl, trivial⟩)), lv_sub hl [0, 1, 2, 3, 4, 5] rfl⟩
        · have c_24 : r_21.toInt = r_23.toInt := tl_eq c_24
          refine lv_iconst (v := 1) hx hb dX9_isSpelled_51 (by decide) ?_
          refine lv_goto (tgt := 56) hx hb dX9_isSpelled_52 (by decide) ?_
          refine lv_istore (lv' := [(4, .int 1), (5, .int v5), (0, .ref bk), (1, .int p0), (2, .int p1), (3, .ref (Z.1 i))]) hx hb dX9_isSpelled_56 hl (by decide) rfl (fun ls hl => ?_)
          obtain ⟨z_26, ez_26⟩ : ∃ y : Int32, y = v5 + 1 := ⟨_, rfl⟩
          refine lv_iinc (v := z_26) (lv' := [(5, .int z_26), (4, .int 1), (0, .ref bk), (1, .int p0), (2, .int p1), (3, .ref (Z.1 i))]) hx hb dX9_isSpelled_58 hl (k := 1) rfl (by rw [ez_26]; rfl) (by decide) rfl (fun ls hl => ?_)
          try have iz_26 : z_26.toInt = v5.toInt + 1 := by rw [ez_26]; exact tl_addL v5 1 (by decide) (by omega) (by omega)
          refine lv_goto (tgt := 20) hx hb dX9_isSpelled_61 (by decide) ?_
          exact ih20 (z_26, 1) ls (by show (7 - z_26.toInt).toNat < (7 - v5.toInt).toNat; omega) ⟨(show 0 ≤ z_26.toInt from (by omega)), (show tl_J 1 True from (by first | exact Or.inr rfl | exact Or.inl ⟨rfl, trivial⟩)), lv_sub hl [0, 1, 2, 3, 4, 5] rfl⟩
  · have c_4 : (nI (ts_len.getD i 0)).toInt = z_3.toInt := tl_eq c_4
    refine lv_iconst (v := 1) hx hb dX9_isSpelled_10 (by decide) ?_
    refine lv_goto (tgt := 15) hx hb dX9_isSpelled_11 (by decide) ?_
    refine lv_istore (lv' := [(4, .int 1), (0, .ref bk), (1, .int p0), (2, .int p1), (3, .ref (Z.1 i))]) hx hb dX9_isSpelled_15 hl (by decide) rfl (fun ls hl => ?_)
    refine lv_iconst (v := 0) hx hb dX9_isSpelled_17 (by decide) ?_
    refine lv_istore (lv' := [(5, .int 0), (4, .int 1), (0, .ref bk), (1, .int p0), (2, .int p1), (3, .ref (Z.1 i))]) hx hb dX9_isSpelled_18 hl (by decide) rfl (fun ls hl => ?_)
    refine tl_indR (G := fun ls => W p l e ((headSpec (tl_w yX9_isSpelled cX9_isSpelled 6 (some .boolean)) ({ frames := 4, cells := 0, slots := 0, locals := 85 })).room) s m #[.ref bk, .int p0, .int p1, .ref (Z.1 i)] below meth c s.heap [] 0 0 (MQ below (vp_Si (fun r : Int32 => tl_J r (True))) #[.ref bk, .int p0, .int p1, .ref (Z.1 i)] s 0 0 (fun _ => False)) (F0 m 20 ls [])) (α := Int32 × Int32) (fun aq => (7 - aq.1.toInt).toNat) (fun aq ls => (0 ≤ aq.1.toInt) ∧ (tl_J aq.2 True) ∧ lv_has ls 6 [(5, .int aq.1), (4, .int aq.2), (0, .ref bk), (1, .int p0), (2, .int p1), (3, .ref (Z.1 i))]) ?_ ((0 : Int32), (1 : Int32)) ls ⟨(show 0 ≤ (0 : Int) from (by omega)), (show tl_J 1 True from (by first | exact Or.inr rfl | exact Or.inl ⟨rfl, trivial⟩)), lv_sub hl [0, 1, 2, 3, 4, 5] rfl⟩
    rintro ⟨v5, v4⟩ ls ⟨h5, hj, hl⟩ ih20
    have h5 : 0 ≤ v5.toInt := h5
    have hj : tl_J v4 True := hj
    have hl : lv_has ls 6 [(5, .int v5), (4, .int v4), (0, .ref bk), (1, .int p0), (2, .int p1), (3, .ref (Z.1 i))] := hl
    refine lv_iload hx hb dX9_isSpelled_20 (lv_at hl 1 rfl) ?_
    refine lv_if_eq (tgt := 64) hx hb dX9_isSpelled_22 (by decide) (fun c_27 => ?_) (fun c_27 => ?_)
    · have c_27 : v4.toInt = (0 : Int) := tl_eq c_27
      refine lv_iload hx hb dX9_isSpelled_64 (lv_at hl 1 rfl) ?_
      exact W.zret (ty := .boolean) (v := v4) hx hb hr hj.nar (fun t ht hW => ⟨_, rfl, hj, ht⟩) (fun q h => by cases h) dX9_isSpelled_66
    · have c_27 : ¬ v4.toInt = (0 : Int) := tl_neq c_27
      refine lv_iload hx hb dX9_isSpelled_25 (lv_at hl 0 rfl) ?_
      refine lv_aload_n hx hb dX9_isSpelled_27 rfl (lv_at hl 5 rfl) ?_
      refine tl_si (tq_rV (As := []) (rest := [.int v5]) ⟨hx, hb, hml, hown, hta⟩ (tp_PS.pre hK hN hL hU hI hP hZ hS (hAf _ hS.1)) (vk_recv hZ.2.2.1 hi hS) lk_X9_56 (t_J0_length_8abf5 l D cy s.heap.size L K Γ f Z i hi) rfl rfl ⟨Nat.le_of_ble_eq_true rfl, Nat.le_of_ble_eq_true rfl⟩ rfl hl.1 rfl (Nat.le_of_ble_eq_true rfl) dX9_isSpelled_28 ⟨Nat.le_of_ble_eq_true rfl, Nat.le_of_ble_eq_true rfl⟩) (fun r_29 hw_28 => ?_)
      subst hw_28
      refine lv_icmp_ge (tgt := 64) hx hb dX9_isSpelled_31 (by decide) (fun c_30 => ?_) (fun c_30 => ?_)
      · have c_30 : (nI (ts_len.getD i 0)).toInt ≤ v5.toInt := tl_le c_30
        refine lv_iload hx hb dX9_isSpelled_64 (lv_at hl 1 rfl) ?_
        exact W.zret (ty := .boolean) (v := v4) hx hb hr hj.nar (fun t ht hW => ⟨_, rfl, hj, ht⟩) (fun q h => by cases h) dX9_isSpelled_66
      · have c_30 : v5.toInt < (nI (ts_len.getD i 0)).toInt := tl_nle c_30
        refine lv_aload_n hx hb dX9_isSpelled_34 rfl (lv_at hl 2 rfl) ?_
        refine lv_iload_n hx hb dX9_isSpelled_35 rfl (lv_at hl 3 rfl) ?_
        refine lv_iload hx hb dX9_isSpelled_36 (lv_at hl 0 rfl) ?_
        refine lv_iadd hx hb dX9_isSpelled_38 ?_
        refine lv_topi (fun z_31 ez_31 => ?_)
        try have iz_31 : z_31.toInt = p0.toInt + v5.toInt := by rw [ez_31]; exact tl_addN p0 v5 rfl rfl (by omega) (by omega)
        obtain ⟨x_33, x_34, x_35, x_36, x_37, x_38, x_39, x_40, x_41, hf_32, hx_33, hx_34, hx_35, hx_36, hx_37, hx_38, hx_39, hx_40, hx_41⟩ := (show tp_o_BOOK L K (0) w (Γ (1, 0, w)) (f bk) from hI0.at hbk)
        refine tl_si (tq_rVN hN (As := [.int z_31]) (rest := []) ⟨hx, hb, hml, hown, hta⟩ (tp_P.pre hK hN hL hU hI hP) (tp_recv hK hP hbk.1 hf_32 rfl) lk_X9_30 (t_X0_byteAt l D cy s.heap.size L K Γ f w bk z_31 hbk) rfl rfl ⟨Nat.le_of_ble_eq_true rfl, Nat.le_of_ble_eq_true rfl⟩ rfl hl.1 rfl (Nat.le_of_ble_eq_true rfl) dX9_isSpelled_39 ⟨Nat.le_of_ble_eq_true rfl, Nat.le_of_ble_eq_true rfl⟩) (fun r_43 hw_42 => ?_)
        refine lv_aload_n hx hb dX9_isSpelled_42 rfl (lv_at hl 5 rfl) ?_
        refine lv_iload hx hb dX9_isSpelled_43 (lv_at hl 0 rfl) ?_
        refine tl_si (tq_rV (As := [.int v5]) (rest := [.int r_43]) ⟨hx, hb, hml, hown, hta⟩ (tp_PS.pre hK hN hL hU hI hP hZ hS (hAf _ hS.1)) (vk_recv hZ.2.2.1 hi hS) lk_X9_62 (t_J0_charAt_5068e l D cy s.heap.size L K Γ f Z i v5 hi (by first | omega | (simp only [Int32.toInt_toInt64]; omega) | decide | assumption)) rfl rfl ⟨Nat.le_of_ble_eq_true rfl, Nat.le_of_ble_eq_true rfl⟩ rfl hl.1 rfl (Nat.le_of_ble_eq_true rfl) dX9_isSpelled_45 ⟨Nat.le_of_ble_eq_true rfl, Nat.le_of_ble_eq_true rfl⟩) (fun r_45 hw_44 => ?_)
        refine lv_icmp_ne (tgt := 55) hx hb dX9_isSpelled_48 (by decide) (fun c_46 => ?_) (fun c_46 => ?_)
        · have c_46 : ¬ r_43.toInt = r_45.toInt := tl_neq c_46
          refine lv_iconst (v := 0) hx hb dX9_isSpelled_55 (by decide) ?_
          refine lv_istore (lv' := [(4, .int 0), (5, .int v5), (0, .ref bk), (1, .int p0), (2, .int p1), (3, .ref (Z.1 i))]) hx hb dX9_isSpelled_56 hl (by decide) rfl (fun ls hl => ?_)
          obtain ⟨z_47, ez_47⟩ : ∃ y : Int32, y = v5 + 1 := ⟨_, rfl⟩
          refine lv_iinc (v := z_47) (lv' := [(5, .int z_47), (4, .int 0), (0, .ref bk), (1, .int p0), (2, .int p1), (3, .ref (Z.1 i))]) hx hb dX9_isSpelled_58 hl (k := 1) rfl (by rw [ez_47]; rfl) (by decide) rfl (fun ls hl => ?_)
          try have iz_47 : z_47.toInt = v5.toInt + 1 := by rw [ez_47]; exact tl_addL v5 1 (by decide) (by omega) (by omega)
          refine lv_goto (tgt := 20) hx hb dX9_isSpelled_61 (by decide) ?_
          exact ih20 (z_47, 0) ls (by show (7 - z_47.toInt).toNat < (7 - v5.toInt).toNat; omega) ⟨(show 0 ≤ z_47.toInt from (by omega)), (show tl_J 0 True from (by first | exact Or.inr rfl | exact Or.inl ⟨rfl, trivial⟩)), lv_sub hl [0, 1, 2, 3, 4, 5] rfl⟩
        · have c_46 : r_43.toInt = r_45.toInt := tl_eq c_46
          refine lv_iconst (v := 1) hx hb dX9_isSpelled_51 (by decide) ?_
          refine lv_goto (tgt := 56) hx hb dX9_isSpelled_52 (by decide) ?_
          refine lv_istore (lv' := [(4, .int 1), (5, .int v5), (0, .ref bk), (1, .int p0), (2, .int p1), (3, .ref (Z.1 i))]) hx hb dX9_isSpelled_56 hl (by decide) rfl (fun ls hl => ?_)
          obtain ⟨z_48, ez_48⟩ : ∃ y : Int32, y = v5 + 1 := ⟨_, rfl⟩
          refine lv_iinc (v := z_48) (lv' := [(5, .int z_48), (4, .int 1), (0, .ref bk), (1, .int p0), (2, .int p1), (3, .ref (Z.1 i))]) hx hb dX9_isSpelled_58 hl (k := 1) rfl (by rw [ez_48]; rfl) (by decide) rfl (fun ls hl => ?_)
          try have iz_48 : z_48.toInt = v5.toInt + 1 := by rw [ez_48]; exact tl_addL v5 1 (by decide) (by omega) (by omega)
          refine lv_goto (tgt := 20) hx hb dX9_isSpelled_61 (by decide) ?_
          exact ih20 (z_48, 1) ls (by show (7 - z_48.toInt).toNat < (7 - v5.toInt).toNat; omega) ⟨(show 0 ≤ z_48.toInt from (by omega)), (show tl_J 1 True from (by first | exact Or.inr rfl | exact Or.inl ⟨rfl, trivial⟩)), lv_sub hl [0, 1, 2, 3, 4, 5] rfl⟩
set_option maxHeartbeats 4000000 in
set_option maxRecDepth 100000 in
theorem t_X9_wordIn (l : Launch) (D : va_G) (cy : Nat → ClassId) (sz : Nat) (L : List Nat) (K : Nat → tk_K) (Γ : tk_G) (f : Nat → va_E) (Z : ts_Y) (w : Nat) (bk : Nat) (p0 : Int32) (p1 : Int32) (hbk : tp_r L K 1 (0) w bk) : Met l yX9_wordIn (tl_w yX9_wordIn cX9_wordIn 4 (some .int)) ({ frames := 5, cells := 0, slots := 0, locals := 110 }) (va_Pc [.ref bk, .int p0, .int p1] (tp_PS D cy L K Γ f sz Z)) (vp_Si (fun r : Int32 => True)) 0 0 (fun _ => False) := by
  refine Met.ofW (cc := cX9_wordIn) (maxL := 4) (ret := (some .int)) (by decide) rfl ?_
  intro p e s m args below meth c s₁ B hml hv
  obtain ⟨rfl, hsz, hP, hK, hL, hI, hN, hU, hZ⟩ := hv
  have hx := B.exec
  have hb := B.bytes
  have hr := B.returns
  have hta := tl_hta (atoms_spec (ws := tl_w yX9_wordIn cX9_wordIn 4 (some .int)) B.pre)
  have hown : s.vm.findClass RX9 = some m.cls := findClass_of_methodNamed B.named
  have hlocks := B.notSynchronized
  subst hsz
  have hI0 := hI
  have hS : va_S (tp_A L s.heap.size) s.heap s.heap [] := va_S.rf
  have hAf : ∀ (H : Heap), s.heap.size ≤ H.size → ∀ q, tp_A L H.size q → tp_A L s.heap.size q := fun H h q hq => hq.elim Or.inl (fun h2 => Or.inr (Nat.le_trans h h2))
  have hl := lv_entry ([.ref bk, .int p0, .int p1]) (n := 4) (Nat.le_of_ble_eq_true rfl)
  rw [lg_entry_eq]
  generalize (lg_sl ([.ref bk, .int p0, .int p1]) ++ List.replicate (4 - (lg_sl ([.ref bk, .int p0, .int p1])).length) Slot.unset).toArray = ls at hl ⊢
  have hl : lv_has ls 4 [(0, .ref bk), (1, .int p0), (2, .int p1)] := hl
  refine lv_iconst (v := 0) hx hb dX9_wordIn_0 (by decide) ?_
  refine lv_istore_n (lv' := [(3, .int 0), (0, .ref bk), (1, .int p0), (2, .int p1)]) hx hb dX9_wordIn_1 rfl hl (by decide) rfl (fun ls hl => ?_)
  refine tl_indR (G := fun ls => W p l e ((headSpec (tl_w yX9_wordIn cX9_wordIn 4 (some .int)) ({ frames := 5, cells := 0, slots := 0, locals := 110 })).room) s m #[.ref bk, .int p0, .int p1] below meth c s.heap [] 0 0 (MQ below (vp_Si (fun r : Int32 => True)) #[.ref bk, .int p0, .int p1] s 0 0 (fun _ => False)) (F0 m 2 ls [])) (α := Int32) (fun aq => (22 - aq.toInt).toNat) (fun aq ls => (0 ≤ aq.toInt) ∧ (aq.toInt ≤ 22) ∧ lv_has ls 4 [(3, .int aq), (0, .ref bk), (1, .int p0), (2, .int p1)]) ?_ (0 : Int32) ls ⟨(show 0 ≤ (0 : Int) from (by omega)), (show (0 : Int) ≤ 22 from (by omega)), lv_sub hl [0, 1, 2, 3] rfl⟩
  rintro v3 ls ⟨h0, h1, hl⟩ ih2
  have h0 : 0 ≤ v3.toInt := h0
  have h1 : v3.toInt ≤ 22 := h1
  have hl : lv_has ls 4 [(3, .int v3), (0, .ref bk), (1, .int p0), (2, .int p1)] := hl
  refine lv_iload_n hx hb dX9_wordIn_2 rfl (lv_at hl 0 rfl) ?_
  refine lv_bipush (v := 22) hx hb dX9_wordIn_3 (by decide) ?_
  refine lv_icmp_ge (tgt := 29) hx hb dX9_wordIn_5 (by decide) (fun c_1 => ?_) (fun c_1 => ?_)
  · have c_1 : (22 : Int) ≤ v3.toInt := tl_le c_1
    refine lv_iconst (v := (-1)) hx hb dX9_wordIn_29 (by decide) ?_
    exact W.iret (v := (-1)) hx hb hr (fun t ht hW => ⟨_, rfl, trivial, ht⟩) (fun q h => by cases h) dX9_wordIn_30
  · have c_1 : v3.toInt < (22 : Int) := tl_nle c_1
    refine lv_aload_n hx hb dX9_wordIn_8 rfl (lv_at hl 1 rfl) ?_
    refine lv_iload_n hx hb dX9_wordIn_9 rfl (lv_at hl 2 rfl) ?_
    refine lv_iload_n hx hb dX9_wordIn_10 rfl (lv_at hl 3 rfl) ?_
    refine lv_iload_n hx hb dX9_wordIn_11 rfl (lv_at hl 0 rfl) ?_
    refine tl_sq (tq_rS (As := [.int v3]) (rest := [.int p1, .int p0, .ref bk]) ⟨hx, hb, hml, hown, hta⟩ (tp_PS.pre hK hN hL hU hI hP hZ hS (hAf _ hS.1)) lk_X9_48 (t_X9_spelling l D cy s.heap.size L K Γ f Z v3 ) rfl rfl ⟨Nat.le_of_ble_eq_true rfl, Nat.le_of_ble_eq_true rfl⟩ rfl hl.1 rfl (Nat.le_of_ble_eq_true rfl) dX9_wordIn_12 ⟨Nat.le_of_ble_eq_true rfl, Nat.le_of_ble_eq_true rfl⟩) (fun r_3 hw_2 => ?_)
    obtain ⟨i_4, hi_4, rfl⟩ := hw_2
    refine W.eq (g2 := F0 m 15 ls ([.ref (Z.1 i_4), .int p1, .int p0, .ref bk])) (by rfl) ?_
    refine tl_si (tq_rS (As := [.ref bk, .int p0, .int p1, .ref (Z.1 i_4)]) (rest := []) ⟨hx, hb, hml, hown, hta⟩ (tp_PS.pre hK hN hL hU hI hP hZ hS (hAf _ hS.1)) lk_X9_52 (t_X9_isSpelled l D cy s.heap.size L K Γ f Z w bk p0 p1 i_4 hbk hi_4) rfl rfl ⟨Nat.le_of_ble_eq_true rfl, Nat.le_of_ble_eq_true rfl⟩ rfl hl.1 rfl (Nat.le_of_ble_eq_true rfl) dX9_wordIn_15 ⟨Nat.le_of_ble_eq_true rfl, Nat.le_of_ble_eq_true rfl⟩) (fun r_6 hw_5 => ?_)
    have hw_5 : tl_J r_6 (True) := hw_5
    refine lv_if_eq (tgt := 23) hx hb dX9_wordIn_18 (by decide) (fun c_7 => ?_) (fun c_7 => ?_)
    · have c_7 := c_7
      obtain ⟨z_8, ez_8⟩ : ∃ y : Int32, y = v3 + 1 := ⟨_, rfl⟩
      refine lv_iinc (v := z_8) (lv' := [(3, .int z_8), (0, .ref bk), (1, .int p0), (2, .int p1)]) hx hb dX9_wordIn_23 hl (k := 0) rfl (by rw [ez_8]; rfl) (by decide) rfl (fun ls hl => ?_)
      try have iz_8 : z_8.toInt = v3.toInt + 1 := by rw [ez_8]; exact tl_addL v3 1 (by decide) (by omega) (by omega)
      refine lv_goto (tgt := 2) hx hb dX9_wordIn_26 (by decide) ?_
      exact ih2 z_8 ls (by show (22 - z_8.toInt).toNat < (22 - v3.toInt).toNat; omega) ⟨(show 0 ≤ z_8.toInt from (by omega)), (show z_8.toInt ≤ 22 from (by omega)), lv_sub hl [0, 1, 2, 3] rfl⟩
    · have c_7 := hw_5.t c_7
      refine lv_iload_n hx hb dX9_wordIn_21 rfl (lv_at hl 0 rfl) ?_
      exact W.iret (v := v3) hx hb hr (fun t ht hW => ⟨_, rfl, trivial, ht⟩) (fun q h => by cases h) dX9_wordIn_22
set_option maxHeartbeats 4000000 in
set_option maxRecDepth 100000 in
theorem t_X9_numberIn (l : Launch) (D : va_G) (cy : Nat → ClassId) (sz : Nat) (L : List Nat) (K : Nat → tk_K) (Γ : tk_G) (f : Nat → va_E) (w : Nat) (bk : Nat) (p0 : Int32) (p1 : Int32) (hbk : tp_r L K 1 (0) w bk) (h0 : 0 ≤ p0.toInt ∧ p0.toInt ≤ p1.toInt ∧ p1.toInt ≤ 400) : Met l yX9_numberIn (tl_w yX9_numberIn cX9_numberIn 5 (some .int)) ({ frames := 1, cells := 0, slots := 0, locals := 21 }) (va_Pc [.ref bk, .int p0, .int p1] (tp_P D cy L K Γ f sz)) (vp_Si (fun r : Int32 => True)) 0 0 (fun _ => False) := by
  refine Met.ofW (cc := cX9_numberIn) (maxL := 5) (ret := (some .int)) (by decide) rfl ?_
  intro p e s m args below meth c s₁ B hml hv
  obtain ⟨rfl, hsz, hP, hK, hL, hI, hN, hU⟩ := hv
  have hx := B.exec
  have hb := B.bytes
  have hr := B.returns
  have hta := tl_hta (atoms_spec (ws := tl_w yX9_numberIn cX9_numberIn 5 (some .int)) B.pre)
  have hown : s.vm.findClass RX9 = some m.cls := findClass_of_methodNamed B.named
  have hlocks := B.notSynchronized
  subst hsz
  have hI0 := hI
  have hl := lv_entry ([.ref bk, .int p0, .int p1]) (n := 5) (Nat.le_of_ble_eq_true rfl)
  rw [lg_entry_eq]
  generalize (lg_sl ([.ref bk, .int p0, .int p1]) ++ List.replicate (5 - (lg_sl ([.ref bk, .int p0, .int p1])).length) Slot.unset).toArray = ls at hl ⊢
  have hl : lv_has ls 5 [(0, .ref bk), (1, .int p0), (2, .int p1)] := hl
  refine lv_iload_n hx hb dX9_numberIn_0 rfl (lv_at hl 2 rfl) ?_
  refine lv_iload_n hx hb dX9_numberIn_1 rfl (lv_at hl 1 rfl) ?_
  refine lv_isub hx hb dX9_numberIn_2 ?_
  refine lv_topi (fun z_1 ez_1 => ?_)
  try have iz_1 : z_1.toInt = p1.toInt - p0.toInt := by rw [ez_1]; exact tl_subN p1 p0 rfl rfl (by omega) (by omega)
  refine lv_iconst (v := 5) hx hb dX9_numberIn_3 (by decide) ?_
  refine lv_icmp_le (tgt := 9) hx hb dX9_numberIn_4 (by decide) (fun c_2 => ?_) (fun c_2 => ?_)
  · have c_2 : z_1.toInt ≤ (5 : Int) := tl_le c_2
    refine lv_iconst (v := 0) hx hb dX9_numberIn_9 (by decide) ?_
    refine lv_istore_n (lv' := [(3, .int 0), (0, .ref bk), (1, .int p0), (2, .int p1)]) hx hb dX9_numberIn_10 rfl hl (by decide) rfl (fun ls hl => ?_)
    refine lv_iload_n hx hb dX9_numberIn_11 rfl (lv_at hl 2 rfl) ?_
    refine lv_istore (lv' := [(4, .int p0), (3, .int 0), (0, .ref bk), (1, .int p0), (2, .int p1)]) hx hb dX9_numberIn_12 hl (by decide) rfl (fun ls hl => ?_)
    refine tl_indR (G := fun ls => W p l e ((headSpec (tl_w yX9_numberIn cX9_numberIn 5 (some .int)) ({ frames := 1, cells := 0, slots := 0, locals := 21 })).room) s m #[.ref bk, .int p0, .int p1] below meth c s.heap [] 0 0 (MQ below (vp_Si (fun r : Int32 => True)) #[.ref bk, .int p0, .int p1] s 0 0 (fun _ => False)) (F0 m 14 ls [])) (α := Int32 × Int32) (fun aq => (400 - aq.1.toInt).toNat) (fun aq ls => (0 ≤ aq.1.toInt ∧ aq.1.toInt ≤ 400) ∧ lv_has ls 5 [(4, .int aq.1), (3, .int aq.2), (0, .ref bk), (1, .int p0), (2, .int p1)]) ?_ (p0, (0 : Int32)) ls ⟨(show 0 ≤ p0.toInt ∧ p0.toInt ≤ 400 from (by omega)), lv_sub hl [0, 1, 2, 3, 4] rfl⟩
    rintro ⟨v4, v3⟩ ls ⟨h5, hl⟩ ih14
    have h5 : 0 ≤ v4.toInt ∧ v4.toInt ≤ 400 := h5
    have hl : lv_has ls 5 [(4, .int v4), (3, .int v3), (0, .ref bk), (1, .int p0), (2, .int p1)] := hl
    refine lv_iload hx hb dX9_numberIn_14 (lv_at hl 0 rfl) ?_
    refine lv_iload_n hx hb dX9_numberIn_16 rfl (lv_at hl 4 rfl) ?_
    refine lv_icmp_ge (tgt := 41) hx hb dX9_numberIn_17 (by decide) (fun c_3 => ?_) (fun c_3 => ?_)
    · have c_3 : p1.toInt ≤ v4.toInt := tl_le c_3
      refine lv_iload_n hx hb dX9_numberIn_41 rfl (lv_at hl 1 rfl) ?_
      exact W.iret (v := v3) hx hb hr (fun t ht hW => ⟨_, rfl, trivial, ht⟩) (fun q h => by cases h) dX9_numberIn_42
    · have c_3 : v4.toInt < p1.toInt := tl_nle c_3
      refine lv_iload_n hx hb dX9_numberIn_20 rfl (lv_at hl 1 rfl) ?_
      refine lv_bipush (v := 10) hx hb dX9_numberIn_21 (by decide) ?_
      refine lv_imul hx hb dX9_numberIn_23 ?_
      refine lv_topi (fun z_4 ez_4 => ?_)
      try have iz_4 : z_4.toInt = v3.toInt * (10 : Int) := by rw [ez_4]; exact tl_mulN v3 10 rfl rfl (by omega) (by omega)
      refine lv_aload_n hx hb dX9_numberIn_24 rfl (lv_at hl 2 rfl) ?_
      refine lv_iload hx hb dX9_numberIn_25 (lv_at hl 0 rfl) ?_
      obtain ⟨x_6, x_7, x_8, x_9, x_10, x_11, x_12, x_13, x_14, hf_5, hx_6, hx_7, hx_8, hx_9, hx_10, hx_11, hx_12, hx_13, hx_14⟩ := (show tp_o_BOOK L K (0) w (Γ (1, 0, w)) (f bk) from hI0.at hbk)
      refine tl_si (tq_rVN hN (As := [.int v4]) (rest := [.int z_4]) ⟨hx, hb, hml, hown, hta⟩ (tp_P.pre hK hN hL hU hI hP) (tp_recv hK hP hbk.1 hf_5 rfl) lk_X9_30 (t_X0_byteAt l D cy s.heap.size L K Γ f w bk v4 hbk) rfl rfl ⟨Nat.le_of_ble_eq_true rfl, Nat.le_of_ble_eq_true rfl⟩ rfl hl.1 rfl (Nat.le_of_ble_eq_true rfl) dX9_numberIn_27 ⟨Nat.le_of_ble_eq_true rfl, Nat.le_of_ble_eq_true rfl⟩) (fun r_16 hw_15 => ?_)
      refine lv_iadd hx hb dX9_numberIn_30 ?_
      refine lv_topi (fun z_17 ez_17 => ?_)
      try have iz_17 : z_17.toInt = z_4.toInt + r_16.toInt := by rw [ez_17]; exact tl_addN z_4 r_16 rfl rfl (by omega) (by omega)
      refine lv_bipush (v := 48) hx hb dX9_numberIn_31 (by decide) ?_
      refine lv_isub hx hb dX9_numberIn_33 ?_
      refine lv_topi (fun z_18 ez_18 => ?_)
      try have iz_18 : z_18.toInt = z_17.toInt - (48 : Int) := by rw [ez_18]; exact tl_subN z_17 48 rfl rfl (by omega) (by omega)
      refine lv_istore_n (lv' := [(3, .int z_18), (4, .int v4), (0, .ref bk), (1, .int p0), (2, .int p1)]) hx hb dX9_numberIn_34 rfl hl (by decide) rfl (fun ls hl => ?_)
      obtain ⟨z_19, ez_19⟩ : ∃ y : Int32, y = v4 + 1 := ⟨_, rfl⟩
      refine lv_iinc (v := z_19) (lv' := [(4, .int z_19), (3, .int z_18), (0, .ref bk), (1, .int p0), (2, .int p1)]) hx hb dX9_numberIn_35 hl (k := 1) rfl (by rw [ez_19]; rfl) (by decide) rfl (fun ls hl => ?_)
      try have iz_19 : z_19.toInt = v4.toInt + 1 := by rw [ez_19]; exact tl_addL v4 1 (by decide) (by omega) (by omega)
      refine lv_goto (tgt := 14) hx hb dX9_numberIn_38 (by decide) ?_
      exact ih14 (z_19, z_18) ls (by show (400 - z_19.toInt).toNat < (400 - v4.toInt).toNat; omega) ⟨(show 0 ≤ z_19.toInt ∧ z_19.toInt ≤ 400 from (by omega)), lv_sub hl [0, 1, 2, 3, 4] rfl⟩
  · have c_2 : (5 : Int) < z_1.toInt := tl_nle c_2
    refine lv_iconst (v := (-1)) hx hb dX9_numberIn_7 (by decide) ?_
    exact W.iret (v := (-1)) hx hb hr (fun t ht hW => ⟨_, rfl, trivial, ht⟩) (fun q h => by cases h) dX9_numberIn_8
set_option maxHeartbeats 4000000 in
set_option maxRecDepth 100000 in
theorem t_X9_sortOf (l : Launch) (D : va_G) (cy : Nat → ClassId) (sz : Nat) (L : List Nat) (K : Nat → tk_K) (Γ : tk_G) (f : Nat → va_E) (p0 : Int32)  : Met l yX9_sortOf (tl_w yX9_sortOf cX9_sortOf 1 (some .int)) ({ frames := 0, cells := 0, slots := 0, locals := 0 }) (va_Pc [.int p0] (tp_P D cy L K Γ f sz)) (vp_Si (fun r : Int32 => True)) 0 0 (fun _ => False) := by
  refine Met.ofW (cc := cX9_sortOf) (maxL := 1) (ret := (some .int)) (by decide) rfl ?_
  intro p e s m args below meth c s₁ B hml hv
  obtain ⟨rfl, hsz, hP, hK, hL, hI, hN, hU⟩ := hv
  have hx := B.exec
  have hb := B.bytes
  have hr := B.returns
  have hta := tl_hta (atoms_spec (ws := tl_w yX9_sortOf cX9_sortOf 1 (some .int)) B.pre)
  have hown : s.vm.findClass RX9 = some m.cls := findClass_of_methodNamed B.named
  have hlocks := B.notSynchronized
  subst hsz
  have hI0 := hI
  have hl := lv_entry ([.int p0]) (n := 1) (Nat.le_of_ble_eq_true rfl)
  rw [lg_entry_eq]
  generalize (lg_sl ([.int p0]) ++ List.replicate (1 - (lg_sl ([.int p0])).length) Slot.unset).toArray = ls at hl ⊢
  have hl : lv_has ls 1 [(0, .int p0)] := hl
  refine lv_iload_n hx hb dX9_sortOf_0 rfl (lv_at hl 0 rfl) ?_
  refine lv_bipush (v := 48) hx hb dX9_sortOf_1 (by decide) ?_
  refine lv_icmp_lt (tgt := 14) hx hb dX9_sortOf_3 (by decide) (fun c_1 => ?_) (fun c_1 => ?_)
  · have c_1 : p0.toInt < (48 : Int) := tl_lt c_1
    refine lv_iload_n hx hb dX9_sortOf_14 rfl (lv_at hl 0 rfl) ?_
    refine lv_bipush (v := 97) hx hb dX9_sortOf_15 (by decide) ?_
    refine lv_icmp_lt (tgt := 28) hx hb dX9_sortOf_17 (by decide) (fun c_2 => ?_) (fun c_2 => ?_)
    · have c_2 : p0.toInt < (97 : Int) := tl_lt c_2
      refine lv_iload_n hx hb dX9_sortOf_28 rfl (lv_at hl 0 rfl) ?_
      rcases (show p0.toInt = 42 ∨ p0.toInt = 43 ∨ p0.toInt = 45 ∨ p0.toInt = 47 ∨ p0.toInt = 59 ∨ p0.toInt = 60 ∨ p0.toInt = 61 ∨ p0.toInt = 62 ∨ p0.toInt = 91 ∨ p0.toInt = 93 ∨ (¬ p0.toInt = 42 ∧ ¬ p0.toInt = 43 ∧ ¬ p0.toInt = 45 ∧ ¬ p0.toInt = 47 ∧ ¬ p0.toInt = 59 ∧ ¬ p0.toInt = 60 ∧ ¬ p0.toInt = 61 ∧ ¬ p0.toInt = 62 ∧ ¬ p0.toInt = 91 ∧ ¬ p0.toInt = 93) by omega) with c_3 | c_3 | c_3 | c_3 | c_3 | c_3 | c_3 | c_3 | c_3 | c_3 | c_3
      · refine lv_lookup (tgt := 124) (off := 95) hx hb dX9_sortOf_29 (by decide) (by rw [c_3] <;> rfl) (by decide) ?_
        refine lv_bipush (v := 6) hx hb dX9_sortOf_124 (by decide) ?_
        exact W.iret (v := 6) hx hb hr (fun t ht hW => ⟨_, rfl, trivial, ht⟩) (fun q h => by cases h) dX9_sortOf_126
      · refine lv_lookup (tgt := 120) (off := 91) hx hb dX9_sortOf_29 (by decide) (by rw [c_3] <;> rfl) (by decide) ?_
        refine lv_iconst (v := 4) hx hb dX9_sortOf_120 (by decide) ?_
        exact W.iret (v := 4) hx hb hr (fun t ht hW => ⟨_, rfl, trivial, ht⟩) (fun q h => by cases h) dX9_sortOf_121
      · refine lv_lookup (tgt := 122) (off := 93) hx hb dX9_sortOf_29 (by decide) (by rw [c_3] <;> rfl) (by decide) ?_
        refine lv_iconst (v := 5) hx hb dX9_sortOf_122 (by decide) ?_
        exact W.iret (v := 5) hx hb hr (fun t ht hW => ⟨_, rfl, trivial, ht⟩) (fun q h => by cases h) dX9_sortOf_123
      · refine lv_lookup (tgt := 127) (off := 98) hx hb dX9_sortOf_29 (by decide) (by rw [c_3] <;> rfl) (by decide) ?_
        refine lv_bipush (v := 7) hx hb dX9_sortOf_127 (by decide) ?_
        exact W.iret (v := 7) hx hb hr (fun t ht hW => ⟨_, rfl, trivial, ht⟩) (fun q h => by cases h) dX9_sortOf_129
      · refine lv_lookup (tgt := 145) (off := 116) hx hb dX9_sortOf_29 (by decide) (by rw [c_3] <;> rfl) (by decide) ?_
        refine lv_bipush (v := 18) hx hb dX9_sortOf_145 (by decide) ?_
        exact W.iret (v := 18) hx hb hr (fun t ht hW => ⟨_, rfl, trivial, ht⟩) (fun q h => by cases h) dX9_sortOf_147
      · refine lv_lookup (tgt := 130) (off := 101) hx hb dX9_sortOf_29 (by decide) (by rw [c_3] <;> rfl) (by decide) ?_
        refine lv_bipush (v := 8) hx hb dX9_sortOf_130 (by decide) ?_
        exact W.iret (v := 8) hx hb hr (fun t ht hW => ⟨_, rfl, trivial, ht⟩) (fun q h => by cases h) dX9_sortOf_132
      · refine lv_lookup (tgt := 133) (off := 104) hx hb dX9_sortOf_29 (by decide) (by rw [c_3] <;> rfl) (by decide) ?_
        refine lv_bipush (v := 10) hx hb dX9_sortOf_133 (by decide) ?_
        exact W.iret (v := 10) hx hb hr (fun t ht hW => ⟨_, rfl, trivial, ht⟩) (fun q h => by cases h) dX9_sortOf_135
      · refine lv_lookup (tgt := 136) (off := 107) hx hb dX9_sortOf_29 (by decide) (by rw [c_3] <;> rfl) (by decide) ?_
        refine lv_bipush (v := 12) hx hb dX9_sortOf_136 (by decide) ?_
        exact W.iret (v := 12) hx hb hr (fun t ht hW => ⟨_, rfl, trivial, ht⟩) (fun q h => by cases h) dX9_sortOf_138
      · refine lv_lookup (tgt := 139) (off := 110) hx hb dX9_sortOf_29 (by decide) (by rw [c_3] <;> rfl) (by decide) ?_
        refine lv_bipush (v := 16) hx hb dX9_sortOf_139 (by decide) ?_
        exact W.iret (v := 16) hx hb hr (fun t ht hW => ⟨_, rfl, trivial, ht⟩) (fun q h => by cases h) dX9_sortOf_141
      · refine lv_lookup (tgt := 142) (off := 113) hx hb dX9_sortOf_29 (by decide) (by rw [c_3] <;> rfl) (by decide) ?_
        refine lv_bipush (v := 17) hx hb dX9_sortOf_142 (by decide) ?_
        exact W.iret (v := 17) hx hb hr (fun t ht hW => ⟨_, rfl, trivial, ht⟩) (fun q h => by cases h) dX9_sortOf_144
      · refine lv_lookup (tgt := 148) (off := 119) hx hb dX9_sortOf_29 (by decide) (by show Op.lookupswitch.offset [(42, 95), (43, 91), (45, 93), (47, 98), (59, 116), (60, 101), (61, 104), (62, 107), (91, 110), (93, 113)] (119) _ = _; simp only [Op.lookupswitch.offset]; repeat rw [if_neg (by omega)]) (by decide) ?_
        refine lv_iconst (v := 1) hx hb dX9_sortOf_148 (by decide) ?_
        exact W.iret (v := 1) hx hb hr (fun t ht hW => ⟨_, rfl, trivial, ht⟩) (fun q h => by cases h) dX9_sortOf_149
    · have c_2 : (97 : Int) ≤ p0.toInt := tl_nlt c_2
      exfalso; omega
  · have c_1 : (48 : Int) ≤ p0.toInt := tl_nlt c_1
    refine lv_iload_n hx hb dX9_sortOf_6 rfl (lv_at hl 0 rfl) ?_
    refine lv_bipush (v := 57) hx hb dX9_sortOf_7 (by decide) ?_
    refine lv_icmp_gt (tgt := 14) hx hb dX9_sortOf_9 (by decide) (fun c_4 => ?_) (fun c_4 => ?_)
    · have c_4 : (57 : Int) < p0.toInt := tl_lt c_4
      refine lv_iload_n hx hb dX9_sortOf_14 rfl (lv_at hl 0 rfl) ?_
      refine lv_bipush (v := 97) hx hb dX9_sortOf_15 (by decide) ?_
      refine lv_icmp_lt (tgt := 28) hx hb dX9_sortOf_17 (by decide) (fun c_5 => ?_) (fun c_5 => ?_)
      · have c_5 : p0.toInt < (97 : Int) := tl_lt c_5
        refine lv_iload_n hx hb dX9_sortOf_28 rfl (lv_at hl 0 rfl) ?_
        rcases (show p0.toInt = 42 ∨ p0.toInt = 43 ∨ p0.toInt = 45 ∨ p0.toInt = 47 ∨ p0.toInt = 59 ∨ p0.toInt = 60 ∨ p0.toInt = 61 ∨ p0.toInt = 62 ∨ p0.toInt = 91 ∨ p0.toInt = 93 ∨ (¬ p0.toInt = 42 ∧ ¬ p0.toInt = 43 ∧ ¬ p0.toInt = 45 ∧ ¬ p0.toInt = 47 ∧ ¬ p0.toInt = 59 ∧ ¬ p0.toInt = 60 ∧ ¬ p0.toInt = 61 ∧ ¬ p0.toInt = 62 ∧ ¬ p0.toInt = 91 ∧ ¬ p0.toInt = 93) by omega) with c_6 | c_6 | c_6 | c_6 | c_6 | c_6 | c_6 | c_6 | c_6 | c_6 | c_6
        · refine lv_lookup (tgt := 124) (off := 95) hx hb dX9_sortOf_29 (by decide) (by rw [c_6] <;> rfl) (by decide) ?_
          refine lv_bipush (v := 6) hx hb dX9_sortOf_124 (by decide) ?_
          exact W.iret (v := 6) hx hb hr (fun t ht hW => ⟨_, rfl, trivial, ht⟩) (fun q h => by cases h) dX9_sortOf_126
        · refine lv_lookup (tgt := 120) (off := 91) hx hb dX9_sortOf_29 (by decide) (by rw [c_6] <;> rfl) (by decide) ?_
          refine lv_iconst (v := 4) hx hb dX9_sortOf_120 (by decide) ?_
          exact W.iret (v := 4) hx hb hr (fun t ht hW => ⟨_, rfl, trivial, ht⟩) (fun q h => by cases h) dX9_sortOf_121
        · refine lv_lookup (tgt := 122) (off := 93) hx hb dX9_sortOf_29 (by decide) (by rw [c_6] <;> rfl) (by decide) ?_
          refine lv_iconst (v := 5) hx hb dX9_sortOf_122 (by decide) ?_
          exact W.iret (v := 5) hx hb hr (fun t ht hW => ⟨_, rfl, trivial, ht⟩) (fun q h => by cases h) dX9_sortOf_123
        · refine lv_lookup (tgt := 127) (off := 98) hx hb dX9_sortOf_29 (by decide) (by rw [c_6] <;> rfl) (by decide) ?_
          refine lv_bipush (v := 7) hx hb dX9_sortOf_127 (by decide) ?_
          exact W.iret (v := 7) hx hb hr (fun t ht hW => ⟨_, rfl, trivial, ht⟩) (fun q h => by cases h) dX9_sortOf_129
        · refine lv_lookup (tgt := 145) (off := 116) hx hb dX9_sortOf_29 (by decide) (by rw [c_6] <;> rfl) (by decide) ?_
          refine lv_bipush (v := 18) hx hb dX9_sortOf_145 (by decide) ?_
          exact W.iret (v := 18) hx hb hr (fun t ht hW => ⟨_, rfl, trivial, ht⟩) (fun q h => by cases h) dX9_sortOf_147
        · refine lv_lookup (tgt := 130) (off := 101) hx hb dX9_sortOf_29 (by decide) (by rw [c_6] <;> rfl) (by decide) ?_
          refine lv_bipush (v := 8) hx hb dX9_sortOf_130 (by decide) ?_
          exact W.iret (v := 8) hx hb hr (fun t ht hW => ⟨_, rfl, trivial, ht⟩) (fun q h => by cases h) dX9_sortOf_132
        · refine lv_lookup (tgt := 133) (off := 104) hx hb dX9_sortOf_29 (by decide) (by rw [c_6] <;> rfl) (by decide) ?_
          refine lv_bipush (v := 10) hx hb dX9_sortOf_133 (by decide) ?_
          exact W.iret (v := 10) hx hb hr (fun t ht hW => ⟨_, rfl, trivial, ht⟩) (fun q h => by cases h) dX9_sortOf_135
        · refine lv_lookup (tgt := 136) (off := 107) hx hb dX9_sortOf_29 (by decide) (by rw [c_6] <;> rfl) (by decide) ?_
          refine lv_bipush (v := 12) hx hb dX9_sortOf_136 (by decide) ?_
          exact W.iret (v := 12) hx hb hr (fun t ht hW => ⟨_, rfl, trivial, ht⟩) (fun q h => by cases h) dX9_sortOf_138
        · refine lv_lookup (tgt := 139) (off := 110) hx hb dX9_sortOf_29 (by decide) (by rw [c_6] <;> rfl) (by decide) ?_
          refine lv_bipush (v := 16) hx hb dX9_sortOf_139 (by decide) ?_
          exact W.iret (v := 16) hx hb hr (fun t ht hW => ⟨_, rfl, trivial, ht⟩) (fun q h => by cases h) dX9_sortOf_141
        · refine lv_lookup (tgt := 142) (off := 113) hx hb dX9_sortOf_29 (by decide) (by rw [c_6] <;> rfl) (by decide) ?_
          refine lv_bipush (v := 17) hx hb dX9_sortOf_142 (by decide) ?_
          exact W.iret (v := 17) hx hb hr (fun t ht hW => ⟨_, rfl, trivial, ht⟩) (fun q h => by cases h) dX9_sortOf_144
        · refine lv_lookup (tgt := 148) (off := 119) hx hb dX9_sortOf_29 (by decide) (by show Op.lookupswitch.offset [(42, 95), (43, 91), (45, 93), (47, 98), (59, 116), (60, 101), (61, 104), (62, 107), (91, 110), (93, 113)] (119) _ = _; simp only [Op.lookupswitch.offset]; repeat rw [if_neg (by omega)]) (by decide) ?_
          refine lv_iconst (v := 1) hx hb dX9_sortOf_148 (by decide) ?_
          exact W.iret (v := 1) hx hb hr (fun t ht hW => ⟨_, rfl, trivial, ht⟩) (fun q h => by cases h) dX9_sortOf_149
      · have c_5 : (97 : Int) ≤ p0.toInt := tl_nlt c_5
        refine lv_iload_n hx hb dX9_sortOf_20 rfl (lv_at hl 0 rfl) ?_
        refine lv_bipush (v := 122) hx hb dX9_sortOf_21 (by decide) ?_
        refine lv_icmp_gt (tgt := 28) hx hb dX9_sortOf_23 (by decide) (fun c_7 => ?_) (fun c_7 => ?_)
        · have c_7 : (122 : Int) < p0.toInt := tl_lt c_7
          refine lv_iload_n hx hb dX9_sortOf_28 rfl (lv_at hl 0 rfl) ?_
          rcases (show p0.toInt = 42 ∨ p0.toInt = 43 ∨ p0.toInt = 45 ∨ p0.toInt = 47 ∨ p0.toInt = 59 ∨ p0.toInt = 60 ∨ p0.toInt = 61 ∨ p0.toInt = 62 ∨ p0.toInt = 91 ∨ p0.toInt = 93 ∨ (¬ p0.toInt = 42 ∧ ¬ p0.toInt = 43 ∧ ¬ p0.toInt = 45 ∧ ¬ p0.toInt = 47 ∧ ¬ p0.toInt = 59 ∧ ¬ p0.toInt = 60 ∧ ¬ p0.toInt = 61 ∧ ¬ p0.toInt = 62 ∧ ¬ p0.toInt = 91 ∧ ¬ p0.toInt = 93) by omega) with c_8 | c_8 | c_8 | c_8 | c_8 | c_8 | c_8 | c_8 | c_8 | c_8 | c_8
          · refine lv_lookup (tgt := 124) (off := 95) hx hb dX9_sortOf_29 (by decide) (by rw [c_8] <;> rfl) (by decide) ?_
            refine lv_bipush (v := 6) hx hb dX9_sortOf_124 (by decide) ?_
            exact W.iret (v := 6) hx hb hr (fun t ht hW => ⟨_, rfl, trivial, ht⟩) (fun q h => by cases h) dX9_sortOf_126
          · refine lv_lookup (tgt := 120) (off := 91) hx hb dX9_sortOf_29 (by decide) (by rw [c_8] <;> rfl) (by decide) ?_
            refine lv_iconst (v := 4) hx hb dX9_sortOf_120 (by decide) ?_
            exact W.iret (v := 4) hx hb hr (fun t ht hW => ⟨_, rfl, trivial, ht⟩) (fun q h => by cases h) dX9_sortOf_121
          · refine lv_lookup (tgt := 122) (off := 93) hx hb dX9_sortOf_29 (by decide) (by rw [c_8] <;> rfl) (by decide) ?_
            refine lv_iconst (v := 5) hx hb dX9_sortOf_122 (by decide) ?_
            exact W.iret (v := 5) hx hb hr (fun t ht hW => ⟨_, rfl, trivial, ht⟩) (fun q h => by cases h) dX9_sortOf_123
          · refine lv_lookup (tgt := 127) (off := 98) hx hb dX9_sortOf_29 (by decide) (by rw [c_8] <;> rfl) (by decide) ?_
            refine lv_bipush (v := 7) hx hb dX9_sortOf_127 (by decide) ?_
            exact W.iret (v := 7) hx hb hr (fun t ht hW => ⟨_, rfl, trivial, ht⟩) (fun q h => by cases h) dX9_sortOf_129
          · refine lv_lookup (tgt := 145) (off := 116) hx hb dX9_sortOf_29 (by decide) (by rw [c_8] <;> rfl) (by decide) ?_
            refine lv_bipush (v := 18) hx hb dX9_sortOf_145 (by decide) ?_
            exact W.iret (v := 18) hx hb hr (fun t ht hW => ⟨_, rfl, trivial, ht⟩) (fun q h => by cases h) dX9_sortOf_147
          · refine lv_lookup (tgt := 130) (off := 101) hx hb dX9_sortOf_29 (by decide) (by rw [c_8] <;> rfl) (by decide) ?_
            refine lv_bipush (v := 8) hx hb dX9_sortOf_130 (by decide) ?_
            exact W.iret (v := 8) hx hb hr (fun t ht hW => ⟨_, rfl, trivial, ht⟩) (fun q h => by cases h) dX9_sortOf_132
          · refine lv_lookup (tgt := 133) (off := 104) hx hb dX9_sortOf_29 (by decide) (by rw [c_8] <;> rfl) (by decide) ?_
            refine lv_bipush (v := 10) hx hb dX9_sortOf_133 (by decide) ?_
            exact W.iret (v := 10) hx hb hr (fun t ht hW => ⟨_, rfl, trivial, ht⟩) (fun q h => by cases h) dX9_sortOf_135
          · refine lv_lookup (tgt := 136) (off := 107) hx hb dX9_sortOf_29 (by decide) (by rw [c_8] <;> rfl) (by decide) ?_
            refine lv_bipush (v := 12) hx hb dX9_sortOf_136 (by decide) ?_
            exact W.iret (v := 12) hx hb hr (fun t ht hW => ⟨_, rfl, trivial, ht⟩) (fun q h => by cases h) dX9_sortOf_138
          · refine lv_lookup (tgt := 139) (off := 110) hx hb dX9_sortOf_29 (by decide) (by rw [c_8] <;> rfl) (by decide) ?_
            refine lv_bipush (v := 16) hx hb dX9_sortOf_139 (by decide) ?_
            exact W.iret (v := 16) hx hb hr (fun t ht hW => ⟨_, rfl, trivial, ht⟩) (fun q h => by cases h) dX9_sortOf_141
          · refine lv_lookup (tgt := 142) (off := 113) hx hb dX9_sortOf_29 (by decide) (by rw [c_8] <;> rfl) (by decide) ?_
            refine lv_bipush (v := 17) hx hb dX9_sortOf_142 (by decide) ?_
            exact W.iret (v := 17) hx hb hr (fun t ht hW => ⟨_, rfl, trivial, ht⟩) (fun q h => by cases h) dX9_sortOf_144
          · refine lv_lookup (tgt := 148) (off := 119) hx hb dX9_sortOf_29 (by decide) (by show Op.lookupswitch.offset [(42, 95), (43, 91), (45, 93), (47, 98), (59, 116), (60, 101), (61, 104), (62, 107), (91, 110), (93, 113)] (119) _ = _; simp only [Op.lookupswitch.offset]; repeat rw [if_neg (by omega)]) (by decide) ?_
            refine lv_iconst (v := 1) hx hb dX9_sortOf_148 (by decide) ?_
            exact W.iret (v := 1) hx hb hr (fun t ht hW => ⟨_, rfl, trivial, ht⟩) (fun q h => by cases h) dX9_sortOf_149
        · have c_7 : p0.toInt ≤ (122 : Int) := tl_nlt c_7
          refine lv_iconst (v := 3) hx hb dX9_sortOf_26 (by decide) ?_
          exact W.iret (v := 3) hx hb hr (fun t ht hW => ⟨_, rfl, trivial, ht⟩) (fun q h => by cases h) dX9_sortOf_27
    · have c_4 : p0.toInt ≤ (57 : Int) := tl_nlt c_4
      refine lv_iconst (v := 2) hx hb dX9_sortOf_12 (by decide) ?_
      exact W.iret (v := 2) hx hb hr (fun t ht hW => ⟨_, rfl, trivial, ht⟩) (fun q h => by cases h) dX9_sortOf_13
set_option maxHeartbeats 4000000 in
set_option maxRecDepth 100000 in
theorem t_X9_add (l : Launch) (D : va_G) (cy : Nat → ClassId) (sz : Nat) (L : List Nat) (K : Nat → tk_K) (Γ : tk_G) (f : Nat → va_E) (o : Nat) (p0 : Int32) (p1 : Int32) (p2 : Int32) (ho : tp_r L K 16 (0) 0 o) : Met l yX9_add (tl_w yX9_add cX9_add 4 none) ({ frames := 0, cells := 0, slots := 0, locals := 0 }) (va_Pc [.ref o, .int p0, .int p1, .int p2] (tp_P D cy L K Γ f sz)) (va_Qv (fun (u : Nat → va_E) => True) (tp_B D cy L K Γ f [16, 17]) (tp_A L sz)) 0 0 (tp_A L sz) := by
  refine Met.ofW (cc := cX9_add) (maxL := 4) (ret := none) (by decide) rfl ?_
  intro p e s m args below meth c s₁ B hml hv
  obtain ⟨rfl, hsz, hP, hK, hL, hI, hN, hU⟩ := hv
  have hx := B.exec
  have hb := B.bytes
  have hr := B.returns
  have hta := tl_hta (atoms_spec (ws := tl_w yX9_add cX9_add 4 none) B.pre)
  have hown : s.vm.findClass RX9 = some m.cls := findClass_of_methodNamed B.named
  have hlocks := B.notSynchronized
  subst hsz
  have hI0 := hI
  generalize hAe : tp_A L s.heap.size = A
  have hA : ∀ q : Nat, s.heap.size ≤ q → A q := fun q h => by rw [← hAe]; exact Or.inr h
  have hAL : ∀ q ∈ L, A q := fun q h => by rw [← hAe]; exact Or.inl h
  have hAf : ∀ (H : Heap), s.heap.size ≤ H.size → ∀ q, tp_A L H.size q → A q := fun H h q hq => hq.elim (hAL q) (fun h2 => hA q (Nat.le_trans h h2))
  have hS : va_S A s.heap s.heap [] := va_S.rf
  have hD : va_D A (va_pl L f) := tp_D hL hAL
  have hfr : ∀ b, (K b).1 ∉ ([16, 17] : List Nat) → f b = f b := fun _ _ => rfl
  have hl := lv_entry ([.ref o, .int p0, .int p1, .int p2]) (n := 4) (Nat.le_of_ble_eq_true rfl)
  rw [lg_entry_eq]
  generalize (lg_sl ([.ref o, .int p0, .int p1, .int p2]) ++ List.replicate (4 - (lg_sl ([.ref o, .int p0, .int p1, .int p2])).length) Slot.unset).toArray = ls at hl ⊢
  have hl : lv_has ls 4 [(0, .ref o), (1, .int p0), (2, .int p1), (3, .int p2)] := hl
  refine lv_aload_n hx hb dX9_add_0 rfl (lv_at hl 0 rfl) ?_
  obtain ⟨x_2, x_3, x_4, x_5, hf_1, hx_2, hx_3, hx_4, hx_5⟩ := (show tp_o_TOKENS L K (0) 0 (Γ (16, 0, 0)) (f o) from hI.at ho)
  refine tp_get (cy := cy) (ci := 9) (v := .int x_5) (C := RX9) (T := TX9) (N := 4) hx hb hta inlX9 hown hK hP ho.1 hf_1 rfl 3 (by decide) (hta _ wk_387) (fun _ h9 => h9) rfl dX9_add_1 ?_
  refine lv_aload_n hx hb dX9_add_4 rfl (lv_at hl 0 rfl) ?_
  refine tp_get (cy := cy) (ci := 9) (v := .ref x_2) (C := RX9) (T := TX9) (N := 4) hx hb hta inlX9 hown hK hP ho.1 hf_1 rfl 0 (by decide) (hta _ wk_105) (fun _ h9 => h9) rfl dX9_add_5 ?_
  obtain ⟨g_7, hf_6, hg_8⟩ := (show tp_ai cy 17 (401) (f x_2) from hI.at hx_2)
  refine tp_alen (cy := cy) (t0 := 0) (v := 401) hx hb hK hP hx_2.1 rfl hf_6 rfl dX9_add_8 ?_
  refine lv_icmp_ge (tgt := 52) hx hb dX9_add_9 (by decide) (fun c_9 => ?_) (fun c_9 => ?_)
  · have c_9 : (401 : Int) ≤ x_5.toInt := tl_le c_9
    exact W.vret hx hb hr (fun t ht hW => ⟨⟨f, rfl, trivial, by rw [ht]; exact hP, hI, hfr⟩, hS.F ht⟩) hS.2.2 dX9_add_52
  · have c_9 : x_5.toInt < (401 : Int) := tl_nle c_9
    refine lv_aload_n hx hb dX9_add_12 rfl (lv_at hl 0 rfl) ?_
    refine tp_get (cy := cy) (ci := 9) (v := .ref x_2) (C := RX9) (T := TX9) (N := 4) hx hb hta inlX9 hown hK hP ho.1 hf_1 rfl 0 (by decide) (hta _ wk_105) (fun _ h9 => h9) rfl dX9_add_13 ?_
    refine lv_aload_n hx hb dX9_add_16 rfl (lv_at hl 0 rfl) ?_
    refine tp_get (cy := cy) (ci := 9) (v := .int x_5) (C := RX9) (T := TX9) (N := 4) hx hb hta inlX9 hown hK hP ho.1 hf_1 rfl 3 (by decide) (hta _ wk_387) (fun _ h9 => h9) rfl dX9_add_17 ?_
    refine lv_iload_n hx hb dX9_add_20 rfl (lv_at hl 1 rfl) ?_
    have hn_10 : vp_in x_5 (401) := tl_in (by omega) (by omega)
    have hI9 : tp_I cy L K Γ (va_up f x_2 (.inl (cy 0, 401, .inl (upd g_7 x_5.toNatClampNeg p0)))) := hI.set hx_2 (show tp_ai cy 17 (401) _ from ⟨_, rfl, tp_pi_upd hg_8 trivial⟩)
    have hfr9 : ∀ b, (K b).1 ∉ ([16, 17] : List Nat) → va_up f x_2 (.inl (cy 0, 401, .inl (upd g_7 x_5.toNatClampNeg p0))) b = f b := tp_fr hfr hx_2 (by decide)
    refine tp_iast (cy := cy) hx hb hK hP hD hS hx_2.1 hf_6 hn_10 dX9_add_21 (fun H locs hP hD hS => ?_)
    have hP : va_P D vwCl (va_pl L (va_up f x_2 (.inl (cy 0, 401, .inl (upd g_7 x_5.toNatClampNeg p0))))) H := hP
    generalize hfe : va_up f x_2 (.inl (cy 0, 401, .inl (upd g_7 x_5.toNatClampNeg p0))) = f_11 at hP hI9 hfr9
    have hD : va_D A (va_pl L f_11) := tp_D hL hAL
    have hf_12 := (show f_11 o = _ from by rw [← hfe, va_up_ne _ _ (tp_ne ho hx_2 (by decide))]).trans hf_1
    have hf_13 : f_11 x_2 = .inl (cy 0, 401, .inl (upd g_7 x_5.toNatClampNeg p0)) := by rw [← hfe]; exact va_up_self _ _ _
    clear hfe
    have hI := hI9
    have hfr := hfr9
    clear hI9 hfr9
    refine lv_aload_n hx hb dX9_add_22 rfl (lv_at hl 0 rfl) ?_
    refine tp_get (cy := cy) (ci := 9) (v := .ref x_3) (C := RX9) (T := TX9) (N := 4) hx hb hta inlX9 hown hK hP ho.1 hf_12 rfl 1 (by decide) (hta _ wk_106) (fun _ h9 => h9) rfl dX9_add_23 ?_
    refine lv_aload_n hx hb dX9_add_26 rfl (lv_at hl 0 rfl) ?_
    refine tp_get (cy := cy) (ci := 9) (v := .int x_5) (C := RX9) (T := TX9) (N := 4) hx hb hta inlX9 hown hK hP ho.1 hf_12 rfl 3 (by decide) (hta _ wk_387) (fun _ h9 => h9) rfl dX9_add_27 ?_
    refine lv_iload_n hx hb dX9_add_30 rfl (lv_at hl 2 rfl) ?_
    obtain ⟨g_15, hf_14, hg_16⟩ := (show tp_ai cy 17 (401) (f_11 x_3) from hI.at hx_3)
    have hn_17 : vp_in x_5 (401) := tl_in (by omega) (by omega)
    have hI9 : tp_I cy L K Γ (va_up f_11 x_3 (.inl (cy 0, 401, .inl (upd g_15 x_5.toNatClampNeg p1)))) := hI.set hx_3 (show tp_ai cy 17 (401) _ from ⟨_, rfl, tp_pi_upd hg_16 trivial⟩)
    have hfr9 : ∀ b, (K b).1 ∉ ([16, 17] : List Nat) → va_up f_11 x_3 (.inl (cy 0, 401, .inl (upd g_15 x_5.toNatClampNeg p1))) b = f b := tp_fr hfr hx_3 (by decide)
    refine tp_iast (cy := cy) hx hb hK hP hD hS hx_3.1 hf_14 hn_17 dX9_add_31 (fun H locs hP hD hS => ?_)
    have hP : va_P D vwCl (va_pl L (va_up f_11 x_3 (.inl (cy 0, 401, .inl (upd g_15 x_5.toNatClampNeg p1))))) H := hP
    generalize hfe : va_up f_11 x_3 (.inl (cy 0, 401, .inl (upd g_15 x_5.toNatClampNeg p1))) = f_18 at hP hI9 hfr9
    have hD : va_D A (va_pl L f_18) := tp_D hL hAL
    have hf_19 := (show f_18 o = _ from by rw [← hfe, va_up_ne _ _ (tp_ne ho hx_3 (by decide))]).trans hf_12
    have hf_20 : f_18 x_3 = .inl (cy 0, 401, .inl (upd g_15 x_5.toNatClampNeg p1)) := by rw [← hfe]; exact va_up_self _ _ _
    clear hfe
    have hI := hI9
    have hfr := hfr9
    clear hI9 hfr9
    refine lv_aload_n hx hb dX9_add_32 rfl (lv_at hl 0 rfl) ?_
    refine tp_get (cy := cy) (ci := 9) (v := .ref x_4) (C := RX9) (T := TX9) (N := 4) hx hb hta inlX9 hown hK hP ho.1 hf_19 rfl 2 (by decide) (hta _ wk_107) (fun _ h9 => h9) rfl dX9_add_33 ?_
    refine lv_aload_n hx hb dX9_add_36 rfl (lv_at hl 0 rfl) ?_
    refine tp_get (cy := cy) (ci := 9) (v := .int x_5) (C := RX9) (T := TX9) (N := 4) hx hb hta inlX9 hown hK hP ho.1 hf_19 rfl 3 (by decide) (hta _ wk_387) (fun _ h9 => h9) rfl dX9_add_37 ?_
    refine lv_iload_n hx hb dX9_add_40 rfl (lv_at hl 3 rfl) ?_
    obtain ⟨g_22, hf_21, hg_23⟩ := (show tp_ai cy 17 (401) (f_18 x_4) from hI.at hx_4)
    have hn_24 : vp_in x_5 (401) := tl_in (by omega) (by omega)
    have hI9 : tp_I cy L K Γ (va_up f_18 x_4 (.inl (cy 0, 401, .inl (upd g_22 x_5.toNatClampNeg p2)))) := hI.set hx_4 (show tp_ai cy 17 (401) _ from ⟨_, rfl, tp_pi_upd hg_23 trivial⟩)
    have hfr9 : ∀ b, (K b).1 ∉ ([16, 17] : List Nat) → va_up f_18 x_4 (.inl (cy 0, 401, .inl (upd g_22 x_5.toNatClampNeg p2))) b = f b := tp_fr hfr hx_4 (by decide)
    refine tp_iast (cy := cy) hx hb hK hP hD hS hx_4.1 hf_21 hn_24 dX9_add_41 (fun H locs hP hD hS => ?_)
    have hP : va_P D vwCl (va_pl L (va_up f_18 x_4 (.inl (cy 0, 401, .inl (upd g_22 x_5.toNatClampNeg p2))))) H := hP
    generalize hfe : va_up f_18 x_4 (.inl (cy 0, 401, .inl (upd g_22 x_5.toNatClampNeg p2))) = f_25 at hP hI9 hfr9
    have hD : va_D A (va_pl L f_25) := tp_D hL hAL
    have hf_26 := (show f_25 o = _ from by rw [← hfe, va_up_ne _ _ (tp_ne ho hx_4 (by decide))]).trans hf_19
    have hf_27 : f_25 x_4 = .inl (cy 0, 401, .inl (upd g_22 x_5.toNatClampNeg p2)) := by rw [← hfe]; exact va_up_self _ _ _
    clear hfe
    have hI := hI9
    have hfr := hfr9
    clear hI9 hfr9
    refine lv_aload_n hx hb dX9_add_42 rfl (lv_at hl 0 rfl) ?_
    refine lv_dup hx hb dX9_add_43 rfl ?_
    refine tp_get (cy := cy) (ci := 9) (v := .int x_5) (C := RX9) (T := TX9) (N := 4) hx hb hta inlX9 hown hK hP ho.1 hf_26 rfl 3 (by decide) (hta _ wk_387) (fun _ h9 => h9) rfl dX9_add_44 ?_
    refine lv_iconst (v := 1) hx hb dX9_add_47 (by decide) ?_
    refine lv_iadd hx hb dX9_add_48 ?_
    refine lv_topi (fun z_28 ez_28 => ?_)
    try have iz_28 : z_28.toInt = x_5.toInt + (1 : Int) := by rw [ez_28]; exact tl_addN x_5 1 rfl rfl (by omega) (by omega)
    have hI9 : tp_I cy L K Γ (va_up f_25 o (.inr (9, [.ref x_2, .ref x_3, .ref x_4, .int z_28]))) := hI.set ho (show tp_o_TOKENS L K (0) 0 (Γ (16, 0, 0)) _ from ⟨x_2, x_3, x_4, z_28, rfl, hx_2, hx_3, hx_4, (show 0 ≤ z_28.toInt ∧ z_28.toInt ≤ 401 from by omega)⟩)
    have hfr9 : ∀ b, (K b).1 ∉ ([16, 17] : List Nat) → va_up f_25 o (.inr (9, [.ref x_2, .ref x_3, .ref x_4, .int z_28])) b = f b := tp_fr hfr ho (by decide)
    refine tp_put (cy := cy) (ci := 9) (v := .int z_28) (ty := tyX9 3) (C := RX9) (T := TX9) (N := 4) hx hb hta inlX9 tyX9 tyX9_ok nmX9 hown hK hP hD hS ho.1 hf_26 rfl 3 (by decide) (hta _ wk_387) (fun _ h9 => h9) rfl (tyX9_ok 3 (by decide)) rfl rfl (Nat.le_of_ble_eq_true rfl) dX9_add_49 (fun H locs hP hD hS => ?_)
    have hP : va_P D vwCl (va_pl L (va_up f_25 o (.inr (9, [.ref x_2, .ref x_3, .ref x_4, .int z_28])))) H := hP
    generalize hfe : va_up f_25 o (.inr (9, [.ref x_2, .ref x_3, .ref x_4, .int z_28])) = f_29 at hP hI9 hfr9
    have hD : va_D A (va_pl L f_29) := tp_D hL hAL
    have hf_30 : f_29 o = .inr (9, [.ref x_2, .ref x_3, .ref x_4, .int z_28]) := by rw [← hfe]; exact va_up_self _ _ _
    clear hfe
    have hI := hI9
    have hfr := hfr9
    clear hI9 hfr9
    exact W.vret hx hb hr (fun t ht hW => ⟨⟨f_29, rfl, trivial, by rw [ht]; exact hP, hI, hfr⟩, hS.F ht⟩) hS.2.2 dX9_add_52
set_option maxHeartbeats 4000000 in
set_option maxRecDepth 100000 in
theorem t_X9_cut (l : Launch) (D : va_G) (cy : Nat → ClassId) (sz : Nat) (L : List Nat) (K : Nat → tk_K) (Γ : tk_G) (f : Nat → va_E) (Z : ts_Y) (o : Nat) (w : Nat) (bk : Nat) (ho : tp_r L K 16 (0) 0 o) (hbk : tp_r L K 1 (0) w bk) : Met l yX9_cut (tl_w yX9_cut cX9_cut 5 none) ({ frames := 6, cells := 0, slots := 0, locals := 133 }) (va_Pc [.ref o, .ref bk] (tp_PS D cy L K Γ f sz Z)) (va_Qv (fun (u : Nat → va_E) => True) (tp_B D cy L K Γ f [16, 17]) (tp_A L sz)) 0 0 (tp_A L sz) := by
  refine Met.ofW (cc := cX9_cut) (maxL := 5) (ret := none) (by decide) rfl ?_
  intro p e s m args below meth c s₁ B hml hv
  obtain ⟨rfl, hsz, hP, hK, hL, hI, hN, hU, hZ⟩ := hv
  have hx := B.exec
  have hb := B.bytes
  have hr := B.returns
  have hta := tl_hta (atoms_spec (ws := tl_w yX9_cut cX9_cut 5 none) B.pre)
  have hown : s.vm.findClass RX9 = some m.cls := findClass_of_methodNamed B.named
  have hlocks := B.notSynchronized
  subst hsz
  have hI0 := hI
  generalize hAe : tp_A L s.heap.size = A at hZ ⊢
  have hA : ∀ q : Nat, s.heap.size ≤ q → A q := fun q h => by rw [← hAe]; exact Or.inr h
  have hAL : ∀ q ∈ L, A q := fun q h => by rw [← hAe]; exact Or.inl h
  have hAf : ∀ (H : Heap), s.heap.size ≤ H.size → ∀ q, tp_A L H.size q → A q := fun H h q hq => hq.elim (hAL q) (fun h2 => hA q (Nat.le_trans h h2))
  have hS : va_S A s.heap s.heap [] := va_S.rf
  have hD : va_D A (va_pl L f) := tp_D hL hAL
  have hfr : ∀ b, (K b).1 ∉ ([16, 17] : List Nat) → f b = f b := fun _ _ => rfl
  have hl := lv_entry ([.ref o, .ref bk]) (n := 5) (Nat.le_of_ble_eq_true rfl)
  rw [lg_entry_eq]
  generalize (lg_sl ([.ref o, .ref bk]) ++ List.replicate (5 - (lg_sl ([.ref o, .ref bk])).length) Slot.unset).toArray = ls at hl ⊢
  have hl : lv_has ls 5 [(0, .ref o), (1, .ref bk)] := hl
  refine lv_aload_n hx hb dX9_cut_0 rfl (lv_at hl 0 rfl) ?_
  refine lv_iconst (v := 0) hx hb dX9_cut_1 (by decide) ?_
  obtain ⟨x_2, x_3, x_4, x_5, hf_1, hx_2, hx_3, hx_4, hx_5⟩ := (show tp_o_TOKENS L K (0) 0 (Γ (16, 0, 0)) (f o) from hI.at ho)
  have hI9 : tp_I cy L K Γ (va_up f o (.inr (9, [.ref x_2, .ref x_3, .ref x_4, .int 0]))) := hI.set ho (show tp_o_TOKENS L K (0) 0 (Γ (16, 0, 0)) _ from ⟨x_2, x_3, x_4, 0, rfl, hx_2, hx_3, hx_4, (show 0 ≤ (0 : Int) ∧ (0 : Int) ≤ 401 from by omega)⟩)
  have hfr9 : ∀ b, (K b).1 ∉ ([16, 17] : List Nat) → va_up f o (.inr (9, [.ref x_2, .ref x_3, .ref x_4, .int 0])) b = f b := tp_fr hfr ho (by decide)
  refine tp_put (cy := cy) (ci := 9) (v := .int 0) (ty := tyX9 3) (C := RX9) (T := TX9) (N := 4) hx hb hta inlX9 tyX9 tyX9_ok nmX9 hown hK hP hD hS ho.1 hf_1 rfl 3 (by decide) (hta _ wk_387) (fun _ h9 => h9) rfl (tyX9_ok 3 (by decide)) rfl rfl (Nat.le_of_ble_eq_true rfl) dX9_cut_2 (fun H locs hP hD hS => ?_)
  have hP : va_P D vwCl (va_pl L (va_up f o (.inr (9, [.ref x_2, .ref x_3, .ref x_4, .int 0])))) H := hP
  generalize hfe : va_up f o (.inr (9, [.ref x_2, .ref x_3, .ref x_4, .int 0])) = f_6 at hP hI9 hfr9
  have hD : va_D A (va_pl L f_6) := tp_D hL hAL
  have hf_7 : f_6 o = .inr (9, [.ref x_2, .ref x_3, .ref x_4, .int 0]) := by rw [← hfe]; exact va_up_self _ _ _
  clear hfe
  have hI := hI9
  have hfr := hfr9
  clear hI9 hfr9
  refine lv_iconst (v := 0) hx hb dX9_cut_5 (by decide) ?_
  refine lv_istore_n (lv' := [(2, .int 0), (0, .ref o), (1, .ref bk)]) hx hb dX9_cut_6 rfl hl (by decide) rfl (fun ls hl => ?_)
  refine tl_ind (G := fun H locs ls => W p l e ((headSpec (tl_w yX9_cut cX9_cut 5 none) ({ frames := 6, cells := 0, slots := 0, locals := 133 })).room) s m #[.ref o, .ref bk] below meth c H locs 0 0 (MQ below (va_Qv (fun (u : Nat → va_E) => True) (tp_B D cy L K Γ f [16, 17]) A) #[.ref o, .ref bk] s 0 0 A) (F0 m 7 ls [])) (α := (Nat → va_E) × Int32) (fun aq => (401 - aq.2.toInt).toNat) (fun aq H locs ls => (0 ≤ aq.2.toInt ∧ aq.2.toInt ≤ 401) ∧ va_P D vwCl (va_pl L aq.1) H ∧ tp_I cy L K Γ aq.1 ∧ (∀ b, (K b).1 ∉ ([16, 17] : List Nat) → aq.1 b = f b) ∧ va_S A s.heap H locs ∧ lv_has ls 5 [(2, .int aq.2), (0, .ref o), (1, .ref bk)]) ?_ (f_6, (0 : Int32)) H locs ls ⟨(show 0 ≤ (0 : Int) ∧ (0 : Int) ≤ 401 from (by omega)), hP, hI, hfr, hS, lv_sub hl [0, 1, 2] rfl⟩
  rintro ⟨f_8, v2⟩ H locs ls ⟨h5, hP, hI, hfr, hS, hl⟩ ih7
  have hP : va_P D vwCl (va_pl L f_8) H := hP
  have hI : tp_I cy L K Γ f_8 := hI
  have hfr : ∀ b, (K b).1 ∉ ([16, 17] : List Nat) → f_8 b = f b := hfr
  have hD : va_D A (va_pl L f_8) := tp_D hL hAL
  have h5 : 0 ≤ v2.toInt ∧ v2.toInt ≤ 401 := h5
  have hl : lv_has ls 5 [(2, .int v2), (0, .ref o), (1, .ref bk)] := hl
  refine lv_iload_n hx hb dX9_cut_7 rfl (lv_at hl 0 rfl) ?_
  refine lv_aload_n hx hb dX9_cut_8 rfl (lv_at hl 2 rfl) ?_
  obtain ⟨x_10, x_11, x_12, x_13, x_14, x_15, x_16, x_17, x_18, hf_9, hx_10, hx_11, hx_12, hx_13, hx_14, hx_15, hx_16, hx_17, hx_18⟩ := (show tp_o_BOOK L K (0) w (Γ (1, 0, w)) (f bk) from hI0.at hbk)
  refine tp_getN (cy := cy) (ci := 0) (v := .int x_18) (C := RX0) (T := TX0) (N := 9) hx hb hta inlX0 hown hK hP hbk.1 ((tp_un hfr hbk (by decide)).trans hf_9) rfl 8 (by decide) (va_Nw.use rfl (hN.1 25 _ nk_25)) (fun _ h9 => h9) rfl dX9_cut_9 ?_
  refine lv_icmp_ge (tgt := 171) hx hb dX9_cut_12 (by decide) (fun c_19 => ?_) (fun c_19 => ?_)
  · have c_19 : x_18.toInt ≤ v2.toInt := tl_le c_19
    refine lv_aload_n hx hb dX9_cut_171 rfl (lv_at hl 1 rfl) ?_
    refine lv_iconst (v := 0) hx hb dX9_cut_172 (by decide) ?_
    refine lv_aload_n hx hb dX9_cut_173 rfl (lv_at hl 2 rfl) ?_
    refine tp_getN (cy := cy) (ci := 0) (v := .int x_18) (C := RX0) (T := TX0) (N := 9) hx hb hta inlX0 hown hK hP hbk.1 ((tp_un hfr hbk (by decide)).trans hf_9) rfl 8 (by decide) (va_Nw.use rfl (hN.1 25 _ nk_25)) (fun _ h9 => h9) rfl dX9_cut_174 ?_
    refine lv_iconst (v := 0) hx hb dX9_cut_177 (by decide) ?_
    obtain ⟨x_21, x_22, x_23, x_24, hf_20, hx_21, hx_22, hx_23, hx_24⟩ := (show tp_o_TOKENS L K (0) 0 (Γ (16, 0, 0)) (f_8 o) from hI.at ho)
    refine tq_cv hS (hAf _ hS.1) (tq_rV (As := [.int 0, .int x_18, .int 0]) (rest := []) ⟨hx, hb, hml, hown, hta⟩ (tp_P.pre hK hN hL hU hI hP) (tp_recv hK hP ho.1 hf_20 rfl) lk_X9_44 (t_X9_add l D cy H.size L K Γ f_8 o 0 x_18 0 ho) rfl rfl ⟨Nat.le_of_ble_eq_true rfl, Nat.le_of_ble_eq_true rfl⟩ rfl hl.1 rfl (Nat.le_of_ble_eq_true rfl) dX9_cut_178 ⟨Nat.le_of_ble_eq_true rfl, Nat.le_of_ble_eq_true rfl⟩) (fun f_27 H locs hw_25 hP hI hc_28 hS => ?_)
    have hD : va_D A (va_pl L f_27) := tp_D hL hAL
    have hfr := tp_fr2 hfr hc_28 (by decide)
    exact W.vret hx hb hr (fun t ht hW => ⟨⟨f_27, rfl, trivial, by rw [ht]; exact hP, hI, hfr⟩, hS.F ht⟩) hS.2.2 dX9_cut_181
  · have c_19 : v2.toInt < x_18.toInt := tl_nle c_19
    refine lv_iload_n hx hb dX9_cut_15 rfl (lv_at hl 0 rfl) ?_
    refine lv_istore_n (lv' := [(3, .int v2), (2, .int v2), (0, .ref o), (1, .ref bk)]) hx hb dX9_cut_16 rfl hl (by decide) rfl (fun ls hl => ?_)
    refine lv_aload_n hx hb dX9_cut_17 rfl (lv_at hl 3 rfl) ?_
    refine lv_iload_n hx hb dX9_cut_18 rfl (lv_at hl 1 rfl) ?_
    refine tl_si (tq_rVN hN (As := [.int v2]) (rest := []) ⟨hx, hb, hml, hown, hta⟩ (tp_P.pre hK hN hL hU hI hP) (tp_recv hK hP hbk.1 ((tp_un hfr hbk (by decide)).trans hf_9) rfl) lk_X9_30 (t_X0_byteAt l D cy H.size L K Γ f_8 w bk v2 hbk) rfl rfl ⟨Nat.le_of_ble_eq_true rfl, Nat.le_of_ble_eq_true rfl⟩ rfl hl.1 rfl (Nat.le_of_ble_eq_true rfl) dX9_cut_19 ⟨Nat.le_of_ble_eq_true rfl, Nat.le_of_ble_eq_true rfl⟩) (fun r_30 hw_29 => ?_)
    refine tl_si (tq_rS (As := [.int r_30]) (rest := []) ⟨hx, hb, hml, hown, hta⟩ (tp_P.pre hK hN hL hU hI hP) lk_X9_34 (t_X9_sortOf l D cy H.size L K Γ f_8 r_30 ) rfl rfl ⟨Nat.le_of_ble_eq_true rfl, Nat.le_of_ble_eq_true rfl⟩ rfl hl.1 rfl (Nat.le_of_ble_eq_true rfl) dX9_cut_22 ⟨Nat.le_of_ble_eq_true rfl, Nat.le_of_ble_eq_true rfl⟩) (fun r_32 hw_31 => ?_)
    refine lv_istore (lv' := [(4, .int r_32), (3, .int v2), (2, .int v2), (0, .ref o), (1, .ref bk)]) hx hb dX9_cut_25 hl (by decide) rfl (fun ls hl => ?_)
    obtain ⟨z_33, ez_33⟩ : ∃ y : Int32, y = v2 + 1 := ⟨_, rfl⟩
    refine lv_iinc (v := z_33) (lv' := [(2, .int z_33), (4, .int r_32), (3, .int v2), (0, .ref o), (1, .ref bk)]) hx hb dX9_cut_27 hl (k := 2) rfl (by rw [ez_33]; rfl) (by decide) rfl (fun ls hl => ?_)
    try have iz_33 : z_33.toInt = v2.toInt + 1 := by rw [ez_33]; exact tl_addL v2 1 (by decide) (by omega) (by omega)
    refine lv_iload hx hb dX9_cut_30 (lv_at hl 1 rfl) ?_
    refine lv_iconst (v := 2) hx hb dX9_cut_32 (by decide) ?_
    refine lv_icmp_eq (tgt := 42) hx hb dX9_cut_33 (by decide) (fun c_34 => ?_) (fun c_34 => ?_)
    · have c_34 : r_32.toInt = (2 : Int) := tl_eq c_34
      refine tl_ind (G := fun H locs ls => W p l e ((headSpec (tl_w yX9_cut cX9_cut 5 none) ({ frames := 6, cells := 0, slots := 0, locals := 133 })).room) s m #[.ref o, .ref bk] below meth c H locs 0 0 (MQ below (va_Qv (fun (u : Nat → va_E) => True) (tp_B D cy L K Γ f [16, 17]) A) #[.ref o, .ref bk] s 0 0 A) (F0 m 42 ls [])) (α := (Nat → va_E) × Int32) (fun aq => (400 - aq.2.toInt).toNat) (fun aq H locs ls => (0 ≤ v2.toInt ∧ v2.toInt < aq.2.toInt ∧ aq.2.toInt ≤ 400) ∧ va_P D vwCl (va_pl L aq.1) H ∧ tp_I cy L K Γ aq.1 ∧ (∀ b, (K b).1 ∉ ([16, 17] : List Nat) → aq.1 b = f b) ∧ va_S A s.heap H locs ∧ lv_has ls 5 [(2, .int aq.2), (4, .int r_32), (3, .int v2), (0, .ref o), (1, .ref bk)]) ?_ (f_8, z_33) H locs ls ⟨(show 0 ≤ v2.toInt ∧ v2.toInt < z_33.toInt ∧ z_33.toInt ≤ 400 from (by omega)), hP, hI, hfr, hS, lv_sub hl [0, 1, 2, 3, 4] rfl⟩
      rintro ⟨f_36, v2_35⟩ H locs ls ⟨h6, hP, hI, hfr, hS, hl⟩ ih42
      have hP : va_P D vwCl (va_pl L f_36) H := hP
      have hI : tp_I cy L K Γ f_36 := hI
      have hfr : ∀ b, (K b).1 ∉ ([16, 17] : List Nat) → f_36 b = f b := hfr
      have hD : va_D A (va_pl L f_36) := tp_D hL hAL
      have h6 : 0 ≤ v2.toInt ∧ v2.toInt < v2_35.toInt ∧ v2_35.toInt ≤ 400 := h6
      have hl : lv_has ls 5 [(2, .int v2_35), (4, .int r_32), (3, .int v2), (0, .ref o), (1, .ref bk)] := hl
      refine lv_iload_n hx hb dX9_cut_42 rfl (lv_at hl 0 rfl) ?_
      refine lv_aload_n hx hb dX9_cut_43 rfl (lv_at hl 4 rfl) ?_
      refine tp_getN (cy := cy) (ci := 0) (v := .int x_18) (C := RX0) (T := TX0) (N := 9) hx hb hta inlX0 hown hK hP hbk.1 ((tp_un hfr hbk (by decide)).trans hf_9) rfl 8 (by decide) (va_Nw.use rfl (hN.1 25 _ nk_25)) (fun _ h9 => h9) rfl dX9_cut_44 ?_
      refine lv_icmp_ge (tgt := 69) hx hb dX9_cut_47 (by decide) (fun c_37 => ?_) (fun c_37 => ?_)
      · have c_37 : x_18.toInt ≤ v2_35.toInt := tl_le c_37
        refine lv_aload_n hx hb dX9_cut_69 rfl (lv_at hl 3 rfl) ?_
        refine lv_iload hx hb dX9_cut_70 (lv_at hl 1 rfl) ?_
        refine lv_iload_n hx hb dX9_cut_72 rfl (lv_at hl 2 rfl) ?_
        refine lv_iload hx hb dX9_cut_73 (lv_at hl 1 rfl) ?_
        refine lv_iconst (v := 2) hx hb dX9_cut_75 (by decide) ?_
        refine lv_icmp_ne (tgt := 88) hx hb dX9_cut_76 (by decide) (fun c_38 => ?_) (fun c_38 => ?_)
        · have c_38 : ¬ r_32.toInt = (2 : Int) := tl_neq c_38
          exfalso; omega
        · have c_38 : r_32.toInt = (2 : Int) := tl_eq c_38
          refine lv_aload_n hx hb dX9_cut_79 rfl (lv_at hl 4 rfl) ?_
          refine lv_iload_n hx hb dX9_cut_80 rfl (lv_at hl 2 rfl) ?_
          refine lv_iload_n hx hb dX9_cut_81 rfl (lv_at hl 0 rfl) ?_
          refine tl_si (tq_rS (As := [.ref bk, .int v2, .int v2_35]) (rest := [.int v2, .int r_32, .ref o]) ⟨hx, hb, hml, hown, hta⟩ (tp_P.pre hK hN hL hU hI hP) lk_X9_37 (t_X9_numberIn l D cy H.size L K Γ f_36 w bk v2 v2_35 hbk (by first | omega | (simp only [Int32.toInt_toInt64]; omega) | decide | assumption)) rfl rfl ⟨Nat.le_of_ble_eq_true rfl, Nat.le_of_ble_eq_true rfl⟩ rfl hl.1 rfl (Nat.le_of_ble_eq_true rfl) dX9_cut_82 ⟨Nat.le_of_ble_eq_true rfl, Nat.le_of_ble_eq_true rfl⟩) (fun r_40 hw_39 => ?_)
          refine lv_goto (tgt := 94) hx hb dX9_cut_85 (by decide) ?_
          obtain ⟨x_42, x_43, x_44, x_45, hf_41, hx_42, hx_43, hx_44, hx_45⟩ := (show tp_o_TOKENS L K (0) 0 (Γ (16, 0, 0)) (f_36 o) from hI.at ho)
          refine tq_cv hS (hAf _ hS.1) (tq_rV (As := [.int r_32, .int v2, .int r_40]) (rest := []) ⟨hx, hb, hml, hown, hta⟩ (tp_P.pre hK hN hL hU hI hP) (tp_recv hK hP ho.1 hf_41 rfl) lk_X9_44 (t_X9_add l D cy H.size L K Γ f_36 o r_32 v2 r_40 ho) rfl rfl ⟨Nat.le_of_ble_eq_true rfl, Nat.le_of_ble_eq_true rfl⟩ rfl hl.1 rfl (Nat.le_of_ble_eq_true rfl) dX9_cut_94 ⟨Nat.le_of_ble_eq_true rfl, Nat.le_of_ble_eq_true rfl⟩) (fun f_48 H locs hw_46 hP hI hc_49 hS => ?_)
          have hD : va_D A (va_pl L f_48) := tp_D hL hAL
          have hfr := tp_fr2 hfr hc_49 (by decide)
          refine lv_goto (tgt := 168) hx hb dX9_cut_97 (by decide) ?_
          refine lv_goto (tgt := 7) hx hb dX9_cut_168 (by decide) ?_
          exact ih7 (f_48, v2_35) H locs ls (by show (401 - v2_35.toInt).toNat < (401 - v2.toInt).toNat; omega) ⟨(show 0 ≤ v2_35.toInt ∧ v2_35.toInt ≤ 401 from (by omega)), hP, hI, hfr, hS, lv_sub hl [0, 3, 4] rfl⟩
      · have c_37 : v2_35.toInt < x_18.toInt := tl_nle c_37
        refine lv_aload_n hx hb dX9_cut_50 rfl (lv_at hl 4 rfl) ?_
        refine lv_iload_n hx hb dX9_cut_51 rfl (lv_at hl 0 rfl) ?_
        refine tl_si (tq_rVN hN (As := [.int v2_35]) (rest := []) ⟨hx, hb, hml, hown, hta⟩ (tp_P.pre hK hN hL hU hI hP) (tp_recv hK hP hbk.1 ((tp_un hfr hbk (by decide)).trans hf_9) rfl) lk_X9_30 (t_X0_byteAt l D cy H.size L K Γ f_36 w bk v2_35 hbk) rfl rfl ⟨Nat.le_of_ble_eq_true rfl, Nat.le_of_ble_eq_true rfl⟩ rfl hl.1 rfl (Nat.le_of_ble_eq_true rfl) dX9_cut_52 ⟨Nat.le_of_ble_eq_true rfl, Nat.le_of_ble_eq_true rfl⟩) (fun r_51 hw_50 => ?_)
        refine tl_si (tq_rS (As := [.int r_51]) (rest := []) ⟨hx, hb, hml, hown, hta⟩ (tp_P.pre hK hN hL hU hI hP) lk_X9_34 (t_X9_sortOf l D cy H.size L K Γ f_36 r_51 ) rfl rfl ⟨Nat.le_of_ble_eq_true rfl, Nat.le_of_ble_eq_true rfl⟩ rfl hl.1 rfl (Nat.le_of_ble_eq_true rfl) dX9_cut_55 ⟨Nat.le_of_ble_eq_true rfl, Nat.le_of_ble_eq_true rfl⟩) (fun r_53 hw_52 => ?_)
        refine lv_iload hx hb dX9_cut_58 (lv_at hl 1 rfl) ?_
        refine lv_icmp_ne (tgt := 69) hx hb dX9_cut_60 (by decide) (fun c_54 => ?_) (fun c_54 => ?_)
        · have c_54 : ¬ r_53.toInt = r_32.toInt := tl_neq c_54
          refine lv_aload_n hx hb dX9_cut_69 rfl (lv_at hl 3 rfl) ?_
          refine lv_iload hx hb dX9_cut_70 (lv_at hl 1 rfl) ?_
          refine lv_iload_n hx hb dX9_cut_72 rfl (lv_at hl 2 rfl) ?_
          refine lv_iload hx hb dX9_cut_73 (lv_at hl 1 rfl) ?_
          refine lv_iconst (v := 2) hx hb dX9_cut_75 (by decide) ?_
          refine lv_icmp_ne (tgt := 88) hx hb dX9_cut_76 (by decide) (fun c_55 => ?_) (fun c_55 => ?_)
          · have c_55 : ¬ r_32.toInt = (2 : Int) := tl_neq c_55
            exfalso; omega
          · have c_55 : r_32.toInt = (2 : Int) := tl_eq c_55
            refine lv_aload_n hx hb dX9_cut_79 rfl (lv_at hl 4 rfl) ?_
            refine lv_iload_n hx hb dX9_cut_80 rfl (lv_at hl 2 rfl) ?_
            refine lv_iload_n hx hb dX9_cut_81 rfl (lv_at hl 0 rfl) ?_
            refine tl_si (tq_rS (As := [.ref bk, .int v2, .int v2_35]) (rest := [.int v2, .int r_32, .ref o]) ⟨hx, hb, hml, hown, hta⟩ (tp_P.pre hK hN hL hU hI hP) lk_X9_37 (t_X9_numberIn l D cy H.size L K Γ f_36 w bk v2 v2_35 hbk (by first | omega | (simp only [Int32.toInt_toInt64]; omega) | decide | assumption)) rfl rfl ⟨Nat.le_of_ble_eq_true rfl, Nat.le_of_ble_eq_true rfl⟩ rfl hl.1 rfl (Nat.le_of_ble_eq_true rfl) dX9_cut_82 ⟨Nat.le_of_ble_eq_true rfl, Nat.le_of_ble_eq_true rfl⟩) (fun r_57 hw_56 => ?_)
            refine lv_goto (tgt := 94) hx hb dX9_cut_85 (by decide) ?_
            obtain ⟨x_59, x_60, x_61, x_62, hf_58, hx_59, hx_60, hx_61, hx_62⟩ := (show tp_o_TOKENS L K (0) 0 (Γ (16, 0, 0)) (f_36 o) from hI.at ho)
            refine tq_cv hS (hAf _ hS.1) (tq_rV (As := [.int r_32, .int v2, .int r_57]) (rest := []) ⟨hx, hb, hml, hown, hta⟩ (tp_P.pre hK hN hL hU hI hP) (tp_recv hK hP ho.1 hf_58 rfl) lk_X9_44 (t_X9_add l D cy H.size L K Γ f_36 o r_32 v2 r_57 ho) rfl rfl ⟨Nat.le_of_ble_eq_true rfl, Nat.le_of_ble_eq_true rfl⟩ rfl hl.1 rfl (Nat.le_of_ble_eq_true rfl) dX9_cut_94 ⟨Nat.le_of_ble_eq_true rfl, Nat.le_of_ble_eq_true rfl⟩) (fun f_65 H locs hw_63 hP hI hc_66 hS => ?_)
            have hD : va_D A (va_pl L f_65) := tp_D hL hAL
            have hfr := tp_fr2 hfr hc_66 (by decide)
            refine lv_goto (tgt := 168) hx hb dX9_cut_97 (by decide) ?_
            refine lv_goto (tgt := 7) hx hb dX9_cut_168 (by decide) ?_
            exact ih7 (f_65, v2_35) H locs ls (by show (401 - v2_35.toInt).toNat < (401 - v2.toInt).toNat; omega) ⟨(show 0 ≤ v2_35.toInt ∧ v2_35.toInt ≤ 401 from (by omega)), hP, hI, hfr, hS, lv_sub hl [0, 3, 4] rfl⟩
        · have c_54 : r_53.toInt = r_32.toInt := tl_eq c_54
          obtain ⟨z_67, ez_67⟩ : ∃ y : Int32, y = v2_35 + 1 := ⟨_, rfl⟩
          refine lv_iinc (v := z_67) (lv' := [(2, .int z_67), (4, .int r_32), (3, .int v2), (0, .ref o), (1, .ref bk)]) hx hb dX9_cut_63 hl (k := 0) rfl (by rw [ez_67]; rfl) (by decide) rfl (fun ls hl => ?_)
          try have iz_67 : z_67.toInt = v2_35.toInt + 1 := by rw [ez_67]; exact tl_addL v2_35 1 (by decide) (by omega) (by omega)
          refine lv_goto (tgt := 42) hx hb dX9_cut_66 (by decide) ?_
          exact ih42 (f_36, z_67) H locs ls (by show (400 - z_67.toInt).toNat < (400 - v2_35.toInt).toNat; omega) ⟨(show 0 ≤ v2.toInt ∧ v2.toInt < z_67.toInt ∧ z_67.toInt ≤ 400 from (by omega)), hP, hI, hfr, hS, lv_sub hl [0, 1, 2, 3, 4] rfl⟩
    · have c_34 : ¬ r_32.toInt = (2 : Int) := tl_neq c_34
      refine lv_iload hx hb dX9_cut_36 (lv_at hl 1 rfl) ?_
      refine lv_iconst (v := 3) hx hb dX9_cut_38 (by decide) ?_
      refine lv_icmp_ne (tgt := 100) hx hb dX9_cut_39 (by decide) (fun c_68 => ?_) (fun c_68 => ?_)
      · have c_68 : ¬ r_32.toInt = (3 : Int) := tl_neq c_68
        refine lv_iload hx hb dX9_cut_100 (lv_at hl 1 rfl) ?_
        refine lv_bipush (v := 8) hx hb dX9_cut_102 (by decide) ?_
        refine lv_icmp_eq (tgt := 114) hx hb dX9_cut_104 (by decide) (fun c_69 => ?_) (fun c_69 => ?_)
        · have c_69 : r_32.toInt = (8 : Int) := tl_eq c_69
          refine lv_aload_n hx hb dX9_cut_114 rfl (lv_at hl 4 rfl) ?_
          refine lv_iload_n hx hb dX9_cut_115 rfl (lv_at hl 0 rfl) ?_
          refine tl_si (tq_rVN hN (As := [.int z_33]) (rest := []) ⟨hx, hb, hml, hown, hta⟩ (tp_P.pre hK hN hL hU hI hP) (tp_recv hK hP hbk.1 ((tp_un hfr hbk (by decide)).trans hf_9) rfl) lk_X9_30 (t_X0_byteAt l D cy H.size L K Γ f_8 w bk z_33 hbk) rfl rfl ⟨Nat.le_of_ble_eq_true rfl, Nat.le_of_ble_eq_true rfl⟩ rfl hl.1 rfl (Nat.le_of_ble_eq_true rfl) dX9_cut_116 ⟨Nat.le_of_ble_eq_true rfl, Nat.le_of_ble_eq_true rfl⟩) (fun r_71 hw_70 => ?_)
          refine lv_bipush (v := 61) hx hb dX9_cut_119 (by decide) ?_
          refine lv_icmp_ne (tgt := 150) hx hb dX9_cut_121 (by decide) (fun c_72 => ?_) (fun c_72 => ?_)
          · have c_72 : ¬ r_71.toInt = (61 : Int) := tl_neq c_72
            refine lv_aload_n hx hb dX9_cut_150 rfl (lv_at hl 4 rfl) ?_
            refine lv_iload_n hx hb dX9_cut_151 rfl (lv_at hl 2 rfl) ?_
            refine tl_si (tq_rVN hN (As := [.int v2]) (rest := []) ⟨hx, hb, hml, hown, hta⟩ (tp_P.pre hK hN hL hU hI hP) (tp_recv hK hP hbk.1 ((tp_un hfr hbk (by decide)).trans hf_9) rfl) lk_X9_30 (t_X0_byteAt l D cy H.size L K Γ f_8 w bk v2 hbk) rfl rfl ⟨Nat.le_of_ble_eq_true rfl, Nat.le_of_ble_eq_true rfl⟩ rfl hl.1 rfl (Nat.le_of_ble_eq_true rfl) dX9_cut_152 ⟨Nat.le_of_ble_eq_true rfl, Nat.le_of_ble_eq_true rfl⟩) (fun r_74 hw_73 => ?_)
            refine lv_bipush (v := 32) hx hb dX9_cut_155 (by decide) ?_
            refine lv_icmp_eq (tgt := 168) hx hb dX9_cut_157 (by decide) (fun c_75 => ?_) (fun c_75 => ?_)
            · have c_75 : r_74.toInt = (32 : Int) := tl_eq c_75
              refine lv_goto (tgt := 7) hx hb dX9_cut_168 (by decide) ?_
              exact ih7 (f_8, z_33) H locs ls (by show (401 - z_33.toInt).toNat < (401 - v2.toInt).toNat; omega) ⟨(show 0 ≤ z_33.toInt ∧ z_33.toInt ≤ 401 from (by omega)), hP, hI, hfr, hS, lv_sub hl [0, 3, 4] rfl⟩
            · have c_75 : ¬ r_74.toInt = (32 : Int) := tl_neq c_75
              refine lv_aload_n hx hb dX9_cut_160 rfl (lv_at hl 3 rfl) ?_
              refine lv_iload hx hb dX9_cut_161 (lv_at hl 1 rfl) ?_
              refine lv_iload_n hx hb dX9_cut_163 rfl (lv_at hl 2 rfl) ?_
              refine lv_iconst (v := 0) hx hb dX9_cut_164 (by decide) ?_
              obtain ⟨x_77, x_78, x_79, x_80, hf_76, hx_77, hx_78, hx_79, hx_80⟩ := (show tp_o_TOKENS L K (0) 0 (Γ (16, 0, 0)) (f_8 o) from hI.at ho)
              refine tq_cv hS (hAf _ hS.1) (tq_rV (As := [.int r_32, .int v2, .int 0]) (rest := []) ⟨hx, hb, hml, hown, hta⟩ (tp_P.pre hK hN hL hU hI hP) (tp_recv hK hP ho.1 hf_76 rfl) lk_X9_44 (t_X9_add l D cy H.size L K Γ f_8 o r_32 v2 0 ho) rfl rfl ⟨Nat.le_of_ble_eq_true rfl, Nat.le_of_ble_eq_true rfl⟩ rfl hl.1 rfl (Nat.le_of_ble_eq_true rfl) dX9_cut_165 ⟨Nat.le_of_ble_eq_true rfl, Nat.le_of_ble_eq_true rfl⟩) (fun f_83 H locs hw_81 hP hI hc_84 hS => ?_)
              have hD : va_D A (va_pl L f_83) := tp_D hL hAL
              have hfr := tp_fr2 hfr hc_84 (by decide)
              refine lv_goto (tgt := 7) hx hb dX9_cut_168 (by decide) ?_
              exact ih7 (f_83, z_33) H locs ls (by show (401 - z_33.toInt).toNat < (401 - v2.toInt).toNat; omega) ⟨(show 0 ≤ z_33.toInt ∧ z_33.toInt ≤ 401 from (by omega)), hP, hI, hfr, hS, lv_sub hl [0, 3, 4] rfl⟩
          · have c_72 : r_71.toInt = (61 : Int) := tl_eq c_72
            obtain ⟨z_85, ez_85⟩ : ∃ y : Int32, y = z_33 + 1 := ⟨_, rfl⟩
            refine lv_iinc (v := z_85) (lv' := [(2, .int z_85), (4, .int r_32), (3, .int v2), (0, .ref o), (1, .ref bk)]) hx hb dX9_cut_124 hl (k := 0) rfl (by rw [ez_85]; rfl) (by decide) rfl (fun ls hl => ?_)
            try have iz_85 : z_85.toInt = z_33.toInt + 1 := by rw [ez_85]; exact tl_addL z_33 1 (by decide) (by omega) (by omega)
            refine lv_aload_n hx hb dX9_cut_127 rfl (lv_at hl 3 rfl) ?_
            refine lv_iload hx hb dX9_cut_128 (lv_at hl 1 rfl) ?_
            refine lv_bipush (v := 8) hx hb dX9_cut_130 (by decide) ?_
            refine lv_icmp_ne (tgt := 140) hx hb dX9_cut_132 (by decide) (fun c_86 => ?_) (fun c_86 => ?_)
            · have c_86 : ¬ r_32.toInt = (8 : Int) := tl_neq c_86
              exfalso; omega
            · have c_86 : r_32.toInt = (8 : Int) := tl_eq c_86
              refine lv_bipush (v := 9) hx hb dX9_cut_135 (by decide) ?_
              refine lv_goto (tgt := 142) hx hb dX9_cut_137 (by decide) ?_
              refine lv_iload_n hx hb dX9_cut_142 rfl (lv_at hl 2 rfl) ?_
              refine lv_iconst (v := 0) hx hb dX9_cut_143 (by decide) ?_
              obtain ⟨x_88, x_89, x_90, x_91, hf_87, hx_88, hx_89, hx_90, hx_91⟩ := (show tp_o_TOKENS L K (0) 0 (Γ (16, 0, 0)) (f_8 o) from hI.at ho)
              refine tq_cv hS (hAf _ hS.1) (tq_rV (As := [.int 9, .int v2, .int 0]) (rest := []) ⟨hx, hb, hml, hown, hta⟩ (tp_P.pre hK hN hL hU hI hP) (tp_recv hK hP ho.1 hf_87 rfl) lk_X9_44 (t_X9_add l D cy H.size L K Γ f_8 o 9 v2 0 ho) rfl rfl ⟨Nat.le_of_ble_eq_true rfl, Nat.le_of_ble_eq_true rfl⟩ rfl hl.1 rfl (Nat.le_of_ble_eq_true rfl) dX9_cut_144 ⟨Nat.le_of_ble_eq_true rfl, Nat.le_of_ble_eq_true rfl⟩) (fun f_94 H locs hw_92 hP hI hc_95 hS => ?_)
              have hD : va_D A (va_pl L f_94) := tp_D hL hAL
              have hfr := tp_fr2 hfr hc_95 (by decide)
              refine lv_goto (tgt := 168) hx hb dX9_cut_147 (by decide) ?_
              refine lv_goto (tgt := 7) hx hb dX9_cut_168 (by decide) ?_
              exact ih7 (f_94, z_85) H locs ls (by show (401 - z_85.toInt).toNat < (401 - v2.toInt).toNat; omega) ⟨(show 0 ≤ z_85.toInt ∧ z_85.toInt ≤ 401 from (by omega)), hP, hI, hfr, hS, lv_sub hl [0, 3, 4] rfl⟩
        · have c_69 : ¬ r_32.toInt = (8 : Int) := tl_neq c_69
          refine lv_iload hx hb dX9_cut_107 (lv_at hl 1 rfl) ?_
          refine lv_bipush (v := 12) hx hb dX9_cut_109 (by decide) ?_
          refine lv_icmp_ne (tgt := 150) hx hb dX9_cut_111 (by decide) (fun c_96 => ?_) (fun c_96 => ?_)
          · have c_96 : ¬ r_32.toInt = (12 : Int) := tl_neq c_96
            refine lv_aload_n hx hb dX9_cut_150 rfl (lv_at hl 4 rfl) ?_
            refine lv_iload_n hx hb dX9_cut_151 rfl (lv_at hl 2 rfl) ?_
            refine tl_si (tq_rVN hN (As := [.int v2]) (rest := []) ⟨hx, hb, hml, hown, hta⟩ (tp_P.pre hK hN hL hU hI hP) (tp_recv hK hP hbk.1 ((tp_un hfr hbk (by decide)).trans hf_9) rfl) lk_X9_30 (t_X0_byteAt l D cy H.size L K Γ f_8 w bk v2 hbk) rfl rfl ⟨Nat.le_of_ble_eq_true rfl, Nat.le_of_ble_eq_true rfl⟩ rfl hl.1 rfl (Nat.le_of_ble_eq_true rfl) dX9_cut_152 ⟨Nat.le_of_ble_eq_true rfl, Nat.le_of_ble_eq_true rfl⟩) (fun r_98 hw_97 => ?_)
            refine lv_bipush (v := 32) hx hb dX9_cut_155 (by decide) ?_
            refine lv_icmp_eq (tgt := 168) hx hb dX9_cut_157 (by decide) (fun c_99 => ?_) (fun c_99 => ?_)
            · have c_99 : r_98.toInt = (32 : Int) := tl_eq c_99
              refine lv_goto (tgt := 7) hx hb dX9_cut_168 (by decide) ?_
              exact ih7 (f_8, z_33) H locs ls (by show (401 - z_33.toInt).toNat < (401 - v2.toInt).toNat; omega) ⟨(show 0 ≤ z_33.toInt ∧ z_33.toInt ≤ 401 from (by omega)), hP, hI, hfr, hS, lv_sub hl [0, 3, 4] rfl⟩
            · have c_99 : ¬ r_98.toInt = (32 : Int) := tl_neq c_99
              refine lv_aload_n hx hb dX9_cut_160 rfl (lv_at hl 3 rfl) ?_
              refine lv_iload hx hb dX9_cut_161 (lv_at hl 1 rfl) ?_
              refine lv_iload_n hx hb dX9_cut_163 rfl (lv_at hl 2 rfl) ?_
              refine lv_iconst (v := 0) hx hb dX9_cut_164 (by decide) ?_
              obtain ⟨x_101, x_102, x_103, x_104, hf_100, hx_101, hx_102, hx_103, hx_104⟩ := (show tp_o_TOKENS L K (0) 0 (Γ (16, 0, 0)) (f_8 o) from hI.at ho)
              refine tq_cv hS (hAf _ hS.1) (tq_rV (As := [.int r_32, .int v2, .int 0]) (rest := []) ⟨hx, hb, hml, hown, hta⟩ (tp_P.pre hK hN hL hU hI hP) (tp_recv hK hP ho.1 hf_100 rfl) lk_X9_44 (t_X9_add l D cy H.size L K Γ f_8 o r_32 v2 0 ho) rfl rfl ⟨Nat.le_of_ble_eq_true rfl, Nat.le_of_ble_eq_true rfl⟩ rfl hl.1 rfl (Nat.le_of_ble_eq_true rfl) dX9_cut_165 ⟨Nat.le_of_ble_eq_true rfl, Nat.le_of_ble_eq_true rfl⟩) (fun f_107 H locs hw_105 hP hI hc_108 hS => ?_)
              have hD : va_D A (va_pl L f_107) := tp_D hL hAL
              have hfr := tp_fr2 hfr hc_108 (by decide)
              refine lv_goto (tgt := 7) hx hb dX9_cut_168 (by decide) ?_
              exact ih7 (f_107, z_33) H locs ls (by show (401 - z_33.toInt).toNat < (401 - v2.toInt).toNat; omega) ⟨(show 0 ≤ z_33.toInt ∧ z_33.toInt ≤ 401 from (by omega)), hP, hI, hfr, hS, lv_sub hl [0, 3, 4] rfl⟩
          · have c_96 : r_32.toInt = (12 : Int) := tl_eq c_96
            refine lv_aload_n hx hb dX9_cut_114 rfl (lv_at hl 4 rfl) ?_
            refine lv_iload_n hx hb dX9_cut_115 rfl (lv_at hl 0 rfl) ?_
            refine tl_si (tq_rVN hN (As := [.int z_33]) (rest := []) ⟨hx, hb, hml, hown, hta⟩ (tp_P.pre hK hN hL hU hI hP) (tp_recv hK hP hbk.1 ((tp_un hfr hbk (by decide)).trans hf_9) rfl) lk_X9_30 (t_X0_byteAt l D cy H.size L K Γ f_8 w bk z_33 hbk) rfl rfl ⟨Nat.le_of_ble_eq_true rfl, Nat.le_of_ble_eq_true rfl⟩ rfl hl.1 rfl (Nat.le_of_ble_eq_true rfl) dX9_cut_116 ⟨Nat.le_of_ble_eq_true rfl, Nat.le_of_ble_eq_true rfl⟩) (fun r_110 hw_109 => ?_)
            refine lv_bipush (v := 61) hx hb dX9_cut_119 (by decide) ?_
            refine lv_icmp_ne (tgt := 150) hx hb dX9_cut_121 (by decide) (fun c_111 => ?_) (fun c_111 => ?_)
            · have c_111 : ¬ r_110.toInt = (61 : Int) := tl_neq c_111
              refine lv_aload_n hx hb dX9_cut_150 rfl (lv_at hl 4 rfl) ?_
              refine lv_iload_n hx hb dX9_cut_151 rfl (lv_at hl 2 rfl) ?_
              refine tl_si (tq_rVN hN (As := [.int v2]) (rest := []) ⟨hx, hb, hml, hown, hta⟩ (tp_P.pre hK hN hL hU hI hP) (tp_recv hK hP hbk.1 ((tp_un hfr hbk (by decide)).trans hf_9) rfl) lk_X9_30 (t_X0_byteAt l D cy H.size L K Γ f_8 w bk v2 hbk) rfl rfl ⟨Nat.le_of_ble_eq_true rfl, Nat.le_of_ble_eq_true rfl⟩ rfl hl.1 rfl (Nat.le_of_ble_eq_true rfl) dX9_cut_152 ⟨Nat.le_of_ble_eq_true rfl, Nat.le_of_ble_eq_true rfl⟩) (fun r_113 hw_112 => ?_)
              refine lv_bipush (v := 32) hx hb dX9_cut_155 (by decide) ?_
              refine lv_icmp_eq (tgt := 168) hx hb dX9_cut_157 (by decide) (fun c_114 => ?_) (fun c_114 => ?_)
              · have c_114 : r_113.toInt = (32 : Int) := tl_eq c_114
                refine lv_goto (tgt := 7) hx hb dX9_cut_168 (by decide) ?_
                exact ih7 (f_8, z_33) H locs ls (by show (401 - z_33.toInt).toNat < (401 - v2.toInt).toNat; omega) ⟨(show 0 ≤ z_33.toInt ∧ z_33.toInt ≤ 401 from (by omega)), hP, hI, hfr, hS, lv_sub hl [0, 3, 4] rfl⟩
              · have c_114 : ¬ r_113.toInt = (32 : Int) := tl_neq c_114
                refine lv_aload_n hx hb dX9_cut_160 rfl (lv_at hl 3 rfl) ?_
                refine lv_iload hx hb dX9_cut_161 (lv_at hl 1 rfl) ?_
                refine lv_iload_n hx hb dX9_cut_163 rfl (lv_at hl 2 rfl) ?_
                refine lv_iconst (v := 0) hx hb dX9_cut_164 (by decide) ?_
                obtain ⟨x_116, x_117, x_118, x_119, hf_115, hx_116, hx_117, hx_118, hx_119⟩ := (show tp_o_TOKENS L K (0) 0 (Γ (16, 0, 0)) (f_8 o) from hI.at ho)
                refine tq_cv hS (hAf _ hS.1) (tq_rV (As := [.int r_32, .int v2, .int 0]) (rest := []) ⟨hx, hb, hml, hown, hta⟩ (tp_P.pre hK hN hL hU hI hP) (tp_recv hK hP ho.1 hf_115 rfl) lk_X9_44 (t_X9_add l D cy H.size L K Γ f_8 o r_32 v2 0 ho) rfl rfl ⟨Nat.le_of_ble_eq_true rfl, Nat.le_of_ble_eq_true rfl⟩ rfl hl.1 rfl (Nat.le_of_ble_eq_true rfl) dX9_cut_165 ⟨Nat.le_of_ble_eq_true rfl, Nat.le_of_ble_eq_true rfl⟩) (fun f_122 H locs hw_120 hP hI hc_123 hS => ?_)
                have hD : va_D A (va_pl L f_122) := tp_D hL hAL
                have hfr := tp_fr2 hfr hc_123 (by decide)
                refine lv_goto (tgt := 7) hx hb dX9_cut_168 (by decide) ?_
                exact ih7 (f_122, z_33) H locs ls (by show (401 - z_33.toInt).toNat < (401 - v2.toInt).toNat; omega) ⟨(show 0 ≤ z_33.toInt ∧ z_33.toInt ≤ 401 from (by omega)), hP, hI, hfr, hS, lv_sub hl [0, 3, 4] rfl⟩
            · have c_111 : r_110.toInt = (61 : Int) := tl_eq c_111
              obtain ⟨z_124, ez_124⟩ : ∃ y : Int32, y = z_33 + 1 := ⟨_, rfl⟩
              refine lv_iinc (v := z_124) (lv' := [(2, .int z_124), (4, .int r_32), (3, .int v2), (0, .ref o), (1, .ref bk)]) hx hb dX9_cut_124 hl (k := 0) rfl (by rw [ez_124]; rfl) (by decide) rfl (fun ls hl => ?_)
              try have iz_124 : z_124.toInt = z_33.toInt + 1 := by rw [ez_124]; exact tl_addL z_33 1 (by decide) (by omega) (by omega)
              refine lv_aload_n hx hb dX9_cut_127 rfl (lv_at hl 3 rfl) ?_
              refine lv_iload hx hb dX9_cut_128 (lv_at hl 1 rfl) ?_
              refine lv_bipush (v := 8) hx hb dX9_cut_130 (by decide) ?_
              refine lv_icmp_ne (tgt := 140) hx hb dX9_cut_132 (by decide) (fun c_125 => ?_) (fun c_125 => ?_)
              · have c_125 : ¬ r_32.toInt = (8 : Int) := tl_neq c_125
                refine lv_bipush (v := 11) hx hb dX9_cut_140 (by decide) ?_
                refine lv_iload_n hx hb dX9_cut_142 rfl (lv_at hl 2 rfl) ?_
                refine lv_iconst (v := 0) hx hb dX9_cut_143 (by decide) ?_
                obtain ⟨x_127, x_128, x_129, x_130, hf_126, hx_127, hx_128, hx_129, hx_130⟩ := (show tp_o_TOKENS L K (0) 0 (Γ (16, 0, 0)) (f_8 o) from hI.at ho)
                refine tq_cv hS (hAf _ hS.1) (tq_rV (As := [.int 11, .int v2, .int 0]) (rest := []) ⟨hx, hb, hml, hown, hta⟩ (tp_P.pre hK hN hL hU hI hP) (tp_recv hK hP ho.1 hf_126 rfl) lk_X9_44 (t_X9_add l D cy H.size L K Γ f_8 o 11 v2 0 ho) rfl rfl ⟨Nat.le_of_ble_eq_true rfl, Nat.le_of_ble_eq_true rfl⟩ rfl hl.1 rfl (Nat.le_of_ble_eq_true rfl) dX9_cut_144 ⟨Nat.le_of_ble_eq_true rfl, Nat.le_of_ble_eq_true rfl⟩) (fun f_133 H locs hw_131 hP hI hc_134 hS => ?_)
                have hD : va_D A (va_pl L f_133) := tp_D hL hAL
                have hfr := tp_fr2 hfr hc_134 (by decide)
                refine lv_goto (tgt := 168) hx hb dX9_cut_147 (by decide) ?_
                refine lv_goto (tgt := 7) hx hb dX9_cut_168 (by decide) ?_
                exact ih7 (f_133, z_124) H locs ls (by show (401 - z_124.toInt).toNat < (401 - v2.toInt).toNat; omega) ⟨(show 0 ≤ z_124.toInt ∧ z_124.toInt ≤ 401 from (by omega)), hP, hI, hfr, hS, lv_sub hl [0, 3, 4] rfl⟩
              · have c_125 : r_32.toInt = (8 : Int) := tl_eq c_125
                exfalso; omega
      · have c_68 : r_32.toInt = (3 : Int) := tl_eq c_68
        refine tl_ind (G := fun H locs ls => W p l e ((headSpec (tl_w yX9_cut cX9_cut 5 none) ({ frames := 6, cells := 0, slots := 0, locals := 133 })).room) s m #[.ref o, .ref bk] below meth c H locs 0 0 (MQ below (va_Qv (fun (u : Nat → va_E) => True) (tp_B D cy L K Γ f [16, 17]) A) #[.ref o, .ref bk] s 0 0 A) (F0 m 42 ls [])) (α := (Nat → va_E) × Int32) (fun aq => (400 - aq.2.toInt).toNat) (fun aq H locs ls => (0 ≤ v2.toInt ∧ v2.toInt < aq.2.toInt ∧ aq.2.toInt ≤ 400) ∧ va_P D vwCl (va_pl L aq.1) H ∧ tp_I cy L K Γ aq.1 ∧ (∀ b, (K b).1 ∉ ([16, 17] : List Nat) → aq.1 b = f b) ∧ va_S A s.heap H locs ∧ lv_has ls 5 [(2, .int aq.2), (4, .int r_32), (3, .int v2), (0, .ref o), (1, .ref bk)]) ?_ (f_8, z_33) H locs ls ⟨(show 0 ≤ v2.toInt ∧ v2.toInt < z_33.toInt ∧ z_33.toInt ≤ 400 from (by omega)), hP, hI, hfr, hS, lv_sub hl [0, 1, 2, 3, 4] rfl⟩
        rintro ⟨f_136, v2_135⟩ H locs ls ⟨h6, hP, hI, hfr, hS, hl⟩ ih42
        have hP : va_P D vwCl (va_pl L f_136) H := hP
        have hI : tp_I cy L K Γ f_136 := hI
        have hfr : ∀ b, (K b).1 ∉ ([16, 17] : List Nat) → f_136 b = f b := hfr
        have hD : va_D A (va_pl L f_136) := tp_D hL hAL
        have h6 : 0 ≤ v2.toInt ∧ v2.toInt < v2_135.toInt ∧ v2_135.toInt ≤ 400 := h6
        have hl : lv_has ls 5 [(2, .int v2_135), (4, .int r_32), (3, .int v2), (0, .ref o), (1, .ref bk)] := hl
        refine lv_iload_n hx hb dX9_cut_42 rfl (lv_at hl 0 rfl) ?_
        refine lv_aload_n hx hb dX9_cut_43 rfl (lv_at hl 4 rfl) ?_
        refine tp_getN (cy := cy) (ci := 0) (v := .int x_18) (C := RX0) (T := TX0) (N := 9) hx hb hta inlX0 hown hK hP hbk.1 ((tp_un hfr hbk (by decide)).trans hf_9) rfl 8 (by decide) (va_Nw.use rfl (hN.1 25 _ nk_25)) (fun _ h9 => h9) rfl dX9_cut_44 ?_
        refine lv_icmp_ge (tgt := 69) hx hb dX9_cut_47 (by decide) (fun c_137 => ?_) (fun c_137 => ?_)
        · have c_137 : x_18.toInt ≤ v2_135.toInt := tl_le c_137
          refine lv_aload_n hx hb dX9_cut_69 rfl (lv_at hl 3 rfl) ?_
          refine lv_iload hx hb dX9_cut_70 (lv_at hl 1 rfl) ?_
          refine lv_iload_n hx hb dX9_cut_72 rfl (lv_at hl 2 rfl) ?_
          refine lv_iload hx hb dX9_cut_73 (lv_at hl 1 rfl) ?_
          refine lv_iconst (v := 2) hx hb dX9_cut_75 (by decide) ?_
          refine lv_icmp_ne (tgt := 88) hx hb dX9_cut_76 (by decide) (fun c_138 => ?_) (fun c_138 => ?_)
          · have c_138 : ¬ r_32.toInt = (2 : Int) := tl_neq c_138
            refine lv_aload_n hx hb dX9_cut_88 rfl (lv_at hl 4 rfl) ?_
            refine lv_iload_n hx hb dX9_cut_89 rfl (lv_at hl 2 rfl) ?_
            refine lv_iload_n hx hb dX9_cut_90 rfl (lv_at hl 0 rfl) ?_
            refine tl_si (tq_rS (As := [.ref bk, .int v2, .int v2_135]) (rest := [.int v2, .int r_32, .ref o]) ⟨hx, hb, hml, hown, hta⟩ (tp_PS.pre hK hN hL hU hI hP hZ hS (hAf _ hS.1)) lk_X9_41 (t_X9_wordIn l D cy H.size L K Γ f_136 Z w bk v2 v2_135 hbk) rfl rfl ⟨Nat.le_of_ble_eq_true rfl, Nat.le_of_ble_eq_true rfl⟩ rfl hl.1 rfl (Nat.le_of_ble_eq_true rfl) dX9_cut_91 ⟨Nat.le_of_ble_eq_true rfl, Nat.le_of_ble_eq_true rfl⟩) (fun r_140 hw_139 => ?_)
            obtain ⟨x_142, x_143, x_144, x_145, hf_141, hx_142, hx_143, hx_144, hx_145⟩ := (show tp_o_TOKENS L K (0) 0 (Γ (16, 0, 0)) (f_136 o) from hI.at ho)
            refine tq_cv hS (hAf _ hS.1) (tq_rV (As := [.int r_32, .int v2, .int r_140]) (rest := []) ⟨hx, hb, hml, hown, hta⟩ (tp_P.pre hK hN hL hU hI hP) (tp_recv hK hP ho.1 hf_141 rfl) lk_X9_44 (t_X9_add l D cy H.size L K Γ f_136 o r_32 v2 r_140 ho) rfl rfl ⟨Nat.le_of_ble_eq_true rfl, Nat.le_of_ble_eq_true rfl⟩ rfl hl.1 rfl (Nat.le_of_ble_eq_true rfl) dX9_cut_94 ⟨Nat.le_of_ble_eq_true rfl, Nat.le_of_ble_eq_true rfl⟩) (fun f_148 H locs hw_146 hP hI hc_149 hS => ?_)
            have hD : va_D A (va_pl L f_148) := tp_D hL hAL
            have hfr := tp_fr2 hfr hc_149 (by decide)
            refine lv_goto (tgt := 168) hx hb dX9_cut_97 (by decide) ?_
            refine lv_goto (tgt := 7) hx hb dX9_cut_168 (by decide) ?_
            exact ih7 (f_148, v2_135) H locs ls (by show (401 - v2_135.toInt).toNat < (401 - v2.toInt).toNat; omega) ⟨(show 0 ≤ v2_135.toInt ∧ v2_135.toInt ≤ 401 from (by omega)), hP, hI, hfr, hS, lv_sub hl [0, 3, 4] rfl⟩
          · have c_138 : r_32.toInt = (2 : Int) := tl_eq c_138
            exfalso; omega
        · have c_137 : v2_135.toInt < x_18.toInt := tl_nle c_137
          refine lv_aload_n hx hb dX9_cut_50 rfl (lv_at hl 4 rfl) ?_
          refine lv_iload_n hx hb dX9_cut_51 rfl (lv_at hl 0 rfl) ?_
          refine tl_si (tq_rVN hN (As := [.int v2_135]) (rest := []) ⟨hx, hb, hml, hown, hta⟩ (tp_P.pre hK hN hL hU hI hP) (tp_recv hK hP hbk.1 ((tp_un hfr hbk (by decide)).trans hf_9) rfl) lk_X9_30 (t_X0_byteAt l D cy H.size L K Γ f_136 w bk v2_135 hbk) rfl rfl ⟨Nat.le_of_ble_eq_true rfl, Nat.le_of_ble_eq_true rfl⟩ rfl hl.1 rfl (Nat.le_of_ble_eq_true rfl) dX9_cut_52 ⟨Nat.le_of_ble_eq_true rfl, Nat.le_of_ble_eq_true rfl⟩) (fun r_151 hw_150 => ?_)
          refine tl_si (tq_rS (As := [.int r_151]) (rest := []) ⟨hx, hb, hml, hown, hta⟩ (tp_P.pre hK hN hL hU hI hP) lk_X9_34 (t_X9_sortOf l D cy H.size L K Γ f_136 r_151 ) rfl rfl ⟨Nat.le_of_ble_eq_true rfl, Nat.le_of_ble_eq_true rfl⟩ rfl hl.1 rfl (Nat.le_of_ble_eq_true rfl) dX9_cut_55 ⟨Nat.le_of_ble_eq_true rfl, Nat.le_of_ble_eq_true rfl⟩) (fun r_153 hw_152 => ?_)
          refine lv_iload hx hb dX9_cut_58 (lv_at hl 1 rfl) ?_
          refine lv_icmp_ne (tgt := 69) hx hb dX9_cut_60 (by decide) (fun c_154 => ?_) (fun c_154 => ?_)
          · have c_154 : ¬ r_153.toInt = r_32.toInt := tl_neq c_154
            refine lv_aload_n hx hb dX9_cut_69 rfl (lv_at hl 3 rfl) ?_
            refine lv_iload hx hb dX9_cut_70 (lv_at hl 1 rfl) ?_
            refine lv_iload_n hx hb dX9_cut_72 rfl (lv_at hl 2 rfl) ?_
            refine lv_iload hx hb dX9_cut_73 (lv_at hl 1 rfl) ?_
            refine lv_iconst (v := 2) hx hb dX9_cut_75 (by decide) ?_
            refine lv_icmp_ne (tgt := 88) hx hb dX9_cut_76 (by decide) (fun c_155 => ?_) (fun c_155 => ?_)
            · have c_155 : ¬ r_32.toInt = (2 : Int) := tl_neq c_155
              refine lv_aload_n hx hb dX9_cut_88 rfl (lv_at hl 4 rfl) ?_
              refine lv_iload_n hx hb dX9_cut_89 rfl (lv_at hl 2 rfl) ?_
              refine lv_iload_n hx hb dX9_cut_90 rfl (lv_at hl 0 rfl) ?_
              refine tl_si (tq_rS (As := [.ref bk, .int v2, .int v2_135]) (rest := [.int v2, .int r_32, .ref o]) ⟨hx, hb, hml, hown, hta⟩ (tp_PS.pre hK hN hL hU hI hP hZ hS (hAf _ hS.1)) lk_X9_41 (t_X9_wordIn l D cy H.size L K Γ f_136 Z w bk v2 v2_135 hbk) rfl rfl ⟨Nat.le_of_ble_eq_true rfl, Nat.le_of_ble_eq_true rfl⟩ rfl hl.1 rfl (Nat.le_of_ble_eq_true rfl) dX9_cut_91 ⟨Nat.le_of_ble_eq_true rfl, Nat.le_of_ble_eq_true rfl⟩) (fun r_157 hw_156 => ?_)
              obtain ⟨x_159, x_160, x_161, x_162, hf_158, hx_159, hx_160, hx_161, hx_162⟩ := (show tp_o_TOKENS L K (0) 0 (Γ (16, 0, 0)) (f_136 o) from hI.at ho)
              refine tq_cv hS (hAf _ hS.1) (tq_rV (As := [.int r_32, .int v2, .int r_157]) (rest := []) ⟨hx, hb, hml, hown, hta⟩ (tp_P.pre hK hN hL hU hI hP) (tp_recv hK hP ho.1 hf_158 rfl) lk_X9_44 (t_X9_add l D cy H.size L K Γ f_136 o r_32 v2 r_157 ho) rfl rfl ⟨Nat.le_of_ble_eq_true rfl, Nat.le_of_ble_eq_true rfl⟩ rfl hl.1 rfl (Nat.le_of_ble_eq_true rfl) dX9_cut_94 ⟨Nat.le_of_ble_eq_true rfl, Nat.le_of_ble_eq_true rfl⟩) (fun f_165 H locs hw_163 hP hI hc_166 hS => ?_)
              have hD : va_D A (va_pl L f_165) := tp_D hL hAL
              have hfr := tp_fr2 hfr hc_166 (by decide)
              refine lv_goto (tgt := 168) hx hb dX9_cut_97 (by decide) ?_
              refine lv_goto (tgt := 7) hx hb dX9_cut_168 (by decide) ?_
              exact ih7 (f_165, v2_135) H locs ls (by show (401 - v2_135.toInt).toNat < (401 - v2.toInt).toNat; omega) ⟨(show 0 ≤ v2_135.toInt ∧ v2_135.toInt ≤ 401 from (by omega)), hP, hI, hfr, hS, lv_sub hl [0, 3, 4] rfl⟩
            · have c_155 : r_32.toInt = (2 : Int) := tl_eq c_155
              exfalso; omega
          · have c_154 : r_153.toInt = r_32.toInt := tl_eq c_154
            obtain ⟨z_167, ez_167⟩ : ∃ y : Int32, y = v2_135 + 1 := ⟨_, rfl⟩
            refine lv_iinc (v := z_167) (lv' := [(2, .int z_167), (4, .int r_32), (3, .int v2), (0, .ref o), (1, .ref bk)]) hx hb dX9_cut_63 hl (k := 0) rfl (by rw [ez_167]; rfl) (by decide) rfl (fun ls hl => ?_)
            try have iz_167 : z_167.toInt = v2_135.toInt + 1 := by rw [ez_167]; exact tl_addL v2_135 1 (by decide) (by omega) (by omega)
            refine lv_goto (tgt := 42) hx hb dX9_cut_66 (by decide) ?_
            exact ih42 (f_136, z_167) H locs ls (by show (400 - z_167.toInt).toNat < (400 - v2_135.toInt).toNat; omega) ⟨(show 0 ≤ v2.toInt ∧ v2.toInt < z_167.toInt ∧ z_167.toInt ≤ 400 from (by omega)), hP, hI, hfr, hS, lv_sub hl [0, 1, 2, 3, 4] rfl⟩
