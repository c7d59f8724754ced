theorem dX10_gapLength_0 : decode cX10_gapLength 0 = .ok (.aload_n 0, 1) := by decide +kernel
theorem dX10_gapLength_1 : decode cX10_gapLength 1 = .ok (.getfield 81, 3) := by decide +kernel
theorem dX10_gapLength_4 : decode cX10_gapLength 4 = .ok (.aload_n 0, 1) := by decide +kernel
theorem dX10_gapLength_5 : decode cX10_gapLength 5 = .ok (.getfield 75, 3) := by decide +kernel
theorem dX10_gapLength_8 : decode cX10_gapLength 8 = .ok (.isub, 1) := by decide +kernel
theorem dX10_gapLength_9 : decode cX10_gapLength 9 = .ok (.iconst 1, 1) := by decide +kernel
theorem dX10_gapLength_10 : decode cX10_gapLength 10 = .ok (.iadd, 1) := by decide +kernel
theorem dX10_gapLength_11 : decode cX10_gapLength 11 = .ok (.ireturn, 1) := by decide +kernel
theorem wk_848 : Cond.fieldLink RX10 75 "ThinLine$View" "gapFrom" "I" ∈ tl_L := List.mem_filter.mpr ⟨lw_m2 (i := 76) rfl, rfl⟩
theorem wk_849 : Cond.fieldLink RX10 81 "ThinLine$View" "gapTo" "I" ∈ tl_L := List.mem_filter.mpr ⟨lw_m2 (i := 78) rfl, rfl⟩
theorem dX10_isInGap_0 : decode cX10_isInGap 0 = .ok (.iload_n 1, 1) := by decide +kernel
theorem dX10_isInGap_1 : decode cX10_isInGap 1 = .ok (.aload_n 0, 1) := by decide +kernel
theorem dX10_isInGap_2 : decode cX10_isInGap 2 = .ok (.getfield 75, 3) := by decide +kernel
theorem dX10_isInGap_5 : decode cX10_isInGap 5 = .ok (.if_icmp .lt 15, 3) := by decide +kernel
theorem dX10_isInGap_8 : decode cX10_isInGap 8 = .ok (.iload_n 1, 1) := by decide +kernel
theorem dX10_isInGap_9 : decode cX10_isInGap 9 = .ok (.aload_n 0, 1) := by decide +kernel
theorem dX10_isInGap_10 : decode cX10_isInGap 10 = .ok (.getfield 81, 3) := by decide +kernel
theorem dX10_isInGap_13 : decode cX10_isInGap 13 = .ok (.if_icmp .gt 7, 3) := by decide +kernel
theorem dX10_isInGap_16 : decode cX10_isInGap 16 = .ok (.iconst 1, 1) := by decide +kernel
theorem dX10_isInGap_17 : decode cX10_isInGap 17 = .ok (.goto 4, 3) := by decide +kernel
theorem dX10_isInGap_20 : decode cX10_isInGap 20 = .ok (.iconst 0, 1) := by decide +kernel
theorem dX10_isInGap_21 : decode cX10_isInGap 21 = .ok (.ireturn, 1) := by decide +kernel
theorem dX10_isTold_0 : decode cX10_isTold 0 = .ok (.iload_n 1, 1) := by decide +kernel
theorem dX10_isTold_1 : decode cX10_isTold 1 = .ok (.invokestatic 84, 3) := by decide +kernel
theorem dX10_isTold_4 : decode cX10_isTold 4 = .ok (.ifCond .eq 16, 3) := by decide +kernel
theorem dX10_isTold_7 : decode cX10_isTold 7 = .ok (.aload_n 0, 1) := by decide +kernel
theorem dX10_isTold_8 : decode cX10_isTold 8 = .ok (.getfield 9, 3) := by decide +kernel
theorem dX10_isTold_11 : decode cX10_isTold 11 = .ok (.iload_n 1, 1) := by decide +kernel
theorem dX10_isTold_12 : decode cX10_isTold 12 = .ok (.baload, 1) := by decide +kernel
theorem dX10_isTold_13 : decode cX10_isTold 13 = .ok (.ifCond .eq 7, 3) := by decide +kernel
theorem dX10_isTold_16 : decode cX10_isTold 16 = .ok (.iconst 1, 1) := by decide +kernel
theorem dX10_isTold_17 : decode cX10_isTold 17 = .ok (.goto 4, 3) := by decide +kernel
theorem dX10_isTold_20 : decode cX10_isTold 20 = .ok (.iconst 0, 1) := by decide +kernel
theorem dX10_isTold_21 : decode cX10_isTold 21 = .ok (.ireturn, 1) := by decide +kernel
theorem wk_131 : Cond.fieldLink RX10 9 "ThinLine$View" "told" "[Z" ∈ tl_L := List.mem_filter.mpr ⟨lw_m2 (i := 59) rfl, rfl⟩
theorem lk_X10_84 : tl_kSN RX10 84 yX11_isColour "ThinLine" cX11_isColour 1 (some .boolean) 1 118 := ⟨wk_236, by decide +kernel, wk_235, wk_2, ⟨by decide +kernel, by decide +kernel, by decide +kernel⟩⟩
theorem dX10_isUsed_0 : decode cX10_isUsed 0 = .ok (.iload_n 1, 1) := by decide +kernel
theorem dX10_isUsed_1 : decode cX10_isUsed 1 = .ok (.invokestatic 84, 3) := by decide +kernel
theorem dX10_isUsed_4 : decode cX10_isUsed 4 = .ok (.ifCond .eq 16, 3) := by decide +kernel
theorem dX10_isUsed_7 : decode cX10_isUsed 7 = .ok (.aload_n 0, 1) := by decide +kernel
theorem dX10_isUsed_8 : decode cX10_isUsed 8 = .ok (.getfield 18, 3) := by decide +kernel
theorem dX10_isUsed_11 : decode cX10_isUsed 11 = .ok (.iload_n 1, 1) := by decide +kernel
theorem dX10_isUsed_12 : decode cX10_isUsed 12 = .ok (.baload, 1) := by decide +kernel
theorem dX10_isUsed_13 : decode cX10_isUsed 13 = .ok (.ifCond .eq 7, 3) := by decide +kernel
theorem dX10_isUsed_16 : decode cX10_isUsed 16 = .ok (.iconst 1, 1) := by decide +kernel
theorem dX10_isUsed_17 : decode cX10_isUsed 17 = .ok (.goto 4, 3) := by decide +kernel
theorem dX10_isUsed_20 : decode cX10_isUsed 20 = .ok (.iconst 0, 1) := by decide +kernel
theorem dX10_isUsed_21 : decode cX10_isUsed 21 = .ok (.ireturn, 1) := by decide +kernel
theorem wk_133 : Cond.fieldLink RX10 18 "ThinLine$View" "used" "[Z" ∈ tl_L := List.mem_filter.mpr ⟨lw_m2 (i := 62) rfl, rfl⟩
theorem dX10_leftAt_0 : decode cX10_leftAt 0 = .ok (.iload_n 1, 1) := by decide +kernel
theorem dX10_leftAt_1 : decode cX10_leftAt 1 = .ok (.invokestatic 84, 3) := by decide +kernel
theorem dX10_leftAt_4 : decode cX10_leftAt 4 = .ok (.ifCond .eq 19, 3) := by decide +kernel
theorem dX10_leftAt_7 : decode cX10_leftAt 7 = .ok (.aload_n 0, 1) := by decide +kernel
theorem dX10_leftAt_8 : decode cX10_leftAt 8 = .ok (.getfield 21, 3) := by decide +kernel
theorem dX10_leftAt_11 : decode cX10_leftAt 11 = .ok (.iload_n 1, 1) := by decide +kernel
theorem dX10_leftAt_12 : decode cX10_leftAt 12 = .ok (.iaload, 1) := by decide +kernel
theorem dX10_leftAt_13 : decode cX10_leftAt 13 = .ok (.aload_n 0, 1) := by decide +kernel
theorem dX10_leftAt_14 : decode cX10_leftAt 14 = .ok (.getfield 25, 3) := by decide +kernel
theorem dX10_leftAt_17 : decode cX10_leftAt 17 = .ok (.iload_n 1, 1) := by decide +kernel
theorem dX10_leftAt_18 : decode cX10_leftAt 18 = .ok (.iaload, 1) := by decide +kernel
theorem dX10_leftAt_19 : decode cX10_leftAt 19 = .ok (.isub, 1) := by decide +kernel
theorem dX10_leftAt_20 : decode cX10_leftAt 20 = .ok (.goto 4, 3) := by decide +kernel
theorem dX10_leftAt_23 : decode cX10_leftAt 23 = .ok (.iconst 0, 1) := by decide +kernel
theorem dX10_leftAt_24 : decode cX10_leftAt 24 = .ok (.ireturn, 1) := by decide +kernel
theorem wk_134 : Cond.fieldLink RX10 21 "ThinLine$View" "seen" "[I" ∈ tl_L := List.mem_filter.mpr ⟨lw_m2 (i := 64) rfl, rfl⟩
theorem wk_135 : Cond.fieldLink RX10 25 "ThinLine$View" "height" "[I" ∈ tl_L := List.mem_filter.mpr ⟨lw_m2 (i := 67) rfl, rfl⟩
theorem dX10_frameBy_0 : decode cX10_frameBy 0 = .ok (.aload_n 0, 1) := by decide +kernel
theorem dX10_frameBy_1 : decode cX10_frameBy 1 = .ok (.aload_n 1, 1) := by decide +kernel
theorem dX10_frameBy_2 : decode cX10_frameBy 2 = .ok (.iconst 4, 1) := by decide +kernel
theorem dX10_frameBy_3 : decode cX10_frameBy 3 = .ok (.bipush 12, 2) := by decide +kernel
theorem dX10_frameBy_5 : decode cX10_frameBy 5 = .ok (.invokevirtual 65, 3) := by decide +kernel
theorem dX10_frameBy_8 : decode cX10_frameBy 8 = .ok (.putfield 69, 3) := by decide +kernel
theorem dX10_frameBy_11 : decode cX10_frameBy 11 = .ok (.aload_n 0, 1) := by decide +kernel
theorem dX10_frameBy_12 : decode cX10_frameBy 12 = .ok (.aload_n 1, 1) := by decide +kernel
theorem dX10_frameBy_13 : decode cX10_frameBy 13 = .ok (.bipush 6, 2) := by decide +kernel
theorem dX10_frameBy_15 : decode cX10_frameBy 15 = .ok (.iconst 3, 1) := by decide +kernel
theorem dX10_frameBy_16 : decode cX10_frameBy 16 = .ok (.invokevirtual 65, 3) := by decide +kernel
theorem dX10_frameBy_19 : decode cX10_frameBy 19 = .ok (.putfield 72, 3) := by decide +kernel
theorem dX10_frameBy_22 : decode cX10_frameBy 22 = .ok (.aload_n 0, 1) := by decide +kernel
theorem dX10_frameBy_23 : decode cX10_frameBy 23 = .ok (.aload_n 1, 1) := by decide +kernel
theorem dX10_frameBy_24 : decode cX10_frameBy 24 = .ok (.iconst 5, 1) := by decide +kernel
theorem dX10_frameBy_25 : decode cX10_frameBy 25 = .ok (.sipush 140, 3) := by decide +kernel
theorem dX10_frameBy_28 : decode cX10_frameBy 28 = .ok (.invokevirtual 65, 3) := by decide +kernel
theorem dX10_frameBy_31 : decode cX10_frameBy 31 = .ok (.putfield 75, 3) := by decide +kernel
theorem dX10_frameBy_34 : decode cX10_frameBy 34 = .ok (.aload_n 0, 1) := by decide +kernel
theorem dX10_frameBy_35 : decode cX10_frameBy 35 = .ok (.aload_n 1, 1) := by decide +kernel
theorem dX10_frameBy_36 : decode cX10_frameBy 36 = .ok (.iconst 5, 1) := by decide +kernel
theorem dX10_frameBy_37 : decode cX10_frameBy 37 = .ok (.sipush 159, 3) := by decide +kernel
theorem dX10_frameBy_40 : decode cX10_frameBy 40 = .ok (.invokevirtual 78, 3) := by decide +kernel
theorem dX10_frameBy_43 : decode cX10_frameBy 43 = .ok (.putfield 81, 3) := by decide +kernel
theorem dX10_frameBy_46 : decode cX10_frameBy 46 = .ok (.return_, 1) := by decide +kernel
theorem wk_706 : Cond.instanceMethod yX7_firstOf ∈ tl_L := List.mem_filter.mpr ⟨lw_m4 (i := 30) rfl, rfl⟩
theorem wk_707 : Cond.selects RX7 yX7_firstOf yX7_firstOf ∈ tl_L := List.mem_filter.mpr ⟨lw_s3 (i := 6) (q := (yX7_firstOf, 9)) rfl, rfl⟩
theorem wk_708 : Cond.code yX7_firstOf cX7_firstOf 4 (some .int) ∈ tl_L := List.mem_filter.mpr ⟨lw_m4 (i := 31) rfl, rfl⟩
theorem wk_710 : Cond.instanceMethod yX7_secondOf ∈ tl_L := List.mem_filter.mpr ⟨lw_m4 (i := 35) rfl, rfl⟩
theorem wk_711 : Cond.selects RX7 yX7_secondOf yX7_secondOf ∈ tl_L := List.mem_filter.mpr ⟨lw_s3 (i := 7) (q := (yX7_secondOf, 9)) rfl, rfl⟩
theorem wk_712 : Cond.code yX7_secondOf cX7_secondOf 4 (some .int) ∈ tl_L := List.mem_filter.mpr ⟨lw_m4 (i := 36) rfl, rfl⟩
theorem wk_846 : Cond.fieldLink RX10 69 "ThinLine$View" "bends" "I" ∈ tl_L := List.mem_filter.mpr ⟨lw_m2 (i := 74) rfl, rfl⟩
theorem wk_847 : Cond.fieldLink RX10 72 "ThinLine$View" "wide" "I" ∈ tl_L := List.mem_filter.mpr ⟨lw_m2 (i := 75) rfl, rfl⟩
theorem lk_X10_65 : tl_kVN RX10 65 RX7 yX7_firstOf "ThinLine" cX7_firstOf 4 (some .int) 2 113 := ⟨wk_708, by decide +kernel, wk_706, wk_707, wk_29, ⟨by decide +kernel, by decide +kernel, by decide +kernel⟩⟩
theorem lk_X10_78 : tl_kVN RX10 78 RX7 yX7_secondOf "ThinLine" cX7_secondOf 4 (some .int) 2 114 := ⟨wk_712, by decide +kernel, wk_710, wk_711, wk_29, ⟨by decide +kernel, by decide +kernel, by decide +kernel⟩⟩
theorem dX10_tally_0 : decode cX10_tally 0 = .ok (.iconst 0, 1) := by decide +kernel
theorem dX10_tally_1 : decode cX10_tally 1 = .ok (.istore_n 1, 1) := by decide +kernel
theorem dX10_tally_2 : decode cX10_tally 2 = .ok (.iload_n 1, 1) := by decide +kernel
theorem dX10_tally_3 : decode cX10_tally 3 = .ok (.sipush 300, 3) := by decide +kernel
theorem dX10_tally_6 : decode cX10_tally 6 = .ok (.if_icmp .ge 86, 3) := by decide +kernel
theorem dX10_tally_9 : decode cX10_tally 9 = .ok (.aload_n 0, 1) := by decide +kernel
theorem dX10_tally_10 : decode cX10_tally 10 = .ok (.getfield 9, 3) := by decide +kernel
theorem dX10_tally_13 : decode cX10_tally 13 = .ok (.iload_n 1, 1) := by decide +kernel
theorem dX10_tally_14 : decode cX10_tally 14 = .ok (.baload, 1) := by decide +kernel
theorem dX10_tally_15 : decode cX10_tally 15 = .ok (.ifCond .eq 16, 3) := by decide +kernel
theorem dX10_tally_18 : decode cX10_tally 18 = .ok (.aload_n 0, 1) := by decide +kernel
theorem dX10_tally_19 : decode cX10_tally 19 = .ok (.getfield 15, 3) := by decide +kernel
theorem dX10_tally_22 : decode cX10_tally 22 = .ok (.iload_n 1, 1) := by decide +kernel
theorem dX10_tally_23 : decode cX10_tally 23 = .ok (.baload, 1) := by decide +kernel
theorem dX10_tally_24 : decode cX10_tally 24 = .ok (.ifCond .ne 7, 3) := by decide +kernel
theorem dX10_tally_27 : decode cX10_tally 27 = .ok (.iconst 1, 1) := by decide +kernel
theorem dX10_tally_28 : decode cX10_tally 28 = .ok (.goto 4, 3) := by decide +kernel
theorem dX10_tally_31 : decode cX10_tally 31 = .ok (.iconst 0, 1) := by decide +kernel
theorem dX10_tally_32 : decode cX10_tally 32 = .ok (.istore_n 2, 1) := by decide +kernel
theorem dX10_tally_33 : decode cX10_tally 33 = .ok (.aload_n 0, 1) := by decide +kernel
theorem dX10_tally_34 : decode cX10_tally 34 = .ok (.getfield 28, 3) := by decide +kernel
theorem dX10_tally_37 : decode cX10_tally 37 = .ok (.iload_n 1, 1) := by decide +kernel
theorem dX10_tally_38 : decode cX10_tally 38 = .ok (.iconst 1, 1) := by decide +kernel
theorem dX10_tally_39 : decode cX10_tally 39 = .ok (.iadd, 1) := by decide +kernel
theorem dX10_tally_40 : decode cX10_tally 40 = .ok (.aload_n 0, 1) := by decide +kernel
theorem dX10_tally_41 : decode cX10_tally 41 = .ok (.getfield 28, 3) := by decide +kernel
theorem dX10_tally_44 : decode cX10_tally 44 = .ok (.iload_n 1, 1) := by decide +kernel
theorem dX10_tally_45 : decode cX10_tally 45 = .ok (.iaload, 1) := by decide +kernel
theorem dX10_tally_46 : decode cX10_tally 46 = .ok (.iload_n 2, 1) := by decide +kernel
theorem dX10_tally_47 : decode cX10_tally 47 = .ok (.ifCond .eq 7, 3) := by decide +kernel
theorem dX10_tally_50 : decode cX10_tally 50 = .ok (.iconst 1, 1) := by decide +kernel
theorem dX10_tally_51 : decode cX10_tally 51 = .ok (.goto 4, 3) := by decide +kernel
theorem dX10_tally_54 : decode cX10_tally 54 = .ok (.iconst 0, 1) := by decide +kernel
theorem dX10_tally_55 : decode cX10_tally 55 = .ok (.iadd, 1) := by decide +kernel
theorem dX10_tally_56 : decode cX10_tally 56 = .ok (.iastore, 1) := by decide +kernel
theorem dX10_tally_57 : decode cX10_tally 57 = .ok (.aload_n 0, 1) := by decide +kernel
theorem dX10_tally_58 : decode cX10_tally 58 = .ok (.getfield 31, 3) := by decide +kernel
theorem dX10_tally_61 : decode cX10_tally 61 = .ok (.iload_n 1, 1) := by decide +kernel
theorem dX10_tally_62 : decode cX10_tally 62 = .ok (.iconst 1, 1) := by decide +kernel
theorem dX10_tally_63 : decode cX10_tally 63 = .ok (.iadd, 1) := by decide +kernel
theorem dX10_tally_64 : decode cX10_tally 64 = .ok (.aload_n 0, 1) := by decide +kernel
theorem dX10_tally_65 : decode cX10_tally 65 = .ok (.getfield 31, 3) := by decide +kernel
theorem dX10_tally_68 : decode cX10_tally 68 = .ok (.iload_n 1, 1) := by decide +kernel
theorem dX10_tally_69 : decode cX10_tally 69 = .ok (.iaload, 1) := by decide +kernel
theorem dX10_tally_70 : decode cX10_tally 70 = .ok (.iload_n 2, 1) := by decide +kernel
theorem dX10_tally_71 : decode cX10_tally 71 = .ok (.ifCond .eq 12, 3) := by decide +kernel
theorem dX10_tally_74 : decode cX10_tally 74 = .ok (.aload_n 0, 1) := by decide +kernel
theorem dX10_tally_75 : decode cX10_tally 75 = .ok (.getfield 21, 3) := by decide +kernel
theorem dX10_tally_78 : decode cX10_tally 78 = .ok (.iload_n 1, 1) := by decide +kernel
theorem dX10_tally_79 : decode cX10_tally 79 = .ok (.iaload, 1) := by decide +kernel
theorem dX10_tally_80 : decode cX10_tally 80 = .ok (.goto 4, 3) := by decide +kernel
theorem dX10_tally_83 : decode cX10_tally 83 = .ok (.iconst 0, 1) := by decide +kernel
theorem dX10_tally_84 : decode cX10_tally 84 = .ok (.iadd, 1) := by decide +kernel
theorem dX10_tally_85 : decode cX10_tally 85 = .ok (.iastore, 1) := by decide +kernel
theorem dX10_tally_86 : decode cX10_tally 86 = .ok (.iinc 1 1, 3) := by decide +kernel
theorem dX10_tally_89 : decode cX10_tally 89 = .ok (.goto (-87), 3) := by decide +kernel
theorem dX10_tally_92 : decode cX10_tally 92 = .ok (.return_, 1) := by decide +kernel
theorem wk_132 : Cond.fieldLink RX10 15 "ThinLine$View" "skipped" "[Z" ∈ tl_L := List.mem_filter.mpr ⟨lw_m2 (i := 61) rfl, rfl⟩
theorem wk_136 : Cond.fieldLink RX10 28 "ThinLine$View" "openAhead" "[I" ∈ tl_L := List.mem_filter.mpr ⟨lw_m2 (i := 70) rfl, rfl⟩
theorem wk_137 : Cond.fieldLink RX10 31 "ThinLine$View" "sumAhead" "[I" ∈ tl_L := List.mem_filter.mpr ⟨lw_m2 (i := 71) rfl, rfl⟩
theorem dX10_besideGap_0 : decode cX10_besideGap 0 = .ok (.iload_n 2, 1) := by decide +kernel
theorem dX10_besideGap_1 : decode cX10_besideGap 1 = .ok (.aload_n 0, 1) := by decide +kernel
theorem dX10_besideGap_2 : decode cX10_besideGap 2 = .ok (.getfield 75, 3) := by decide +kernel
theorem dX10_besideGap_5 : decode cX10_besideGap 5 = .ok (.invokestatic 103, 3) := by decide +kernel
theorem dX10_besideGap_8 : decode cX10_besideGap 8 = .ok (.istore 4, 2) := by decide +kernel
theorem dX10_besideGap_10 : decode cX10_besideGap 10 = .ok (.iload_n 3, 1) := by decide +kernel
theorem dX10_besideGap_11 : decode cX10_besideGap 11 = .ok (.aload_n 0, 1) := by decide +kernel
theorem dX10_besideGap_12 : decode cX10_besideGap 12 = .ok (.getfield 81, 3) := by decide +kernel
theorem dX10_besideGap_15 : decode cX10_besideGap 15 = .ok (.iconst 1, 1) := by decide +kernel
theorem dX10_besideGap_16 : decode cX10_besideGap 16 = .ok (.iadd, 1) := by decide +kernel
theorem dX10_besideGap_17 : decode cX10_besideGap 17 = .ok (.invokestatic 108, 3) := by decide +kernel
theorem dX10_besideGap_20 : decode cX10_besideGap 20 = .ok (.istore 5, 2) := by decide +kernel
theorem dX10_besideGap_22 : decode cX10_besideGap 22 = .ok (.iload 4, 2) := by decide +kernel
theorem dX10_besideGap_24 : decode cX10_besideGap 24 = .ok (.iload 5, 2) := by decide +kernel
theorem dX10_besideGap_26 : decode cX10_besideGap 26 = .ok (.if_icmp .ge 15, 3) := by decide +kernel
theorem dX10_besideGap_29 : decode cX10_besideGap 29 = .ok (.aload_n 1, 1) := by decide +kernel
theorem dX10_besideGap_30 : decode cX10_besideGap 30 = .ok (.iload 5, 2) := by decide +kernel
theorem dX10_besideGap_32 : decode cX10_besideGap 32 = .ok (.iaload, 1) := by decide +kernel
theorem dX10_besideGap_33 : decode cX10_besideGap 33 = .ok (.aload_n 1, 1) := by decide +kernel
theorem dX10_besideGap_34 : decode cX10_besideGap 34 = .ok (.iload 4, 2) := by decide +kernel
theorem dX10_besideGap_36 : decode cX10_besideGap 36 = .ok (.iaload, 1) := by decide +kernel
theorem dX10_besideGap_37 : decode cX10_besideGap 37 = .ok (.isub, 1) := by decide +kernel
theorem dX10_besideGap_38 : decode cX10_besideGap 38 = .ok (.goto 4, 3) := by decide +kernel
theorem dX10_besideGap_41 : decode cX10_besideGap 41 = .ok (.iconst 0, 1) := by decide +kernel
theorem dX10_besideGap_42 : decode cX10_besideGap 42 = .ok (.istore 6, 2) := by decide +kernel
theorem dX10_besideGap_44 : decode cX10_besideGap 44 = .ok (.aload_n 1, 1) := by decide +kernel
theorem dX10_besideGap_45 : decode cX10_besideGap 45 = .ok (.iload_n 3, 1) := by decide +kernel
theorem dX10_besideGap_46 : decode cX10_besideGap 46 = .ok (.iaload, 1) := by decide +kernel
theorem dX10_besideGap_47 : decode cX10_besideGap 47 = .ok (.aload_n 1, 1) := by decide +kernel
theorem dX10_besideGap_48 : decode cX10_besideGap 48 = .ok (.iload_n 2, 1) := by decide +kernel
theorem dX10_besideGap_49 : decode cX10_besideGap 49 = .ok (.iaload, 1) := by decide +kernel
theorem dX10_besideGap_50 : decode cX10_besideGap 50 = .ok (.isub, 1) := by decide +kernel
theorem dX10_besideGap_51 : decode cX10_besideGap 51 = .ok (.iload 6, 2) := by decide +kernel
theorem dX10_besideGap_53 : decode cX10_besideGap 53 = .ok (.isub, 1) := by decide +kernel
theorem dX10_besideGap_54 : decode cX10_besideGap 54 = .ok (.ireturn, 1) := by decide +kernel
theorem wk_861 : Cond.methodLink RX10 103 Lib.Math.max.name ∈ tl_L := List.mem_filter.mpr ⟨by decide +kernel, rfl⟩
theorem wk_862 : Cond.methodLink RX10 108 Lib.Math.min.name ∈ tl_L := List.mem_filter.mpr ⟨by decide +kernel, rfl⟩
theorem dX10_layBetween_0 : decode cX10_layBetween 0 = .ok (.aload_n 0, 1) := by decide +kernel
theorem dX10_layBetween_1 : decode cX10_layBetween 1 = .ok (.getfield 37, 3) := by decide +kernel
theorem dX10_layBetween_4 : decode cX10_layBetween 4 = .ok (.iload_n 1, 1) := by decide +kernel
theorem dX10_layBetween_5 : decode cX10_layBetween 5 = .ok (.iconst 1, 1) := by decide +kernel
theorem dX10_layBetween_6 : decode cX10_layBetween 6 = .ok (.iadd, 1) := by decide +kernel
theorem dX10_layBetween_7 : decode cX10_layBetween 7 = .ok (.iaload, 1) := by decide +kernel
theorem dX10_layBetween_8 : decode cX10_layBetween 8 = .ok (.aload_n 0, 1) := by decide +kernel
theorem dX10_layBetween_9 : decode cX10_layBetween 9 = .ok (.getfield 37, 3) := by decide +kernel
theorem dX10_layBetween_12 : decode cX10_layBetween 12 = .ok (.iload_n 1, 1) := by decide +kernel
theorem dX10_layBetween_13 : decode cX10_layBetween 13 = .ok (.iaload, 1) := by decide +kernel
theorem dX10_layBetween_14 : decode cX10_layBetween 14 = .ok (.isub, 1) := by decide +kernel
theorem dX10_layBetween_15 : decode cX10_layBetween 15 = .ok (.istore 4, 2) := by decide +kernel
theorem dX10_layBetween_17 : decode cX10_layBetween 17 = .ok (.iconst 1, 1) := by decide +kernel
theorem dX10_layBetween_18 : decode cX10_layBetween 18 = .ok (.iload_n 3, 1) := by decide +kernel
theorem dX10_layBetween_19 : decode cX10_layBetween 19 = .ok (.iload_n 2, 1) := by decide +kernel
theorem dX10_layBetween_20 : decode cX10_layBetween 20 = .ok (.isub, 1) := by decide +kernel
theorem dX10_layBetween_21 : decode cX10_layBetween 21 = .ok (.invokestatic 103, 3) := by decide +kernel
theorem dX10_layBetween_24 : decode cX10_layBetween 24 = .ok (.istore 5, 2) := by decide +kernel
theorem dX10_layBetween_26 : decode cX10_layBetween 26 = .ok (.iload_n 2, 1) := by decide +kernel
theorem dX10_layBetween_27 : decode cX10_layBetween 27 = .ok (.istore 6, 2) := by decide +kernel
theorem dX10_layBetween_29 : decode cX10_layBetween 29 = .ok (.iload 6, 2) := by decide +kernel
theorem dX10_layBetween_31 : decode cX10_layBetween 31 = .ok (.iload_n 3, 1) := by decide +kernel
theorem dX10_layBetween_32 : decode cX10_layBetween 32 = .ok (.if_icmp .ge 35, 3) := by decide +kernel
theorem dX10_layBetween_35 : decode cX10_layBetween 35 = .ok (.aload_n 0, 1) := by decide +kernel
theorem dX10_layBetween_36 : decode cX10_layBetween 36 = .ok (.getfield 25, 3) := by decide +kernel
theorem dX10_layBetween_39 : decode cX10_layBetween 39 = .ok (.iload 6, 2) := by decide +kernel
theorem dX10_layBetween_41 : decode cX10_layBetween 41 = .ok (.aload_n 0, 1) := by decide +kernel
theorem dX10_layBetween_42 : decode cX10_layBetween 42 = .ok (.getfield 37, 3) := by decide +kernel
theorem dX10_layBetween_45 : decode cX10_layBetween 45 = .ok (.iload_n 1, 1) := by decide +kernel
theorem dX10_layBetween_46 : decode cX10_layBetween 46 = .ok (.iaload, 1) := by decide +kernel
theorem dX10_layBetween_47 : decode cX10_layBetween 47 = .ok (.iload 4, 2) := by decide +kernel
theorem dX10_layBetween_49 : decode cX10_layBetween 49 = .ok (.iload 6, 2) := by decide +kernel
theorem dX10_layBetween_51 : decode cX10_layBetween 51 = .ok (.iload_n 2, 1) := by decide +kernel
theorem dX10_layBetween_52 : decode cX10_layBetween 52 = .ok (.isub, 1) := by decide +kernel
theorem dX10_layBetween_53 : decode cX10_layBetween 53 = .ok (.imul, 1) := by decide +kernel
theorem dX10_layBetween_54 : decode cX10_layBetween 54 = .ok (.iload 5, 2) := by decide +kernel
theorem dX10_layBetween_56 : decode cX10_layBetween 56 = .ok (.invokestatic 115, 3) := by decide +kernel
theorem dX10_layBetween_59 : decode cX10_layBetween 59 = .ok (.iadd, 1) := by decide +kernel
theorem dX10_layBetween_60 : decode cX10_layBetween 60 = .ok (.iastore, 1) := by decide +kernel
theorem dX10_layBetween_61 : decode cX10_layBetween 61 = .ok (.iinc 6 1, 3) := by decide +kernel
theorem dX10_layBetween_64 : decode cX10_layBetween 64 = .ok (.goto (-35), 3) := by decide +kernel
theorem dX10_layBetween_67 : decode cX10_layBetween 67 = .ok (.return_, 1) := by decide +kernel
theorem wk_139 : Cond.fieldLink RX10 37 "ThinLine$View" "knotHeight" "[I" ∈ tl_L := List.mem_filter.mpr ⟨lw_m2 (i := 73) rfl, rfl⟩
theorem wk_867 : Cond.methodLink RX10 115 yJ9_floorDiv_7cf53 ∈ tl_L := List.mem_filter.mpr ⟨lw_m4 (i := 154) rfl, rfl⟩
theorem wk_868 : Cond.static yJ9_floorDiv_7cf53 ∈ tl_L := List.mem_filter.mpr ⟨lw_m4 (i := 155) rfl, rfl⟩
theorem wk_869 : Cond.initialized RJ9 ∈ tl_L := List.mem_filter.mpr ⟨lw_m1 (i := 5) rfl, rfl⟩
theorem wk_870 : Cond.code yJ9_floorDiv_7cf53 cJ9_floorDiv_7cf53 3 (some .int) ∈ tl_L := List.mem_filter.mpr ⟨lw_m4 (i := 156) rfl, rfl⟩
theorem lk_X10_115 : tl_kS RX10 115 yJ9_floorDiv_7cf53 cJ9_floorDiv_7cf53 3 (some .int) 2 := ⟨wk_870, wk_867, wk_868, wk_869, ⟨by decide +kernel, by decide +kernel, by decide +kernel⟩⟩
theorem dX10_layKnots_0 : decode cX10_layKnots 0 = .ok (.aload_n 0, 1) := by decide +kernel
theorem dX10_layKnots_1 : decode cX10_layKnots 1 = .ok (.iconst 0, 1) := by decide +kernel
theorem dX10_layKnots_2 : decode cX10_layKnots 2 = .ok (.putfield 100, 3) := by decide +kernel
theorem dX10_layKnots_5 : decode cX10_layKnots 5 = .ok (.iconst 1, 1) := by decide +kernel
theorem dX10_layKnots_6 : decode cX10_layKnots 6 = .ok (.aload_n 0, 1) := by decide +kernel
theorem dX10_layKnots_7 : decode cX10_layKnots 7 = .ok (.getfield 69, 3) := by decide +kernel
theorem dX10_layKnots_10 : decode cX10_layKnots 10 = .ok (.iconst 1, 1) := by decide +kernel
theorem dX10_layKnots_11 : decode cX10_layKnots 11 = .ok (.iadd, 1) := by decide +kernel
theorem dX10_layKnots_12 : decode cX10_layKnots 12 = .ok (.invokestatic 103, 3) := by decide +kernel
theorem dX10_layKnots_15 : decode cX10_layKnots 15 = .ok (.istore_n 1, 1) := by decide +kernel
theorem dX10_layKnots_16 : decode cX10_layKnots 16 = .ok (.iconst 0, 1) := by decide +kernel
theorem dX10_layKnots_17 : decode cX10_layKnots 17 = .ok (.istore_n 2, 1) := by decide +kernel
theorem dX10_layKnots_18 : decode cX10_layKnots 18 = .ok (.iload_n 2, 1) := by decide +kernel
theorem dX10_layKnots_19 : decode cX10_layKnots 19 = .ok (.iload_n 1, 1) := by decide +kernel
theorem dX10_layKnots_20 : decode cX10_layKnots 20 = .ok (.if_icmp .gt 119, 3) := by decide +kernel
theorem dX10_layKnots_23 : decode cX10_layKnots 23 = .ok (.iload_n 2, 1) := by decide +kernel
theorem dX10_layKnots_24 : decode cX10_layKnots 24 = .ok (.aload_n 0, 1) := by decide +kernel
theorem dX10_layKnots_25 : decode cX10_layKnots 25 = .ok (.getfield 34, 3) := by decide +kernel
theorem dX10_layKnots_28 : decode cX10_layKnots 28 = .ok (.arraylength, 1) := by decide +kernel
theorem dX10_layKnots_29 : decode cX10_layKnots 29 = .ok (.if_icmp .ge 110, 3) := by decide +kernel
theorem dX10_layKnots_32 : decode cX10_layKnots 32 = .ok (.sipush 299, 3) := by decide +kernel
theorem dX10_layKnots_35 : decode cX10_layKnots 35 = .ok (.iload_n 2, 1) := by decide +kernel
theorem dX10_layKnots_36 : decode cX10_layKnots 36 = .ok (.imul, 1) := by decide +kernel
theorem dX10_layKnots_37 : decode cX10_layKnots 37 = .ok (.iload_n 1, 1) := by decide +kernel
theorem dX10_layKnots_38 : decode cX10_layKnots 38 = .ok (.idiv, 1) := by decide +kernel
theorem dX10_layKnots_39 : decode cX10_layKnots 39 = .ok (.istore_n 3, 1) := by decide +kernel
theorem dX10_layKnots_40 : decode cX10_layKnots 40 = .ok (.iconst 0, 1) := by decide +kernel
theorem dX10_layKnots_41 : decode cX10_layKnots 41 = .ok (.iload_n 3, 1) := by decide +kernel
theorem dX10_layKnots_42 : decode cX10_layKnots 42 = .ok (.aload_n 0, 1) := by decide +kernel
theorem dX10_layKnots_43 : decode cX10_layKnots 43 = .ok (.getfield 72, 3) := by decide +kernel
theorem dX10_layKnots_46 : decode cX10_layKnots 46 = .ok (.isub, 1) := by decide +kernel
theorem dX10_layKnots_47 : decode cX10_layKnots 47 = .ok (.invokestatic 103, 3) := by decide +kernel
theorem dX10_layKnots_50 : decode cX10_layKnots 50 = .ok (.istore 4, 2) := by decide +kernel
theorem dX10_layKnots_52 : decode cX10_layKnots 52 = .ok (.sipush 300, 3) := by decide +kernel
theorem dX10_layKnots_55 : decode cX10_layKnots 55 = .ok (.iload_n 3, 1) := by decide +kernel
theorem dX10_layKnots_56 : decode cX10_layKnots 56 = .ok (.aload_n 0, 1) := by decide +kernel
theorem dX10_layKnots_57 : decode cX10_layKnots 57 = .ok (.getfield 72, 3) := by decide +kernel
theorem dX10_layKnots_60 : decode cX10_layKnots 60 = .ok (.iadd, 1) := by decide +kernel
theorem dX10_layKnots_61 : decode cX10_layKnots 61 = .ok (.iconst 1, 1) := by decide +kernel
theorem dX10_layKnots_62 : decode cX10_layKnots 62 = .ok (.iadd, 1) := by decide +kernel
theorem dX10_layKnots_63 : decode cX10_layKnots 63 = .ok (.invokestatic 108, 3) := by decide +kernel
theorem dX10_layKnots_66 : decode cX10_layKnots 66 = .ok (.istore 5, 2) := by decide +kernel
theorem dX10_layKnots_68 : decode cX10_layKnots 68 = .ok (.aload_n 0, 1) := by decide +kernel
theorem dX10_layKnots_69 : decode cX10_layKnots 69 = .ok (.aload_n 0, 1) := by decide +kernel
theorem dX10_layKnots_70 : decode cX10_layKnots 70 = .ok (.getfield 28, 3) := by decide +kernel
theorem dX10_layKnots_73 : decode cX10_layKnots 73 = .ok (.iload 4, 2) := by decide +kernel
theorem dX10_layKnots_75 : decode cX10_layKnots 75 = .ok (.iload 5, 2) := by decide +kernel
theorem dX10_layKnots_77 : decode cX10_layKnots 77 = .ok (.invokevirtual 111, 3) := by decide +kernel
theorem dX10_layKnots_80 : decode cX10_layKnots 80 = .ok (.istore 6, 2) := by decide +kernel
theorem dX10_layKnots_82 : decode cX10_layKnots 82 = .ok (.iload 6, 2) := by decide +kernel
theorem dX10_layKnots_84 : decode cX10_layKnots 84 = .ok (.ifCond .le 49, 3) := by decide +kernel
theorem dX10_layKnots_87 : decode cX10_layKnots 87 = .ok (.aload_n 0, 1) := by decide +kernel
theorem dX10_layKnots_88 : decode cX10_layKnots 88 = .ok (.getfield 34, 3) := by decide +kernel
theorem dX10_layKnots_91 : decode cX10_layKnots 91 = .ok (.aload_n 0, 1) := by decide +kernel
theorem dX10_layKnots_92 : decode cX10_layKnots 92 = .ok (.getfield 100, 3) := by decide +kernel
theorem dX10_layKnots_95 : decode cX10_layKnots 95 = .ok (.iload_n 3, 1) := by decide +kernel
theorem dX10_layKnots_96 : decode cX10_layKnots 96 = .ok (.iastore, 1) := by decide +kernel
theorem dX10_layKnots_97 : decode cX10_layKnots 97 = .ok (.aload_n 0, 1) := by decide +kernel
theorem dX10_layKnots_98 : decode cX10_layKnots 98 = .ok (.getfield 37, 3) := by decide +kernel
theorem dX10_layKnots_101 : decode cX10_layKnots 101 = .ok (.aload_n 0, 1) := by decide +kernel
theorem dX10_layKnots_102 : decode cX10_layKnots 102 = .ok (.getfield 100, 3) := by decide +kernel
theorem dX10_layKnots_105 : decode cX10_layKnots 105 = .ok (.aload_n 0, 1) := by decide +kernel
theorem dX10_layKnots_106 : decode cX10_layKnots 106 = .ok (.aload_n 0, 1) := by decide +kernel
theorem dX10_layKnots_107 : decode cX10_layKnots 107 = .ok (.getfield 31, 3) := by decide +kernel
theorem dX10_layKnots_110 : decode cX10_layKnots 110 = .ok (.iload 4, 2) := by decide +kernel
theorem dX10_layKnots_112 : decode cX10_layKnots 112 = .ok (.iload 5, 2) := by decide +kernel
theorem dX10_layKnots_114 : decode cX10_layKnots 114 = .ok (.invokevirtual 111, 3) := by decide +kernel
theorem dX10_layKnots_117 : decode cX10_layKnots 117 = .ok (.iload 6, 2) := by decide +kernel
theorem dX10_layKnots_119 : decode cX10_layKnots 119 = .ok (.invokestatic 115, 3) := by decide +kernel
theorem dX10_layKnots_122 : decode cX10_layKnots 122 = .ok (.iastore, 1) := by decide +kernel
theorem dX10_layKnots_123 : decode cX10_layKnots 123 = .ok (.aload_n 0, 1) := by decide +kernel
theorem dX10_layKnots_124 : decode cX10_layKnots 124 = .ok (.dup, 1) := by decide +kernel
theorem dX10_layKnots_125 : decode cX10_layKnots 125 = .ok (.getfield 100, 3) := by decide +kernel
theorem dX10_layKnots_128 : decode cX10_layKnots 128 = .ok (.iconst 1, 1) := by decide +kernel
theorem dX10_layKnots_129 : decode cX10_layKnots 129 = .ok (.iadd, 1) := by decide +kernel
theorem dX10_layKnots_130 : decode cX10_layKnots 130 = .ok (.putfield 100, 3) := by decide +kernel
theorem dX10_layKnots_133 : decode cX10_layKnots 133 = .ok (.iinc 2 1, 3) := by decide +kernel
theorem dX10_layKnots_136 : decode cX10_layKnots 136 = .ok (.goto (-118), 3) := by decide +kernel
theorem dX10_layKnots_139 : decode cX10_layKnots 139 = .ok (.return_, 1) := by decide +kernel
theorem wk_41 : Cond.initialized RX10 ∈ tl_L := List.mem_filter.mpr ⟨lw_m1 (i := 12) rfl, rfl⟩
theorem wk_138 : Cond.fieldLink RX10 34 "ThinLine$View" "knotColour" "[I" ∈ tl_L := List.mem_filter.mpr ⟨lw_m2 (i := 72) rfl, rfl⟩
theorem wk_860 : Cond.fieldLink RX10 100 "ThinLine$View" "knots" "I" ∈ tl_L := List.mem_filter.mpr ⟨lw_m2 (i := 80) rfl, rfl⟩
theorem wk_863 : Cond.methodLink RX10 111 yX10_besideGap ∈ tl_L := List.mem_filter.mpr ⟨lw_m4 (i := 150) rfl, rfl⟩
theorem wk_864 : Cond.instanceMethod yX10_besideGap ∈ tl_L := List.mem_filter.mpr ⟨lw_m4 (i := 152) rfl, rfl⟩
theorem wk_865 : Cond.selects RX10 yX10_besideGap yX10_besideGap ∈ tl_L := List.mem_filter.mpr ⟨lw_s4 (i := 9) (q := (yX10_besideGap, 18)) rfl, rfl⟩
theorem wk_866 : Cond.code yX10_besideGap cX10_besideGap 7 (some .int) ∈ tl_L := List.mem_filter.mpr ⟨lw_m4 (i := 153) rfl, rfl⟩
theorem lk_X10_111 : tl_kV RX10 111 RX10 yX10_besideGap cX10_besideGap 7 (some .int) 3 := ⟨wk_866, wk_863, wk_864, wk_865, wk_41, ⟨by decide +kernel, by decide +kernel, by decide +kernel⟩⟩
theorem dX10_layHeights_0 : decode cX10_layHeights 0 = .ok (.aload_n 0, 1) := by decide +kernel
theorem dX10_layHeights_1 : decode cX10_layHeights 1 = .ok (.getfield 100, 3) := by decide +kernel
theorem dX10_layHeights_4 : decode cX10_layHeights 4 = .ok (.ifCond .ne 4, 3) := by decide +kernel
theorem dX10_layHeights_7 : decode cX10_layHeights 7 = .ok (.return_, 1) := by decide +kernel
theorem dX10_layHeights_8 : decode cX10_layHeights 8 = .ok (.iconst 0, 1) := by decide +kernel
theorem dX10_layHeights_9 : decode cX10_layHeights 9 = .ok (.istore_n 1, 1) := by decide +kernel
theorem dX10_layHeights_10 : decode cX10_layHeights 10 = .ok (.iload_n 1, 1) := by decide +kernel
theorem dX10_layHeights_11 : decode cX10_layHeights 11 = .ok (.aload_n 0, 1) := by decide +kernel
theorem dX10_layHeights_12 : decode cX10_layHeights 12 = .ok (.getfield 34, 3) := by decide +kernel
theorem dX10_layHeights_15 : decode cX10_layHeights 15 = .ok (.iconst 0, 1) := by decide +kernel
theorem dX10_layHeights_16 : decode cX10_layHeights 16 = .ok (.iaload, 1) := by decide +kernel
theorem dX10_layHeights_17 : decode cX10_layHeights 17 = .ok (.if_icmp .ge 21, 3) := by decide +kernel
theorem dX10_layHeights_20 : decode cX10_layHeights 20 = .ok (.aload_n 0, 1) := by decide +kernel
theorem dX10_layHeights_21 : decode cX10_layHeights 21 = .ok (.getfield 25, 3) := by decide +kernel
theorem dX10_layHeights_24 : decode cX10_layHeights 24 = .ok (.iload_n 1, 1) := by decide +kernel
theorem dX10_layHeights_25 : decode cX10_layHeights 25 = .ok (.aload_n 0, 1) := by decide +kernel
theorem dX10_layHeights_26 : decode cX10_layHeights 26 = .ok (.getfield 37, 3) := by decide +kernel
theorem dX10_layHeights_29 : decode cX10_layHeights 29 = .ok (.iconst 0, 1) := by decide +kernel
theorem dX10_layHeights_30 : decode cX10_layHeights 30 = .ok (.iaload, 1) := by decide +kernel
theorem dX10_layHeights_31 : decode cX10_layHeights 31 = .ok (.iastore, 1) := by decide +kernel
theorem dX10_layHeights_32 : decode cX10_layHeights 32 = .ok (.iinc 1 1, 3) := by decide +kernel
theorem dX10_layHeights_35 : decode cX10_layHeights 35 = .ok (.goto (-25), 3) := by decide +kernel
theorem dX10_layHeights_38 : decode cX10_layHeights 38 = .ok (.iconst 0, 1) := by decide +kernel
theorem dX10_layHeights_39 : decode cX10_layHeights 39 = .ok (.istore_n 1, 1) := by decide +kernel
theorem dX10_layHeights_40 : decode cX10_layHeights 40 = .ok (.iload_n 1, 1) := by decide +kernel
theorem dX10_layHeights_41 : decode cX10_layHeights 41 = .ok (.iconst 1, 1) := by decide +kernel
theorem dX10_layHeights_42 : decode cX10_layHeights 42 = .ok (.iadd, 1) := by decide +kernel
theorem dX10_layHeights_43 : decode cX10_layHeights 43 = .ok (.aload_n 0, 1) := by decide +kernel
theorem dX10_layHeights_44 : decode cX10_layHeights 44 = .ok (.getfield 100, 3) := by decide +kernel
theorem dX10_layHeights_47 : decode cX10_layHeights 47 = .ok (.if_icmp .ge 28, 3) := by decide +kernel
theorem dX10_layHeights_50 : decode cX10_layHeights 50 = .ok (.aload_n 0, 1) := by decide +kernel
theorem dX10_layHeights_51 : decode cX10_layHeights 51 = .ok (.iload_n 1, 1) := by decide +kernel
theorem dX10_layHeights_52 : decode cX10_layHeights 52 = .ok (.aload_n 0, 1) := by decide +kernel
theorem dX10_layHeights_53 : decode cX10_layHeights 53 = .ok (.getfield 34, 3) := by decide +kernel
theorem dX10_layHeights_56 : decode cX10_layHeights 56 = .ok (.iload_n 1, 1) := by decide +kernel
theorem dX10_layHeights_57 : decode cX10_layHeights 57 = .ok (.iaload, 1) := by decide +kernel
theorem dX10_layHeights_58 : decode cX10_layHeights 58 = .ok (.aload_n 0, 1) := by decide +kernel
theorem dX10_layHeights_59 : decode cX10_layHeights 59 = .ok (.getfield 34, 3) := by decide +kernel
theorem dX10_layHeights_62 : decode cX10_layHeights 62 = .ok (.iload_n 1, 1) := by decide +kernel
theorem dX10_layHeights_63 : decode cX10_layHeights 63 = .ok (.iconst 1, 1) := by decide +kernel
theorem dX10_layHeights_64 : decode cX10_layHeights 64 = .ok (.iadd, 1) := by decide +kernel
theorem dX10_layHeights_65 : decode cX10_layHeights 65 = .ok (.iaload, 1) := by decide +kernel
theorem dX10_layHeights_66 : decode cX10_layHeights 66 = .ok (.invokevirtual 118, 3) := by decide +kernel
theorem dX10_layHeights_69 : decode cX10_layHeights 69 = .ok (.iinc 1 1, 3) := by decide +kernel
theorem dX10_layHeights_72 : decode cX10_layHeights 72 = .ok (.goto (-32), 3) := by decide +kernel
theorem dX10_layHeights_75 : decode cX10_layHeights 75 = .ok (.aload_n 0, 1) := by decide +kernel
theorem dX10_layHeights_76 : decode cX10_layHeights 76 = .ok (.getfield 34, 3) := by decide +kernel
theorem dX10_layHeights_79 : decode cX10_layHeights 79 = .ok (.aload_n 0, 1) := by decide +kernel
theorem dX10_layHeights_80 : decode cX10_layHeights 80 = .ok (.getfield 100, 3) := by decide +kernel
theorem dX10_layHeights_83 : decode cX10_layHeights 83 = .ok (.iconst 1, 1) := by decide +kernel
theorem dX10_layHeights_84 : decode cX10_layHeights 84 = .ok (.isub, 1) := by decide +kernel
theorem dX10_layHeights_85 : decode cX10_layHeights 85 = .ok (.iaload, 1) := by decide +kernel
theorem dX10_layHeights_86 : decode cX10_layHeights 86 = .ok (.istore_n 1, 1) := by decide +kernel
theorem dX10_layHeights_87 : decode cX10_layHeights 87 = .ok (.iload_n 1, 1) := by decide +kernel
theorem dX10_layHeights_88 : decode cX10_layHeights 88 = .ok (.sipush 300, 3) := by decide +kernel
theorem dX10_layHeights_91 : decode cX10_layHeights 91 = .ok (.if_icmp .ge 26, 3) := by decide +kernel
theorem dX10_layHeights_94 : decode cX10_layHeights 94 = .ok (.aload_n 0, 1) := by decide +kernel
theorem dX10_layHeights_95 : decode cX10_layHeights 95 = .ok (.getfield 25, 3) := by decide +kernel
theorem dX10_layHeights_98 : decode cX10_layHeights 98 = .ok (.iload_n 1, 1) := by decide +kernel
theorem dX10_layHeights_99 : decode cX10_layHeights 99 = .ok (.aload_n 0, 1) := by decide +kernel
theorem dX10_layHeights_100 : decode cX10_layHeights 100 = .ok (.getfield 37, 3) := by decide +kernel
theorem dX10_layHeights_103 : decode cX10_layHeights 103 = .ok (.aload_n 0, 1) := by decide +kernel
theorem dX10_layHeights_104 : decode cX10_layHeights 104 = .ok (.getfield 100, 3) := by decide +kernel
theorem dX10_layHeights_107 : decode cX10_layHeights 107 = .ok (.iconst 1, 1) := by decide +kernel
theorem dX10_layHeights_108 : decode cX10_layHeights 108 = .ok (.isub, 1) := by decide +kernel
theorem dX10_layHeights_109 : decode cX10_layHeights 109 = .ok (.iaload, 1) := by decide +kernel
theorem dX10_layHeights_110 : decode cX10_layHeights 110 = .ok (.iastore, 1) := by decide +kernel
theorem dX10_layHeights_111 : decode cX10_layHeights 111 = .ok (.iinc 1 1, 3) := by decide +kernel
theorem dX10_layHeights_114 : decode cX10_layHeights 114 = .ok (.goto (-27), 3) := by decide +kernel
theorem dX10_layHeights_117 : decode cX10_layHeights 117 = .ok (.return_, 1) := by decide +kernel
theorem wk_875 : Cond.methodLink RX10 118 yX10_layBetween ∈ tl_L := List.mem_filter.mpr ⟨lw_m4 (i := 161) rfl, rfl⟩
theorem wk_876 : Cond.instanceMethod yX10_layBetween ∈ tl_L := List.mem_filter.mpr ⟨lw_m4 (i := 163) rfl, rfl⟩
theorem wk_877 : Cond.selects RX10 yX10_layBetween yX10_layBetween ∈ tl_L := List.mem_filter.mpr ⟨lw_s4 (i := 11) (q := (yX10_layBetween, 18)) rfl, rfl⟩
theorem wk_878 : Cond.code yX10_layBetween cX10_layBetween 7 none ∈ tl_L := List.mem_filter.mpr ⟨lw_m4 (i := 164) rfl, rfl⟩
theorem lk_X10_118 : tl_kV RX10 118 RX10 yX10_layBetween cX10_layBetween 7 none 3 := ⟨wk_878, wk_875, wk_876, wk_877, wk_41, ⟨by decide +kernel, by decide +kernel, by decide +kernel⟩⟩
theorem dX10_measure_0 : decode cX10_measure 0 = .ok (.aload_n 0, 1) := by decide +kernel
theorem dX10_measure_1 : decode cX10_measure 1 = .ok (.iconst 0, 1) := by decide +kernel
theorem dX10_measure_2 : decode cX10_measure 2 = .ok (.putfield 122, 3) := by decide +kernel
theorem dX10_measure_5 : decode cX10_measure 5 = .ok (.aload_n 0, 1) := by decide +kernel
theorem dX10_measure_6 : decode cX10_measure 6 = .ok (.iconst 0, 1) := by decide +kernel
theorem dX10_measure_7 : decode cX10_measure 7 = .ok (.putfield 125, 3) := by decide +kernel
theorem dX10_measure_10 : decode cX10_measure 10 = .ok (.aload_n 0, 1) := by decide +kernel
theorem dX10_measure_11 : decode cX10_measure 11 = .ok (.lconst 0, 1) := by decide +kernel
theorem dX10_measure_12 : decode cX10_measure 12 = .ok (.putfield 128, 3) := by decide +kernel
theorem dX10_measure_15 : decode cX10_measure 15 = .ok (.aload_n 0, 1) := by decide +kernel
theorem dX10_measure_16 : decode cX10_measure 16 = .ok (.lconst 0, 1) := by decide +kernel
theorem dX10_measure_17 : decode cX10_measure 17 = .ok (.putfield 132, 3) := by decide +kernel
theorem dX10_measure_20 : decode cX10_measure 20 = .ok (.iconst 0, 1) := by decide +kernel
theorem dX10_measure_21 : decode cX10_measure 21 = .ok (.istore_n 1, 1) := by decide +kernel
theorem dX10_measure_22 : decode cX10_measure 22 = .ok (.iload_n 1, 1) := by decide +kernel
theorem dX10_measure_23 : decode cX10_measure 23 = .ok (.sipush 300, 3) := by decide +kernel
theorem dX10_measure_26 : decode cX10_measure 26 = .ok (.if_icmp .ge 148, 3) := by decide +kernel
theorem dX10_measure_29 : decode cX10_measure 29 = .ok (.aload_n 0, 1) := by decide +kernel
theorem dX10_measure_30 : decode cX10_measure 30 = .ok (.getfield 21, 3) := by decide +kernel
theorem dX10_measure_33 : decode cX10_measure 33 = .ok (.iload_n 1, 1) := by decide +kernel
theorem dX10_measure_34 : decode cX10_measure 34 = .ok (.iaload, 1) := by decide +kernel
theorem dX10_measure_35 : decode cX10_measure 35 = .ok (.aload_n 0, 1) := by decide +kernel
theorem dX10_measure_36 : decode cX10_measure 36 = .ok (.getfield 25, 3) := by decide +kernel
theorem dX10_measure_39 : decode cX10_measure 39 = .ok (.iload_n 1, 1) := by decide +kernel
theorem dX10_measure_40 : decode cX10_measure 40 = .ok (.iaload, 1) := by decide +kernel
theorem dX10_measure_41 : decode cX10_measure 41 = .ok (.isub, 1) := by decide +kernel
theorem dX10_measure_42 : decode cX10_measure 42 = .ok (.istore_n 2, 1) := by decide +kernel
theorem dX10_measure_43 : decode cX10_measure 43 = .ok (.iload_n 1, 1) := by decide +kernel
theorem dX10_measure_44 : decode cX10_measure 44 = .ok (.aload_n 0, 1) := by decide +kernel
theorem dX10_measure_45 : decode cX10_measure 45 = .ok (.getfield 75, 3) := by decide +kernel
theorem dX10_measure_48 : decode cX10_measure 48 = .ok (.if_icmp .lt 15, 3) := by decide +kernel
theorem dX10_measure_51 : decode cX10_measure 51 = .ok (.iload_n 1, 1) := by decide +kernel
theorem dX10_measure_52 : decode cX10_measure 52 = .ok (.aload_n 0, 1) := by decide +kernel
theorem dX10_measure_53 : decode cX10_measure 53 = .ok (.getfield 81, 3) := by decide +kernel
theorem dX10_measure_56 : decode cX10_measure 56 = .ok (.if_icmp .gt 7, 3) := by decide +kernel
theorem dX10_measure_59 : decode cX10_measure 59 = .ok (.iconst 1, 1) := by decide +kernel
theorem dX10_measure_60 : decode cX10_measure 60 = .ok (.goto 4, 3) := by decide +kernel
theorem dX10_measure_63 : decode cX10_measure 63 = .ok (.iconst 0, 1) := by decide +kernel
theorem dX10_measure_64 : decode cX10_measure 64 = .ok (.istore_n 3, 1) := by decide +kernel
theorem dX10_measure_65 : decode cX10_measure 65 = .ok (.aload_n 0, 1) := by decide +kernel
theorem dX10_measure_66 : decode cX10_measure 66 = .ok (.getfield 18, 3) := by decide +kernel
theorem dX10_measure_69 : decode cX10_measure 69 = .ok (.iload_n 1, 1) := by decide +kernel
theorem dX10_measure_70 : decode cX10_measure 70 = .ok (.aload_n 0, 1) := by decide +kernel
theorem dX10_measure_71 : decode cX10_measure 71 = .ok (.getfield 9, 3) := by decide +kernel
theorem dX10_measure_74 : decode cX10_measure 74 = .ok (.iload_n 1, 1) := by decide +kernel
theorem dX10_measure_75 : decode cX10_measure 75 = .ok (.baload, 1) := by decide +kernel
theorem dX10_measure_76 : decode cX10_measure 76 = .ok (.ifCond .eq 20, 3) := by decide +kernel
theorem dX10_measure_79 : decode cX10_measure 79 = .ok (.iload_n 3, 1) := by decide +kernel
theorem dX10_measure_80 : decode cX10_measure 80 = .ok (.ifCond .ne 16, 3) := by decide +kernel
theorem dX10_measure_83 : decode cX10_measure 83 = .ok (.aload_n 0, 1) := by decide +kernel
theorem dX10_measure_84 : decode cX10_measure 84 = .ok (.getfield 15, 3) := by decide +kernel
theorem dX10_measure_87 : decode cX10_measure 87 = .ok (.iload_n 1, 1) := by decide +kernel
theorem dX10_measure_88 : decode cX10_measure 88 = .ok (.baload, 1) := by decide +kernel
theorem dX10_measure_89 : decode cX10_measure 89 = .ok (.ifCond .ne 7, 3) := by decide +kernel
theorem dX10_measure_92 : decode cX10_measure 92 = .ok (.iconst 1, 1) := by decide +kernel
theorem dX10_measure_93 : decode cX10_measure 93 = .ok (.goto 4, 3) := by decide +kernel
theorem dX10_measure_96 : decode cX10_measure 96 = .ok (.iconst 0, 1) := by decide +kernel
theorem dX10_measure_97 : decode cX10_measure 97 = .ok (.bastore, 1) := by decide +kernel
theorem dX10_measure_98 : decode cX10_measure 98 = .ok (.aload_n 0, 1) := by decide +kernel
theorem dX10_measure_99 : decode cX10_measure 99 = .ok (.getfield 18, 3) := by decide +kernel
theorem dX10_measure_102 : decode cX10_measure 102 = .ok (.iload_n 1, 1) := by decide +kernel
theorem dX10_measure_103 : decode cX10_measure 103 = .ok (.baload, 1) := by decide +kernel
theorem dX10_measure_104 : decode cX10_measure 104 = .ok (.ifCond .eq 30, 3) := by decide +kernel
theorem dX10_measure_107 : decode cX10_measure 107 = .ok (.aload_n 0, 1) := by decide +kernel
theorem dX10_measure_108 : decode cX10_measure 108 = .ok (.dup, 1) := by decide +kernel
theorem dX10_measure_109 : decode cX10_measure 109 = .ok (.getfield 125, 3) := by decide +kernel
theorem dX10_measure_112 : decode cX10_measure 112 = .ok (.iconst 1, 1) := by decide +kernel
theorem dX10_measure_113 : decode cX10_measure 113 = .ok (.iadd, 1) := by decide +kernel
theorem dX10_measure_114 : decode cX10_measure 114 = .ok (.putfield 125, 3) := by decide +kernel
theorem dX10_measure_117 : decode cX10_measure 117 = .ok (.aload_n 0, 1) := by decide +kernel
theorem dX10_measure_118 : decode cX10_measure 118 = .ok (.dup, 1) := by decide +kernel
theorem dX10_measure_119 : decode cX10_measure 119 = .ok (.getfield 132, 3) := by decide +kernel
theorem dX10_measure_122 : decode cX10_measure 122 = .ok (.iload_n 2, 1) := by decide +kernel
theorem dX10_measure_123 : decode cX10_measure 123 = .ok (.invokestatic 135, 3) := by decide +kernel
theorem dX10_measure_126 : decode cX10_measure 126 = .ok (.i2l, 1) := by decide +kernel
theorem dX10_measure_127 : decode cX10_measure 127 = .ok (.ladd, 1) := by decide +kernel
theorem dX10_measure_128 : decode cX10_measure 128 = .ok (.putfield 132, 3) := by decide +kernel
theorem dX10_measure_131 : decode cX10_measure 131 = .ok (.goto 37, 3) := by decide +kernel
theorem dX10_measure_134 : decode cX10_measure 134 = .ok (.iload_n 3, 1) := by decide +kernel
theorem dX10_measure_135 : decode cX10_measure 135 = .ok (.ifCond .eq 33, 3) := by decide +kernel
theorem dX10_measure_138 : decode cX10_measure 138 = .ok (.aload_n 0, 1) := by decide +kernel
theorem dX10_measure_139 : decode cX10_measure 139 = .ok (.getfield 9, 3) := by decide +kernel
theorem dX10_measure_142 : decode cX10_measure 142 = .ok (.iload_n 1, 1) := by decide +kernel
theorem dX10_measure_143 : decode cX10_measure 143 = .ok (.baload, 1) := by decide +kernel
theorem dX10_measure_144 : decode cX10_measure 144 = .ok (.ifCond .eq 24, 3) := by decide +kernel
theorem dX10_measure_147 : decode cX10_measure 147 = .ok (.aload_n 0, 1) := by decide +kernel
theorem dX10_measure_148 : decode cX10_measure 148 = .ok (.dup, 1) := by decide +kernel
theorem dX10_measure_149 : decode cX10_measure 149 = .ok (.getfield 122, 3) := by decide +kernel
theorem dX10_measure_152 : decode cX10_measure 152 = .ok (.iconst 1, 1) := by decide +kernel
theorem dX10_measure_153 : decode cX10_measure 153 = .ok (.iadd, 1) := by decide +kernel
theorem dX10_measure_154 : decode cX10_measure 154 = .ok (.putfield 122, 3) := by decide +kernel
theorem dX10_measure_157 : decode cX10_measure 157 = .ok (.aload_n 0, 1) := by decide +kernel
theorem dX10_measure_158 : decode cX10_measure 158 = .ok (.dup, 1) := by decide +kernel
theorem dX10_measure_159 : decode cX10_measure 159 = .ok (.getfield 128, 3) := by decide +kernel
theorem dX10_measure_162 : decode cX10_measure 162 = .ok (.iload_n 2, 1) := by decide +kernel
theorem dX10_measure_163 : decode cX10_measure 163 = .ok (.i2l, 1) := by decide +kernel
theorem dX10_measure_164 : decode cX10_measure 164 = .ok (.ladd, 1) := by decide +kernel
theorem dX10_measure_165 : decode cX10_measure 165 = .ok (.putfield 128, 3) := by decide +kernel
theorem dX10_measure_168 : decode cX10_measure 168 = .ok (.iinc 1 1, 3) := by decide +kernel
theorem dX10_measure_171 : decode cX10_measure 171 = .ok (.goto (-149), 3) := by decide +kernel
theorem dX10_measure_174 : decode cX10_measure 174 = .ok (.return_, 1) := by decide +kernel
theorem wk_883 : Cond.fieldLink RX10 122 "ThinLine$View" "gapCount" "I" ∈ tl_L := List.mem_filter.mpr ⟨lw_m2 (i := 82) rfl, rfl⟩
theorem wk_884 : Cond.fieldLink RX10 125 "ThinLine$View" "usedCount" "I" ∈ tl_L := List.mem_filter.mpr ⟨lw_m2 (i := 85) rfl, rfl⟩
theorem wk_885 : Cond.fieldLink RX10 128 "ThinLine$View" "gapLeft" "J" ∈ tl_L := List.mem_filter.mpr ⟨lw_m2 (i := 86) rfl, rfl⟩
theorem wk_886 : Cond.fieldLink RX10 132 "ThinLine$View" "usedLeft" "J" ∈ tl_L := List.mem_filter.mpr ⟨lw_m2 (i := 87) rfl, rfl⟩
theorem wk_887 : Cond.methodLink RX10 135 Lib.Math.abs.name ∈ tl_L := List.mem_filter.mpr ⟨by decide +kernel, rfl⟩
theorem wk_888 : Cond.static Lib.Math.abs.name ∈ tl_L := List.mem_filter.mpr ⟨by decide +kernel, rfl⟩
theorem wk_889 : Cond.code Lib.Math.abs.name Lib.Math.abs.code 1 (some .int) ∈ tl_L := List.mem_filter.mpr ⟨List.mem_of_getElem? (i := 1067) (by decide +kernel), rfl⟩
theorem dX10_lay_0 : decode cX10_lay 0 = .ok (.aload_n 0, 1) := by decide +kernel
theorem dX10_lay_1 : decode cX10_lay 1 = .ok (.invokevirtual 91, 3) := by decide +kernel
theorem dX10_lay_4 : decode cX10_lay 4 = .ok (.aload_n 0, 1) := by decide +kernel
theorem dX10_lay_5 : decode cX10_lay 5 = .ok (.invokevirtual 94, 3) := by decide +kernel
theorem dX10_lay_8 : decode cX10_lay 8 = .ok (.aload_n 0, 1) := by decide +kernel
theorem dX10_lay_9 : decode cX10_lay 9 = .ok (.invokevirtual 97, 3) := by decide +kernel
theorem dX10_lay_12 : decode cX10_lay 12 = .ok (.return_, 1) := by decide +kernel
theorem wk_856 : Cond.methodLink RX10 91 yX10_layKnots ∈ tl_L := List.mem_filter.mpr ⟨lw_m4 (i := 144) rfl, rfl⟩
theorem wk_857 : Cond.instanceMethod yX10_layKnots ∈ tl_L := List.mem_filter.mpr ⟨lw_m4 (i := 146) rfl, rfl⟩
theorem wk_858 : Cond.selects RX10 yX10_layKnots yX10_layKnots ∈ tl_L := List.mem_filter.mpr ⟨lw_s4 (i := 8) (q := (yX10_layKnots, 18)) rfl, rfl⟩
theorem wk_859 : Cond.code yX10_layKnots cX10_layKnots 7 none ∈ tl_L := List.mem_filter.mpr ⟨lw_m4 (i := 147) rfl, rfl⟩
theorem wk_871 : Cond.methodLink RX10 94 yX10_layHeights ∈ tl_L := List.mem_filter.mpr ⟨lw_m4 (i := 157) rfl, rfl⟩
theorem wk_872 : Cond.instanceMethod yX10_layHeights ∈ tl_L := List.mem_filter.mpr ⟨lw_m4 (i := 159) rfl, rfl⟩
theorem wk_873 : Cond.selects RX10 yX10_layHeights yX10_layHeights ∈ tl_L := List.mem_filter.mpr ⟨lw_s4 (i := 10) (q := (yX10_layHeights, 18)) rfl, rfl⟩
theorem wk_874 : Cond.code yX10_layHeights cX10_layHeights 2 none ∈ tl_L := List.mem_filter.mpr ⟨lw_m4 (i := 160) rfl, rfl⟩
theorem wk_879 : Cond.methodLink RX10 97 yX10_measure ∈ tl_L := List.mem_filter.mpr ⟨lw_m4 (i := 165) rfl, rfl⟩
theorem wk_880 : Cond.instanceMethod yX10_measure ∈ tl_L := List.mem_filter.mpr ⟨lw_m4 (i := 167) rfl, rfl⟩
theorem wk_881 : Cond.selects RX10 yX10_measure yX10_measure ∈ tl_L := List.mem_filter.mpr ⟨lw_s4 (i := 12) (q := (yX10_measure, 18)) rfl, rfl⟩
theorem wk_882 : Cond.code yX10_measure cX10_measure 4 none ∈ tl_L := List.mem_filter.mpr ⟨lw_m4 (i := 168) rfl, rfl⟩
theorem lk_X10_91 : tl_kV RX10 91 RX10 yX10_layKnots cX10_layKnots 7 none 0 := ⟨wk_859, wk_856, wk_857, wk_858, wk_41, ⟨by decide +kernel, by decide +kernel, by decide +kernel⟩⟩
theorem lk_X10_94 : tl_kV RX10 94 RX10 yX10_layHeights cX10_layHeights 2 none 0 := ⟨wk_874, wk_871, wk_872, wk_873, wk_41, ⟨by decide +kernel, by decide +kernel, by decide +kernel⟩⟩
theorem lk_X10_97 : tl_kV RX10 97 RX10 yX10_measure cX10_measure 4 none 0 := ⟨wk_882, wk_879, wk_880, wk_881, wk_41, ⟨by decide +kernel, by decide +kernel, by decide +kernel⟩⟩
theorem dX10_moveTo_0 : decode cX10_moveTo 0 = .ok (.aload_n 0, 1) := by decide +kernel
theorem dX10_moveTo_1 : decode cX10_moveTo 1 = .ok (.iload_n 1, 1) := by decide +kernel
theorem dX10_moveTo_2 : decode cX10_moveTo 2 = .ok (.aload_n 0, 1) := by decide +kernel
theorem dX10_moveTo_3 : decode cX10_moveTo 3 = .ok (.getfield 81, 3) := by decide +kernel
theorem dX10_moveTo_6 : decode cX10_moveTo 6 = .ok (.iadd, 1) := by decide +kernel
theorem dX10_moveTo_7 : decode cX10_moveTo 7 = .ok (.aload_n 0, 1) := by decide +kernel
theorem dX10_moveTo_8 : decode cX10_moveTo 8 = .ok (.getfield 75, 3) := by decide +kernel
theorem dX10_moveTo_11 : decode cX10_moveTo 11 = .ok (.isub, 1) := by decide +kernel
theorem dX10_moveTo_12 : decode cX10_moveTo 12 = .ok (.putfield 81, 3) := by decide +kernel
theorem dX10_moveTo_15 : decode cX10_moveTo 15 = .ok (.aload_n 0, 1) := by decide +kernel
theorem dX10_moveTo_16 : decode cX10_moveTo 16 = .ok (.iload_n 1, 1) := by decide +kernel
theorem dX10_moveTo_17 : decode cX10_moveTo 17 = .ok (.putfield 75, 3) := by decide +kernel
theorem dX10_moveTo_20 : decode cX10_moveTo 20 = .ok (.aload_n 0, 1) := by decide +kernel
theorem dX10_moveTo_21 : decode cX10_moveTo 21 = .ok (.invokevirtual 88, 3) := by decide +kernel
theorem dX10_moveTo_24 : decode cX10_moveTo 24 = .ok (.return_, 1) := by decide +kernel
theorem wk_853 : Cond.instanceMethod yX10_lay ∈ tl_L := List.mem_filter.mpr ⟨lw_m4 (i := 142) rfl, rfl⟩
theorem wk_854 : Cond.selects RX10 yX10_lay yX10_lay ∈ tl_L := List.mem_filter.mpr ⟨lw_s4 (i := 7) (q := (yX10_lay, 18)) rfl, rfl⟩
theorem wk_855 : Cond.code yX10_lay cX10_lay 1 none ∈ tl_L := List.mem_filter.mpr ⟨lw_m4 (i := 143) rfl, rfl⟩
theorem wk_1002 : Cond.methodLink RX10 88 yX10_lay ∈ tl_L := List.mem_filter.mpr ⟨lw_m4 (i := 228) rfl, rfl⟩
theorem lk_X10_88 : tl_kV RX10 88 RX10 yX10_lay cX10_lay 1 none 0 := ⟨wk_855, wk_1002, wk_853, wk_854, wk_41, ⟨by decide +kernel, by decide +kernel, by decide +kernel⟩⟩
theorem dX10_bendTo_0 : decode cX10_bendTo 0 = .ok (.aload_n 0, 1) := by decide +kernel
theorem dX10_bendTo_1 : decode cX10_bendTo 1 = .ok (.iload_n 1, 1) := by decide +kernel
theorem dX10_bendTo_2 : decode cX10_bendTo 2 = .ok (.putfield 69, 3) := by decide +kernel
theorem dX10_bendTo_5 : decode cX10_bendTo 5 = .ok (.aload_n 0, 1) := by decide +kernel
theorem dX10_bendTo_6 : decode cX10_bendTo 6 = .ok (.invokevirtual 88, 3) := by decide +kernel
theorem dX10_bendTo_9 : decode cX10_bendTo 9 = .ok (.return_, 1) := by decide +kernel
theorem dX10_isLaid_0 : decode cX10_isLaid 0 = .ok (.aload_n 0, 1) := by decide +kernel
theorem dX10_isLaid_1 : decode cX10_isLaid 1 = .ok (.getfield 100, 3) := by decide +kernel
theorem dX10_isLaid_4 : decode cX10_isLaid 4 = .ok (.ifCond .le 7, 3) := by decide +kernel
theorem dX10_isLaid_7 : decode cX10_isLaid 7 = .ok (.iconst 1, 1) := by decide +kernel
theorem dX10_isLaid_8 : decode cX10_isLaid 8 = .ok (.goto 4, 3) := by decide +kernel
theorem dX10_isLaid_11 : decode cX10_isLaid 11 = .ok (.iconst 0, 1) := by decide +kernel
theorem dX10_isLaid_12 : decode cX10_isLaid 12 = .ok (.ireturn, 1) := by decide +kernel
theorem dX10_hasDeep_0 : decode cX10_hasDeep 0 = .ok (.aload_n 0, 1) := by decide +kernel
theorem dX10_hasDeep_1 : decode cX10_hasDeep 1 = .ok (.getfield 100, 3) := by decide +kernel
theorem dX10_hasDeep_4 : decode cX10_hasDeep 4 = .ok (.ifCond .le 14, 3) := by decide +kernel
theorem dX10_hasDeep_7 : decode cX10_hasDeep 7 = .ok (.aload_n 0, 1) := by decide +kernel
theorem dX10_hasDeep_8 : decode cX10_hasDeep 8 = .ok (.getfield 122, 3) := by decide +kernel
theorem dX10_hasDeep_11 : decode cX10_hasDeep 11 = .ok (.ifCond .le 7, 3) := by decide +kernel
theorem dX10_hasDeep_14 : decode cX10_hasDeep 14 = .ok (.iconst 1, 1) := by decide +kernel
theorem dX10_hasDeep_15 : decode cX10_hasDeep 15 = .ok (.goto 4, 3) := by decide +kernel
theorem dX10_hasDeep_18 : decode cX10_hasDeep 18 = .ok (.iconst 0, 1) := by decide +kernel
theorem dX10_hasDeep_19 : decode cX10_hasDeep 19 = .ok (.ireturn, 1) := by decide +kernel
theorem dX10_deepness_0 : decode cX10_deepness 0 = .ok (.aload_n 0, 1) := by decide +kernel
theorem dX10_deepness_1 : decode cX10_deepness 1 = .ok (.invokevirtual 139, 3) := by decide +kernel
theorem dX10_deepness_4 : decode cX10_deepness 4 = .ok (.ifCond .eq 20, 3) := by decide +kernel
theorem dX10_deepness_7 : decode cX10_deepness 7 = .ok (.aload_n 0, 1) := by decide +kernel
theorem dX10_deepness_8 : decode cX10_deepness 8 = .ok (.getfield 128, 3) := by decide +kernel
theorem dX10_deepness_11 : decode cX10_deepness 11 = .ok (.lneg, 1) := by decide +kernel
theorem dX10_deepness_12 : decode cX10_deepness 12 = .ok (.aload_n 0, 1) := by decide +kernel
theorem dX10_deepness_13 : decode cX10_deepness 13 = .ok (.getfield 122, 3) := by decide +kernel
theorem dX10_deepness_16 : decode cX10_deepness 16 = .ok (.i2l, 1) := by decide +kernel
theorem dX10_deepness_17 : decode cX10_deepness 17 = .ok (.invokestatic 143, 3) := by decide +kernel
theorem dX10_deepness_20 : decode cX10_deepness 20 = .ok (.l2i, 1) := by decide +kernel
theorem dX10_deepness_21 : decode cX10_deepness 21 = .ok (.goto 5, 3) := by decide +kernel
theorem dX10_deepness_24 : decode cX10_deepness 24 = .ok (.ldc 146, 2) := by decide +kernel
theorem dX10_deepness_26 : decode cX10_deepness 26 = .ok (.ireturn, 1) := by decide +kernel
theorem wk_966 : Cond.constant RX10 146 (-1000000) ∈ tl_L := List.mem_filter.mpr ⟨lw_m4 (i := 201) rfl, rfl⟩
theorem wk_967 : Cond.methodLink RX10 139 yX10_hasDeep ∈ tl_L := List.mem_filter.mpr ⟨lw_m4 (i := 194) rfl, rfl⟩
theorem wk_968 : Cond.instanceMethod yX10_hasDeep ∈ tl_L := List.mem_filter.mpr ⟨lw_m4 (i := 196) rfl, rfl⟩
theorem wk_969 : Cond.selects RX10 yX10_hasDeep yX10_hasDeep ∈ tl_L := List.mem_filter.mpr ⟨lw_s5 (i := 1) (q := (yX10_hasDeep, 18)) rfl, rfl⟩
theorem wk_970 : Cond.code yX10_hasDeep cX10_hasDeep 1 (some .boolean) ∈ tl_L := List.mem_filter.mpr ⟨lw_m4 (i := 197) rfl, rfl⟩
theorem wk_971 : Cond.methodLink RX10 143 yJ9_floorDiv_f86c9 ∈ tl_L := List.mem_filter.mpr ⟨lw_m4 (i := 198) rfl, rfl⟩
theorem wk_972 : Cond.static yJ9_floorDiv_f86c9 ∈ tl_L := List.mem_filter.mpr ⟨lw_m4 (i := 199) rfl, rfl⟩
theorem wk_973 : Cond.code yJ9_floorDiv_f86c9 cJ9_floorDiv_f86c9 6 (some .long) ∈ tl_L := List.mem_filter.mpr ⟨lw_m4 (i := 200) rfl, rfl⟩
theorem lk_X10_139 : tl_kV RX10 139 RX10 yX10_hasDeep cX10_hasDeep 1 (some .boolean) 0 := ⟨wk_970, wk_967, wk_968, wk_969, wk_41, ⟨by decide +kernel, by decide +kernel, by decide +kernel⟩⟩
theorem lk_X10_143 : tl_kS RX10 143 yJ9_floorDiv_f86c9 cJ9_floorDiv_f86c9 6 (some .long) 2 := ⟨wk_973, wk_971, wk_972, wk_869, ⟨by decide +kernel, by decide +kernel, by decide +kernel⟩⟩
theorem dX10_noisiness_0 : decode cX10_noisiness 0 = .ok (.iconst 1, 1) := by decide +kernel
theorem dX10_noisiness_1 : decode cX10_noisiness 1 = .ok (.aload_n 0, 1) := by decide +kernel
theorem dX10_noisiness_2 : decode cX10_noisiness 2 = .ok (.getfield 125, 3) := by decide +kernel
theorem dX10_noisiness_5 : decode cX10_noisiness 5 = .ok (.invokestatic 103, 3) := by decide +kernel
theorem dX10_noisiness_8 : decode cX10_noisiness 8 = .ok (.istore_n 1, 1) := by decide +kernel
theorem dX10_noisiness_9 : decode cX10_noisiness 9 = .ok (.lconst 1, 1) := by decide +kernel
theorem dX10_noisiness_10 : decode cX10_noisiness 10 = .ok (.aload_n 0, 1) := by decide +kernel
theorem dX10_noisiness_11 : decode cX10_noisiness 11 = .ok (.getfield 132, 3) := by decide +kernel
theorem dX10_noisiness_14 : decode cX10_noisiness 14 = .ok (.iload_n 1, 1) := by decide +kernel
theorem dX10_noisiness_15 : decode cX10_noisiness 15 = .ok (.i2l, 1) := by decide +kernel
theorem dX10_noisiness_16 : decode cX10_noisiness 16 = .ok (.ladd, 1) := by decide +kernel
theorem dX10_noisiness_17 : decode cX10_noisiness 17 = .ok (.lconst 1, 1) := by decide +kernel
theorem dX10_noisiness_18 : decode cX10_noisiness 18 = .ok (.lsub, 1) := by decide +kernel
theorem dX10_noisiness_19 : decode cX10_noisiness 19 = .ok (.iload_n 1, 1) := by decide +kernel
theorem dX10_noisiness_20 : decode cX10_noisiness 20 = .ok (.i2l, 1) := by decide +kernel
theorem dX10_noisiness_21 : decode cX10_noisiness 21 = .ok (.ldiv, 1) := by decide +kernel
theorem dX10_noisiness_22 : decode cX10_noisiness 22 = .ok (.invokestatic 147, 3) := by decide +kernel
theorem dX10_noisiness_25 : decode cX10_noisiness 25 = .ok (.lreturn, 1) := by decide +kernel
theorem wk_977 : Cond.methodLink RX10 147 Lib.MathLoose.max_long.x ∈ tl_L := List.mem_filter.mpr ⟨by decide +kernel, rfl⟩
theorem dX10_scored_0 : decode cX10_scored 0 = .ok (.aload_n 0, 1) := by decide +kernel
theorem dX10_scored_1 : decode cX10_scored 1 = .ok (.invokevirtual 139, 3) := by decide +kernel
theorem dX10_scored_4 : decode cX10_scored 4 = .ok (.ifCond .eq 22, 3) := by decide +kernel
theorem dX10_scored_7 : decode cX10_scored 7 = .ok (.ldc2_w 149, 3) := by decide +kernel
theorem dX10_scored_10 : decode cX10_scored 10 = .ok (.aload_n 0, 1) := by decide +kernel
theorem dX10_scored_11 : decode cX10_scored 11 = .ok (.invokevirtual 151, 3) := by decide +kernel
theorem dX10_scored_14 : decode cX10_scored 14 = .ok (.i2l, 1) := by decide +kernel
theorem dX10_scored_15 : decode cX10_scored 15 = .ok (.lmul, 1) := by decide +kernel
theorem dX10_scored_16 : decode cX10_scored 16 = .ok (.aload_n 0, 1) := by decide +kernel
theorem dX10_scored_17 : decode cX10_scored 17 = .ok (.invokevirtual 155, 3) := by decide +kernel
theorem dX10_scored_20 : decode cX10_scored 20 = .ok (.invokestatic 143, 3) := by decide +kernel
theorem dX10_scored_23 : decode cX10_scored 23 = .ok (.goto 6, 3) := by decide +kernel
theorem dX10_scored_26 : decode cX10_scored 26 = .ok (.ldc2_w 159, 3) := by decide +kernel
theorem dX10_scored_29 : decode cX10_scored 29 = .ok (.lreturn, 1) := by decide +kernel
theorem wk_963 : Cond.instanceMethod yX10_deepness ∈ tl_L := List.mem_filter.mpr ⟨lw_m4 (i := 192) rfl, rfl⟩
theorem wk_964 : Cond.selects RX10 yX10_deepness yX10_deepness ∈ tl_L := List.mem_filter.mpr ⟨lw_s5 (i := 0) (q := (yX10_deepness, 18)) rfl, rfl⟩
theorem wk_965 : Cond.code yX10_deepness cX10_deepness 1 (some .int) ∈ tl_L := List.mem_filter.mpr ⟨lw_m4 (i := 193) rfl, rfl⟩
theorem wk_974 : Cond.instanceMethod yX10_noisiness ∈ tl_L := List.mem_filter.mpr ⟨lw_m4 (i := 204) rfl, rfl⟩
theorem wk_975 : Cond.selects RX10 yX10_noisiness yX10_noisiness ∈ tl_L := List.mem_filter.mpr ⟨lw_s5 (i := 2) (q := (yX10_noisiness, 18)) rfl, rfl⟩
theorem wk_976 : Cond.code yX10_noisiness cX10_noisiness 2 (some .long) ∈ tl_L := List.mem_filter.mpr ⟨lw_m4 (i := 205) rfl, rfl⟩
theorem wk_981 : Cond.constantLong RX10 149 (1000) ∈ tl_L := List.mem_filter.mpr ⟨lw_m4 (i := 212) rfl, rfl⟩
theorem wk_982 : Cond.constantLong RX10 159 (-1000000000) ∈ tl_L := List.mem_filter.mpr ⟨lw_m4 (i := 215) rfl, rfl⟩
theorem wk_983 : Cond.methodLink RX10 151 yX10_deepness ∈ tl_L := List.mem_filter.mpr ⟨lw_m4 (i := 213) rfl, rfl⟩
theorem wk_984 : Cond.methodLink RX10 155 yX10_noisiness ∈ tl_L := List.mem_filter.mpr ⟨lw_m4 (i := 214) rfl, rfl⟩
theorem lk_X10_151 : tl_kV RX10 151 RX10 yX10_deepness cX10_deepness 1 (some .int) 0 := ⟨wk_965, wk_983, wk_963, wk_964, wk_41, ⟨by decide +kernel, by decide +kernel, by decide +kernel⟩⟩
theorem lk_X10_155 : tl_kV RX10 155 RX10 yX10_noisiness cX10_noisiness 2 (some .long) 0 := ⟨wk_976, wk_984, wk_974, wk_975, wk_41, ⟨by decide +kernel, by decide +kernel, by decide +kernel⟩⟩
theorem dX10_isNotBelow_0 : decode cX10_isNotBelow 0 = .ok (.aload_n 0, 1) := by decide +kernel
theorem dX10_isNotBelow_1 : decode cX10_isNotBelow 1 = .ok (.invokevirtual 139, 3) := by decide +kernel
theorem dX10_isNotBelow_4 : decode cX10_isNotBelow 4 = .ok (.ifCond .eq 16, 3) := by decide +kernel
theorem dX10_isNotBelow_7 : decode cX10_isNotBelow 7 = .ok (.aload_n 0, 1) := by decide +kernel
theorem dX10_isNotBelow_8 : decode cX10_isNotBelow 8 = .ok (.invokevirtual 161, 3) := by decide +kernel
theorem dX10_isNotBelow_11 : decode cX10_isNotBelow 11 = .ok (.lload_n 1, 1) := by decide +kernel
theorem dX10_isNotBelow_12 : decode cX10_isNotBelow 12 = .ok (.lcmp, 1) := by decide +kernel
theorem dX10_isNotBelow_13 : decode cX10_isNotBelow 13 = .ok (.ifCond .lt 7, 3) := by decide +kernel
theorem dX10_isNotBelow_16 : decode cX10_isNotBelow 16 = .ok (.iconst 1, 1) := by decide +kernel
theorem dX10_isNotBelow_17 : decode cX10_isNotBelow 17 = .ok (.goto 4, 3) := by decide +kernel
theorem dX10_isNotBelow_20 : decode cX10_isNotBelow 20 = .ok (.iconst 0, 1) := by decide +kernel
theorem dX10_isNotBelow_21 : decode cX10_isNotBelow 21 = .ok (.ireturn, 1) := by decide +kernel
theorem wk_978 : Cond.instanceMethod yX10_scored ∈ tl_L := List.mem_filter.mpr ⟨lw_m4 (i := 210) rfl, rfl⟩
theorem wk_979 : Cond.selects RX10 yX10_scored yX10_scored ∈ tl_L := List.mem_filter.mpr ⟨lw_s5 (i := 3) (q := (yX10_scored, 18)) rfl, rfl⟩
theorem wk_980 : Cond.code yX10_scored cX10_scored 1 (some .long) ∈ tl_L := List.mem_filter.mpr ⟨lw_m4 (i := 211) rfl, rfl⟩
theorem wk_1023 : Cond.methodLink RX10 161 yX10_scored ∈ tl_L := List.mem_filter.mpr ⟨lw_m4 (i := 239) rfl, rfl⟩
theorem lk_X10_161 : tl_kV RX10 161 RX10 yX10_scored cX10_scored 1 (some .long) 0 := ⟨wk_980, wk_1023, wk_978, wk_979, wk_41, ⟨by decide +kernel, by decide +kernel, by decide +kernel⟩⟩
theorem dX10_squares_0 : decode cX10_squares 0 = .ok (.lconst 0, 1) := by decide +kernel
theorem dX10_squares_1 : decode cX10_squares 1 = .ok (.lstore_n 1, 1) := by decide +kernel
theorem dX10_squares_2 : decode cX10_squares 2 = .ok (.iconst 0, 1) := by decide +kernel
theorem dX10_squares_3 : decode cX10_squares 3 = .ok (.istore_n 3, 1) := by decide +kernel
theorem dX10_squares_4 : decode cX10_squares 4 = .ok (.iload_n 3, 1) := by decide +kernel
theorem dX10_squares_5 : decode cX10_squares 5 = .ok (.sipush 300, 3) := by decide +kernel
theorem dX10_squares_8 : decode cX10_squares 8 = .ok (.if_icmp .ge 46, 3) := by decide +kernel
theorem dX10_squares_11 : decode cX10_squares 11 = .ok (.aload_n 0, 1) := by decide +kernel
theorem dX10_squares_12 : decode cX10_squares 12 = .ok (.getfield 18, 3) := by decide +kernel
theorem dX10_squares_15 : decode cX10_squares 15 = .ok (.iload_n 3, 1) := by decide +kernel
theorem dX10_squares_16 : decode cX10_squares 16 = .ok (.baload, 1) := by decide +kernel
theorem dX10_squares_17 : decode cX10_squares 17 = .ok (.ifCond .eq 20, 3) := by decide +kernel
theorem dX10_squares_20 : decode cX10_squares 20 = .ok (.aload_n 0, 1) := by decide +kernel
theorem dX10_squares_21 : decode cX10_squares 21 = .ok (.getfield 21, 3) := by decide +kernel
theorem dX10_squares_24 : decode cX10_squares 24 = .ok (.iload_n 3, 1) := by decide +kernel
theorem dX10_squares_25 : decode cX10_squares 25 = .ok (.iaload, 1) := by decide +kernel
theorem dX10_squares_26 : decode cX10_squares 26 = .ok (.aload_n 0, 1) := by decide +kernel
theorem dX10_squares_27 : decode cX10_squares 27 = .ok (.getfield 25, 3) := by decide +kernel
theorem dX10_squares_30 : decode cX10_squares 30 = .ok (.iload_n 3, 1) := by decide +kernel
theorem dX10_squares_31 : decode cX10_squares 31 = .ok (.iaload, 1) := by decide +kernel
theorem dX10_squares_32 : decode cX10_squares 32 = .ok (.isub, 1) := by decide +kernel
theorem dX10_squares_33 : decode cX10_squares 33 = .ok (.i2l, 1) := by decide +kernel
theorem dX10_squares_34 : decode cX10_squares 34 = .ok (.goto 4, 3) := by decide +kernel
theorem dX10_squares_37 : decode cX10_squares 37 = .ok (.lconst 0, 1) := by decide +kernel
theorem dX10_squares_38 : decode cX10_squares 38 = .ok (.lstore 4, 2) := by decide +kernel
theorem dX10_squares_40 : decode cX10_squares 40 = .ok (.lload_n 1, 1) := by decide +kernel
theorem dX10_squares_41 : decode cX10_squares 41 = .ok (.lload 4, 2) := by decide +kernel
theorem dX10_squares_43 : decode cX10_squares 43 = .ok (.lload 4, 2) := by decide +kernel
theorem dX10_squares_45 : decode cX10_squares 45 = .ok (.lmul, 1) := by decide +kernel
theorem dX10_squares_46 : decode cX10_squares 46 = .ok (.ladd, 1) := by decide +kernel
theorem dX10_squares_47 : decode cX10_squares 47 = .ok (.lstore_n 1, 1) := by decide +kernel
theorem dX10_squares_48 : decode cX10_squares 48 = .ok (.iinc 3 1, 3) := by decide +kernel
theorem dX10_squares_51 : decode cX10_squares 51 = .ok (.goto (-47), 3) := by decide +kernel
theorem dX10_squares_54 : decode cX10_squares 54 = .ok (.lload_n 1, 1) := by decide +kernel
theorem dX10_squares_55 : decode cX10_squares 55 = .ok (.lreturn, 1) := by decide +kernel
theorem dX10_skipBy_0 : decode cX10_skipBy 0 = .ok (.iconst 0, 1) := by decide +kernel
theorem dX10_skipBy_1 : decode cX10_skipBy 1 = .ok (.istore_n 3, 1) := by decide +kernel
theorem dX10_skipBy_2 : decode cX10_skipBy 2 = .ok (.iload_n 3, 1) := by decide +kernel
theorem dX10_skipBy_3 : decode cX10_skipBy 3 = .ok (.sipush 300, 3) := by decide +kernel
theorem dX10_skipBy_6 : decode cX10_skipBy 6 = .ok (.if_icmp .ge 16, 3) := by decide +kernel
theorem dX10_skipBy_9 : decode cX10_skipBy 9 = .ok (.aload_n 0, 1) := by decide +kernel
theorem dX10_skipBy_10 : decode cX10_skipBy 10 = .ok (.getfield 15, 3) := by decide +kernel
theorem dX10_skipBy_13 : decode cX10_skipBy 13 = .ok (.iload_n 3, 1) := by decide +kernel
theorem dX10_skipBy_14 : decode cX10_skipBy 14 = .ok (.iconst 0, 1) := by decide +kernel
theorem dX10_skipBy_15 : decode cX10_skipBy 15 = .ok (.bastore, 1) := by decide +kernel
theorem dX10_skipBy_16 : decode cX10_skipBy 16 = .ok (.iinc 3 1, 3) := by decide +kernel
theorem dX10_skipBy_19 : decode cX10_skipBy 19 = .ok (.goto (-17), 3) := by decide +kernel
theorem dX10_skipBy_22 : decode cX10_skipBy 22 = .ok (.iconst 0, 1) := by decide +kernel
theorem dX10_skipBy_23 : decode cX10_skipBy 23 = .ok (.istore_n 3, 1) := by decide +kernel
theorem dX10_skipBy_24 : decode cX10_skipBy 24 = .ok (.iload_n 3, 1) := by decide +kernel
theorem dX10_skipBy_25 : decode cX10_skipBy 25 = .ok (.aload_n 1, 1) := by decide +kernel
theorem dX10_skipBy_26 : decode cX10_skipBy 26 = .ok (.getfield 40, 3) := by decide +kernel
theorem dX10_skipBy_29 : decode cX10_skipBy 29 = .ok (.if_icmp .ge 86, 3) := by decide +kernel
theorem dX10_skipBy_32 : decode cX10_skipBy 32 = .ok (.iload_n 3, 1) := by decide +kernel
theorem dX10_skipBy_33 : decode cX10_skipBy 33 = .ok (.bipush 12, 2) := by decide +kernel
theorem dX10_skipBy_35 : decode cX10_skipBy 35 = .ok (.if_icmp .ge 80, 3) := by decide +kernel
theorem dX10_skipBy_38 : decode cX10_skipBy 38 = .ok (.iconst 0, 1) := by decide +kernel
theorem dX10_skipBy_39 : decode cX10_skipBy 39 = .ok (.istore 4, 2) := by decide +kernel
theorem dX10_skipBy_41 : decode cX10_skipBy 41 = .ok (.aload_n 1, 1) := by decide +kernel
theorem dX10_skipBy_42 : decode cX10_skipBy 42 = .ok (.getfield 46, 3) := by decide +kernel
theorem dX10_skipBy_45 : decode cX10_skipBy 45 = .ok (.iload_n 3, 1) := by decide +kernel
theorem dX10_skipBy_46 : decode cX10_skipBy 46 = .ok (.iaload, 1) := by decide +kernel
theorem dX10_skipBy_47 : decode cX10_skipBy 47 = .ok (.bipush 7, 2) := by decide +kernel
theorem dX10_skipBy_49 : decode cX10_skipBy 49 = .ok (.if_icmp .ne 60, 3) := by decide +kernel
theorem dX10_skipBy_52 : decode cX10_skipBy 52 = .ok (.iload 4, 2) := by decide +kernel
theorem dX10_skipBy_54 : decode cX10_skipBy 54 = .ok (.sipush 300, 3) := by decide +kernel
theorem dX10_skipBy_57 : decode cX10_skipBy 57 = .ok (.if_icmp .ge 52, 3) := by decide +kernel
theorem dX10_skipBy_60 : decode cX10_skipBy 60 = .ok (.aload_n 2, 1) := by decide +kernel
theorem dX10_skipBy_61 : decode cX10_skipBy 61 = .ok (.iload 4, 2) := by decide +kernel
theorem dX10_skipBy_63 : decode cX10_skipBy 63 = .ok (.invokevirtual 49, 3) := by decide +kernel
theorem dX10_skipBy_66 : decode cX10_skipBy 66 = .ok (.aload_n 0, 1) := by decide +kernel
theorem dX10_skipBy_67 : decode cX10_skipBy 67 = .ok (.getfield 15, 3) := by decide +kernel
theorem dX10_skipBy_70 : decode cX10_skipBy 70 = .ok (.iload 4, 2) := by decide +kernel
theorem dX10_skipBy_72 : decode cX10_skipBy 72 = .ok (.dup2, 1) := by decide +kernel
theorem dX10_skipBy_73 : decode cX10_skipBy 73 = .ok (.baload, 1) := by decide +kernel
theorem dX10_skipBy_74 : decode cX10_skipBy 74 = .ok (.aload_n 2, 1) := by decide +kernel
theorem dX10_skipBy_75 : decode cX10_skipBy 75 = .ok (.aload_n 1, 1) := by decide +kernel
theorem dX10_skipBy_76 : decode cX10_skipBy 76 = .ok (.aload_n 1, 1) := by decide +kernel
theorem dX10_skipBy_77 : decode cX10_skipBy 77 = .ok (.getfield 55, 3) := by decide +kernel
theorem dX10_skipBy_80 : decode cX10_skipBy 80 = .ok (.iload_n 3, 1) := by decide +kernel
theorem dX10_skipBy_81 : decode cX10_skipBy 81 = .ok (.iaload, 1) := by decide +kernel
theorem dX10_skipBy_82 : decode cX10_skipBy 82 = .ok (.aload_n 1, 1) := by decide +kernel
theorem dX10_skipBy_83 : decode cX10_skipBy 83 = .ok (.getfield 58, 3) := by decide +kernel
theorem dX10_skipBy_86 : decode cX10_skipBy 86 = .ok (.iload_n 3, 1) := by decide +kernel
theorem dX10_skipBy_87 : decode cX10_skipBy 87 = .ok (.iaload, 1) := by decide +kernel
theorem dX10_skipBy_88 : decode cX10_skipBy 88 = .ok (.invokevirtual 61, 3) := by decide +kernel
theorem dX10_skipBy_91 : decode cX10_skipBy 91 = .ok (.lconst 0, 1) := by decide +kernel
theorem dX10_skipBy_92 : decode cX10_skipBy 92 = .ok (.lcmp, 1) := by decide +kernel
theorem dX10_skipBy_93 : decode cX10_skipBy 93 = .ok (.ifCond .eq 7, 3) := by decide +kernel
theorem dX10_skipBy_96 : decode cX10_skipBy 96 = .ok (.iconst 1, 1) := by decide +kernel
theorem dX10_skipBy_97 : decode cX10_skipBy 97 = .ok (.goto 4, 3) := by decide +kernel
theorem dX10_skipBy_100 : decode cX10_skipBy 100 = .ok (.iconst 0, 1) := by decide +kernel
theorem dX10_skipBy_101 : decode cX10_skipBy 101 = .ok (.ior, 1) := by decide +kernel
theorem dX10_skipBy_102 : decode cX10_skipBy 102 = .ok (.bastore, 1) := by decide +kernel
theorem dX10_skipBy_103 : decode cX10_skipBy 103 = .ok (.iinc 4 1, 3) := by decide +kernel
theorem dX10_skipBy_106 : decode cX10_skipBy 106 = .ok (.goto (-65), 3) := by decide +kernel
theorem dX10_skipBy_109 : decode cX10_skipBy 109 = .ok (.iinc 3 1, 3) := by decide +kernel
theorem dX10_skipBy_112 : decode cX10_skipBy 112 = .ok (.goto (-88), 3) := by decide +kernel
theorem dX10_skipBy_115 : decode cX10_skipBy 115 = .ok (.return_, 1) := by decide +kernel
theorem wk_733 : Cond.instanceMethod yX5_setColour ∈ tl_L := List.mem_filter.mpr ⟨lw_m4 (i := 54) rfl, rfl⟩
theorem wk_734 : Cond.selects RX5 yX5_setColour yX5_setColour ∈ tl_L := List.mem_filter.mpr ⟨lw_s3 (i := 11) (q := (yX5_setColour, 2)) rfl, rfl⟩
theorem wk_735 : Cond.code yX5_setColour cX5_setColour 2 none ∈ tl_L := List.mem_filter.mpr ⟨lw_m4 (i := 55) rfl, rfl⟩
theorem nk_36 : tl_N[36]? = some (Cond.fieldLinkNest "ThinLine$View" 40 "ThinLine$Text" "clauses" "I" "ThinLine") := by decide +kernel
theorem nk_40 : tl_N[40]? = some (Cond.fieldLinkNest "ThinLine$View" 46 "ThinLine$Text" "head" "[I" "ThinLine") := by decide +kernel
theorem nk_48 : tl_N[48]? = some (Cond.fieldLinkNest "ThinLine$View" 55 "ThinLine$Text" "testAt" "[I" "ThinLine") := by decide +kernel
theorem nk_51 : tl_N[51]? = some (Cond.fieldLinkNest "ThinLine$View" 58 "ThinLine$Text" "endAt" "[I" "ThinLine") := by decide +kernel
theorem lk_X10_49 : tl_kVN RX10 49 RX5 yX5_setColour "ThinLine" cX5_setColour 2 none 1 110 := ⟨wk_735, by decide +kernel, wk_733, wk_734, wk_33, ⟨by decide +kernel, by decide +kernel, by decide +kernel⟩⟩
theorem lk_X10_61 : tl_kVN RX10 61 RX5 yX5_worked "ThinLine" cX5_worked 8 (some .long) 3 111 := ⟨wk_745, by decide +kernel, wk_743, wk_744, wk_33, ⟨by decide +kernel, by decide +kernel, by decide +kernel⟩⟩
set_option maxHeartbeats 4000000 in
set_option maxRecDepth 100000 in
theorem t_X10_gapLength (l : Launch) (D : va_G) (cy : Nat → ClassId) (sz : Nat) (L : List Nat) (K : Nat → tk_K) (Γ : tk_G) (f : Nat → va_E) (o : Nat) (ho : tp_r L K 27 (0) 0 o) : Met l yX10_gapLength (tl_w yX10_gapLength cX10_gapLength 1 (some .int)) ({ frames := 0, cells := 0, slots := 0, locals := 0 }) (va_Pc [.ref o] (tp_P D cy L K Γ f sz)) (vp_Si (fun r : Int32 => tv_len (f o) r)) 0 0 (fun _ => False) := by
  refine Met.ofW (cc := cX10_gapLength) (maxL := 1) (ret := (some .int)) (by decide) rfl ?_
  intro p e s m args below meth c s₁ B hml hv
  obtain ⟨rfl, hsz, hP, hK, hL, hI, hN, hU⟩ := hv
  have hx := B.exec
  have hb := B.bytes
  have hr := B.returns
  have hta := tl_hta (atoms_spec (ws := tl_w yX10_gapLength cX10_gapLength 1 (some .int)) B.pre)
  have hown : s.vm.findClass RX10 = some m.cls := findClass_of_methodNamed B.named
  have hlocks := B.notSynchronized
  subst hsz
  have hI0 := hI
  have hl := lv_entry ([.ref o]) (n := 1) (Nat.le_of_ble_eq_true rfl)
  rw [lg_entry_eq]
  generalize (lg_sl ([.ref o]) ++ List.replicate (1 - (lg_sl ([.ref o])).length) Slot.unset).toArray = ls at hl ⊢
  have hl : lv_has ls 1 [(0, .ref o)] := hl
  refine lv_aload_n hx hb dX10_gapLength_0 rfl (lv_at hl 0 rfl) ?_
  obtain ⟨x_2, x_3, x_4, x_5, x_6, x_7, x_8, x_9, x_10, x_11, x_12, x_13, x_14, x_15, x_16, x_17, x_18, x_19, hf_1, hx_2, hx_3, hx_4, hx_5, hx_6, hx_7, hx_8, hx_9, hx_10, hx_12, hx_15⟩ := (show tp_o_VIEW L K (0) 0 (Γ (27, 0, 0)) (f o) from hI0.at ho)
  refine tp_get (cy := cy) (ci := 10) (v := .int x_14) (C := RX10) (T := TX10) (N := 18) hx hb hta inlX10 hown hK hP ho.1 hf_1 rfl 12 (by decide) (hta _ wk_849) (fun _ h9 => h9) rfl dX10_gapLength_1 ?_
  refine lv_aload_n hx hb dX10_gapLength_4 rfl (lv_at hl 0 rfl) ?_
  refine tp_get (cy := cy) (ci := 10) (v := .int x_13) (C := RX10) (T := TX10) (N := 18) hx hb hta inlX10 hown hK hP ho.1 hf_1 rfl 11 (by decide) (hta _ wk_848) (fun _ h9 => h9) rfl dX10_gapLength_5 ?_
  refine lv_isub hx hb dX10_gapLength_8 ?_
  refine lv_topi (fun z_20 ez_20 => ?_)
  try have iz_20 : z_20.toInt = x_14.toInt - x_13.toInt := by rw [ez_20]; exact tl_subN x_14 x_13 rfl rfl (by omega) (by omega)
  refine lv_iconst (v := 1) hx hb dX10_gapLength_9 (by decide) ?_
  refine lv_iadd hx hb dX10_gapLength_10 ?_
  refine lv_topi (fun z_21 ez_21 => ?_)
  try have iz_21 : z_21.toInt = z_20.toInt + (1 : Int) := by rw [ez_21]; exact tl_addN z_20 1 rfl rfl (by omega) (by omega)
  exact W.iret (v := z_21) hx hb hr (fun t ht hW => ⟨_, rfl, (fun fs a9 b9 q1 q2 q3 => by obtain rfl := tv_in hf_1 q1; obtain rfl := tv_int q2; obtain rfl := tv_int q3; simp only [*]), ht⟩) (fun q h => by cases h) dX10_gapLength_11
set_option maxHeartbeats 4000000 in
set_option maxRecDepth 100000 in
theorem t_X10_isInGap (l : Launch) (D : va_G) (cy : Nat → ClassId) (sz : Nat) (L : List Nat) (K : Nat → tk_K) (Γ : tk_G) (f : Nat → va_E) (o : Nat) (p0 : Int32) (ho : tp_r L K 27 (0) 0 o) : Met l yX10_isInGap (tl_w yX10_isInGap cX10_isInGap 2 (some .boolean)) ({ frames := 0, cells := 0, slots := 0, locals := 0 }) (va_Pc [.ref o, .int p0] (tp_P D cy L K Γ f sz)) (vp_Si (fun r : Int32 => tl_J r (True))) 0 0 (fun _ => False) := by
  refine Met.ofW (cc := cX10_isInGap) (maxL := 2) (ret := (some .boolean)) (by decide) rfl ?_
  intro p e s m args below meth c s₁ B hml hv
  obtain ⟨rfl, hsz, hP, hK, hL, hI, hN, hU⟩ := hv
  have hx := B.exec
  have hb := B.bytes
  have hr := B.returns
  have hta := tl_hta (atoms_spec (ws := tl_w yX10_isInGap cX10_isInGap 2 (some .boolean)) B.pre)
  have hown : s.vm.findClass RX10 = some m.cls := findClass_of_methodNamed B.named
  have hlocks := B.notSynchronized
  subst hsz
  have hI0 := hI
  have hl := lv_entry ([.ref o, .int p0]) (n := 2) (Nat.le_of_ble_eq_true rfl)
  rw [lg_entry_eq]
  generalize (lg_sl ([.ref o, .int p0]) ++ List.replicate (2 - (lg_sl ([.ref o, .int p0])).length) Slot.unset).toArray = ls at hl ⊢
  have hl : lv_has ls 2 [(0, .ref o), (1, .int p0)] := hl
  refine lv_iload_n hx hb dX10_isInGap_0 rfl (lv_at hl 1 rfl) ?_
  refine lv_aload_n hx hb dX10_isInGap_1 rfl (lv_at hl 0 rfl) ?_
  obtain ⟨x_2, x_3, x_4, x_5, x_6, x_7, x_8, x_9, x_10, x_11, x_12, x_13, x_14, x_15, x_16, x_17, x_18, x_19, hf_1, hx_2, hx_3, hx_4, hx_5, hx_6, hx_7, hx_8, hx_9, hx_10, hx_12, hx_15⟩ := (show tp_o_VIEW L K (0) 0 (Γ (27, 0, 0)) (f o) from hI0.at ho)
  refine tp_get (cy := cy) (ci := 10) (v := .int x_13) (C := RX10) (T := TX10) (N := 18) hx hb hta inlX10 hown hK hP ho.1 hf_1 rfl 11 (by decide) (hta _ wk_848) (fun _ h9 => h9) rfl dX10_isInGap_2 ?_
  refine lv_icmp_lt (tgt := 20) hx hb dX10_isInGap_5 (by decide) (fun c_20 => ?_) (fun c_20 => ?_)
  · have c_20 : p0.toInt < x_13.toInt := tl_lt c_20
    refine lv_iconst (v := 0) hx hb dX10_isInGap_20 (by decide) ?_
    exact W.zret (ty := .boolean) (v := 0) hx hb hr rfl (fun t ht hW => ⟨_, rfl, (Or.inr rfl), ht⟩) (fun q h => by cases h) dX10_isInGap_21
  · have c_20 : x_13.toInt ≤ p0.toInt := tl_nlt c_20
    refine lv_iload_n hx hb dX10_isInGap_8 rfl (lv_at hl 1 rfl) ?_
    refine lv_aload_n hx hb dX10_isInGap_9 rfl (lv_at hl 0 rfl) ?_
    refine tp_get (cy := cy) (ci := 10) (v := .int x_14) (C := RX10) (T := TX10) (N := 18) hx hb hta inlX10 hown hK hP ho.1 hf_1 rfl 12 (by decide) (hta _ wk_849) (fun _ h9 => h9) rfl dX10_isInGap_10 ?_
    refine lv_icmp_gt (tgt := 20) hx hb dX10_isInGap_13 (by decide) (fun c_21 => ?_) (fun c_21 => ?_)
    · have c_21 : x_14.toInt < p0.toInt := tl_lt c_21
      refine lv_iconst (v := 0) hx hb dX10_isInGap_20 (by decide) ?_
      exact W.zret (ty := .boolean) (v := 0) hx hb hr rfl (fun t ht hW => ⟨_, rfl, (Or.inr rfl), ht⟩) (fun q h => by cases h) dX10_isInGap_21
    · have c_21 : p0.toInt ≤ x_14.toInt := tl_nlt c_21
      refine lv_iconst (v := 1) hx hb dX10_isInGap_16 (by decide) ?_
      refine lv_goto (tgt := 21) hx hb dX10_isInGap_17 (by decide) ?_
      exact W.zret (ty := .boolean) (v := 1) hx hb hr rfl (fun t ht hW => ⟨_, rfl, (Or.inl ⟨rfl, trivial⟩), ht⟩) (fun q h => by cases h) dX10_isInGap_21
set_option maxHeartbeats 4000000 in
set_option maxRecDepth 100000 in
theorem t_X10_isTold (l : Launch) (D : va_G) (cy : Nat → ClassId) (sz : Nat) (L : List Nat) (K : Nat → tk_K) (Γ : tk_G) (f : Nat → va_E) (o : Nat) (p0 : Int32) (ho : tp_r L K 27 (0) 0 o) : Met l yX10_isTold (tl_w yX10_isTold cX10_isTold 2 (some .boolean)) ({ frames := 2, cells := 0, slots := 0, locals := 42 }) (va_Pc [.ref o, .int p0] (tp_P D cy L K Γ f sz)) (vp_Si (fun r : Int32 => tl_J r (True))) 0 0 (fun _ => False) := by
  refine Met.ofW (cc := cX10_isTold) (maxL := 2) (ret := (some .boolean)) (by decide) rfl ?_
  intro p e s m args below meth c s₁ B hml hv
  obtain ⟨rfl, hsz, hP, hK, hL, hI, hN, hU⟩ := hv
  have hx := B.exec
  have hb := B.bytes
  have hr := B.returns
  have hta := tl_hta (atoms_spec (ws := tl_w yX10_isTold cX10_isTold 2 (some .boolean)) B.pre)
  have hown : s.vm.findClass RX10 = some m.cls := findClass_of_methodNamed B.named
  have hlocks := B.notSynchronized
  subst hsz
  have hI0 := hI
  have hl := lv_entry ([.ref o, .int p0]) (n := 2) (Nat.le_of_ble_eq_true rfl)
  rw [lg_entry_eq]
  generalize (lg_sl ([.ref o, .int p0]) ++ List.replicate (2 - (lg_sl ([.ref o, .int p0])).length) Slot.unset).toArray = ls at hl ⊢
  have hl : lv_has ls 2 [(0, .ref o), (1, .int p0)] := hl
  refine lv_iload_n hx hb dX10_isTold_0 rfl (lv_at hl 1 rfl) ?_
  refine tl_si (tq_rSN hN (As := [.int p0]) (rest := []) ⟨hx, hb, hml, hown, hta⟩ (tp_P.pre hK hN hL hU hI hP) lk_X10_84 (t_X11_isColour l D cy s.heap.size L K Γ f p0 ) rfl rfl ⟨Nat.le_of_ble_eq_true rfl, Nat.le_of_ble_eq_true rfl⟩ rfl hl.1 rfl (Nat.le_of_ble_eq_true rfl) dX10_isTold_1 ⟨Nat.le_of_ble_eq_true rfl, Nat.le_of_ble_eq_true rfl⟩) (fun r_2 hw_1 => ?_)
  have hw_1 : tl_E r_2 (0 ≤ p0.toInt ∧ p0.toInt ≤ 299) 1 0 := hw_1
  refine lv_if_eq (tgt := 20) hx hb dX10_isTold_4 (by decide) (fun c_3 => ?_) (fun c_3 => ?_)
  · have c_3 := hw_1.f c_3
    refine lv_iconst (v := 0) hx hb dX10_isTold_20 (by decide) ?_
    exact W.zret (ty := .boolean) (v := 0) hx hb hr rfl (fun t ht hW => ⟨_, rfl, (Or.inr rfl), ht⟩) (fun q h => by cases h) dX10_isTold_21
  · have c_3 := hw_1.t c_3
    refine lv_aload_n hx hb dX10_isTold_7 rfl (lv_at hl 0 rfl) ?_
    obtain ⟨x_5, x_6, x_7, x_8, x_9, x_10, x_11, x_12, x_13, x_14, x_15, x_16, x_17, x_18, x_19, x_20, x_21, x_22, hf_4, hx_5, hx_6, hx_7, hx_8, hx_9, hx_10, hx_11, hx_12, hx_13, hx_15, hx_18⟩ := (show tp_o_VIEW L K (0) 0 (Γ (27, 0, 0)) (f o) from hI0.at ho)
    refine tp_get (cy := cy) (ci := 10) (v := .ref x_5) (C := RX10) (T := TX10) (N := 18) hx hb hta inlX10 hown hK hP ho.1 hf_4 rfl 0 (by decide) (hta _ wk_131) (fun _ h9 => h9) rfl dX10_isTold_8 ?_
    refine lv_iload_n hx hb dX10_isTold_11 rfl (lv_at hl 1 rfl) ?_
    obtain ⟨g_24, hf_23⟩ := (show tp_az cy (300) (f x_5) from hI0.at hx_5)
    have hn_26 : vp_in p0 (300) := tl_in (by omega) (by omega)
    refine tp_zald (cy := cy) hx hb hK hP hx_5.1 hf_23 hn_26 dX10_isTold_12 ?_
    refine lv_topi (fun z_27 ez_27 => ?_)
    refine lv_if_eq (tgt := 20) hx hb dX10_isTold_13 (by decide) (fun c_28 => ?_) (fun c_28 => ?_)
    · have c_28 : z_27.toInt = (0 : Int) := tl_eq c_28
      refine lv_iconst (v := 0) hx hb dX10_isTold_20 (by decide) ?_
      exact W.zret (ty := .boolean) (v := 0) hx hb hr rfl (fun t ht hW => ⟨_, rfl, (Or.inr rfl), ht⟩) (fun q h => by cases h) dX10_isTold_21
    · have c_28 : ¬ z_27.toInt = (0 : Int) := tl_neq c_28
      refine lv_iconst (v := 1) hx hb dX10_isTold_16 (by decide) ?_
      refine lv_goto (tgt := 21) hx hb dX10_isTold_17 (by decide) ?_
      exact W.zret (ty := .boolean) (v := 1) hx hb hr rfl (fun t ht hW => ⟨_, rfl, (Or.inl ⟨rfl, trivial⟩), ht⟩) (fun q h => by cases h) dX10_isTold_21
set_option maxHeartbeats 4000000 in
set_option maxRecDepth 100000 in
theorem t_X10_isUsed (l : Launch) (D : va_G) (cy : Nat → ClassId) (sz : Nat) (L : List Nat) (K : Nat → tk_K) (Γ : tk_G) (f : Nat → va_E) (o : Nat) (p0 : Int32) (ho : tp_r L K 27 (0) 0 o) : Met l yX10_isUsed (tl_w yX10_isUsed cX10_isUsed 2 (some .boolean)) ({ frames := 2, cells := 0, slots := 0, locals := 42 }) (va_Pc [.ref o, .int p0] (tp_P D cy L K Γ f sz)) (vp_Si (fun r : Int32 => tl_J r (True))) 0 0 (fun _ => False) := by
  refine Met.ofW (cc := cX10_isUsed) (maxL := 2) (ret := (some .boolean)) (by decide) rfl ?_
  intro p e s m args below meth c s₁ B hml hv
  obtain ⟨rfl, hsz, hP, hK, hL, hI, hN, hU⟩ := hv
  have hx := B.exec
  have hb := B.bytes
  have hr := B.returns
  have hta := tl_hta (atoms_spec (ws := tl_w yX10_isUsed cX10_isUsed 2 (some .boolean)) B.pre)
  have hown : s.vm.findClass RX10 = some m.cls := findClass_of_methodNamed B.named
  have hlocks := B.notSynchronized
  subst hsz
  have hI0 := hI
  have hl := lv_entry ([.ref o, .int p0]) (n := 2) (Nat.le_of_ble_eq_true rfl)
  rw [lg_entry_eq]
  generalize (lg_sl ([.ref o, .int p0]) ++ List.replicate (2 - (lg_sl ([.ref o, .int p0])).length) Slot.unset).toArray = ls at hl ⊢
  have hl : lv_has ls 2 [(0, .ref o), (1, .int p0)] := hl
  refine lv_iload_n hx hb dX10_isUsed_0 rfl (lv_at hl 1 rfl) ?_
  refine tl_si (tq_rSN hN (As := [.int p0]) (rest := []) ⟨hx, hb, hml, hown, hta⟩ (tp_P.pre hK hN hL hU hI hP) lk_X10_84 (t_X11_isColour l D cy s.heap.size L K Γ f p0 ) rfl rfl ⟨Nat.le_of_ble_eq_true rfl, Nat.le_of_ble_eq_true rfl⟩ rfl hl.1 rfl (Nat.le_of_ble_eq_true rfl) dX10_isUsed_1 ⟨Nat.le_of_ble_eq_true rfl, Nat.le_of_ble_eq_true rfl⟩) (fun r_2 hw_1 => ?_)
  have hw_1 : tl_E r_2 (0 ≤ p0.toInt ∧ p0.toInt ≤ 299) 1 0 := hw_1
  refine lv_if_eq (tgt := 20) hx hb dX10_isUsed_4 (by decide) (fun c_3 => ?_) (fun c_3 => ?_)
  · have c_3 := hw_1.f c_3
    refine lv_iconst (v := 0) hx hb dX10_isUsed_20 (by decide) ?_
    exact W.zret (ty := .boolean) (v := 0) hx hb hr rfl (fun t ht hW => ⟨_, rfl, (Or.inr rfl), ht⟩) (fun q h => by cases h) dX10_isUsed_21
  · have c_3 := hw_1.t c_3
    refine lv_aload_n hx hb dX10_isUsed_7 rfl (lv_at hl 0 rfl) ?_
    obtain ⟨x_5, x_6, x_7, x_8, x_9, x_10, x_11, x_12, x_13, x_14, x_15, x_16, x_17, x_18, x_19, x_20, x_21, x_22, hf_4, hx_5, hx_6, hx_7, hx_8, hx_9, hx_10, hx_11, hx_12, hx_13, hx_15, hx_18⟩ := (show tp_o_VIEW L K (0) 0 (Γ (27, 0, 0)) (f o) from hI0.at ho)
    refine tp_get (cy := cy) (ci := 10) (v := .ref x_7) (C := RX10) (T := TX10) (N := 18) hx hb hta inlX10 hown hK hP ho.1 hf_4 rfl 2 (by decide) (hta _ wk_133) (fun _ h9 => h9) rfl dX10_isUsed_8 ?_
    refine lv_iload_n hx hb dX10_isUsed_11 rfl (lv_at hl 1 rfl) ?_
    obtain ⟨g_24, hf_23⟩ := (show tp_az cy (300) (f x_7) from hI0.at hx_7)
    have hn_26 : vp_in p0 (300) := tl_in (by omega) (by omega)
    refine tp_zald (cy := cy) hx hb hK hP hx_7.1 hf_23 hn_26 dX10_isUsed_12 ?_
    refine lv_topi (fun z_27 ez_27 => ?_)
    refine lv_if_eq (tgt := 20) hx hb dX10_isUsed_13 (by decide) (fun c_28 => ?_) (fun c_28 => ?_)
    · have c_28 : z_27.toInt = (0 : Int) := tl_eq c_28
      refine lv_iconst (v := 0) hx hb dX10_isUsed_20 (by decide) ?_
      exact W.zret (ty := .boolean) (v := 0) hx hb hr rfl (fun t ht hW => ⟨_, rfl, (Or.inr rfl), ht⟩) (fun q h => by cases h) dX10_isUsed_21
    · have c_28 : ¬ z_27.toInt = (0 : Int) := tl_neq c_28
      refine lv_iconst (v := 1) hx hb dX10_isUsed_16 (by decide) ?_
      refine lv_goto (tgt := 21) hx hb dX10_isUsed_17 (by decide) ?_
      exact W.zret (ty := .boolean) (v := 1) hx hb hr rfl (fun t ht hW => ⟨_, rfl, (Or.inl ⟨rfl, trivial⟩), ht⟩) (fun q h => by cases h) dX10_isUsed_21
set_option maxHeartbeats 4000000 in
set_option maxRecDepth 100000 in
theorem t_X10_leftAt (l : Launch) (D : va_G) (cy : Nat → ClassId) (sz : Nat) (L : List Nat) (K : Nat → tk_K) (Γ : tk_G) (f : Nat → va_E) (o : Nat) (p0 : Int32) (ho : tp_r L K 27 (0) 0 o) : Met l yX10_leftAt (tl_w yX10_leftAt cX10_leftAt 2 (some .int)) ({ frames := 2, cells := 0, slots := 0, locals := 42 }) (va_Pc [.ref o, .int p0] (tp_P D cy L K Γ f sz)) (vp_Si (fun r : Int32 => True)) 0 0 (fun _ => False) := by
  refine Met.ofW (cc := cX10_leftAt) (maxL := 2) (ret := (some .int)) (by decide) rfl ?_
  intro p e s m args below meth c s₁ B hml hv
  obtain ⟨rfl, hsz, hP, hK, hL, hI, hN, hU⟩ := hv
  have hx := B.exec
  have hb := B.bytes
  have hr := B.returns
  have hta := tl_hta (atoms_spec (ws := tl_w yX10_leftAt cX10_leftAt 2 (some .int)) B.pre)
  have hown : s.vm.findClass RX10 = some m.cls := findClass_of_methodNamed B.named
  have hlocks := B.notSynchronized
  subst hsz
  have hI0 := hI
  have hl := lv_entry ([.ref o, .int p0]) (n := 2) (Nat.le_of_ble_eq_true rfl)
  rw [lg_entry_eq]
  generalize (lg_sl ([.ref o, .int p0]) ++ List.replicate (2 - (lg_sl ([.ref o, .int p0])).length) Slot.unset).toArray = ls at hl ⊢
  have hl : lv_has ls 2 [(0, .ref o), (1, .int p0)] := hl
  refine lv_iload_n hx hb dX10_leftAt_0 rfl (lv_at hl 1 rfl) ?_
  refine tl_si (tq_rSN hN (As := [.int p0]) (rest := []) ⟨hx, hb, hml, hown, hta⟩ (tp_P.pre hK hN hL hU hI hP) lk_X10_84 (t_X11_isColour l D cy s.heap.size L K Γ f p0 ) rfl rfl ⟨Nat.le_of_ble_eq_true rfl, Nat.le_of_ble_eq_true rfl⟩ rfl hl.1 rfl (Nat.le_of_ble_eq_true rfl) dX10_leftAt_1 ⟨Nat.le_of_ble_eq_true rfl, Nat.le_of_ble_eq_true rfl⟩) (fun r_2 hw_1 => ?_)
  have hw_1 : tl_E r_2 (0 ≤ p0.toInt ∧ p0.toInt ≤ 299) 1 0 := hw_1
  refine lv_if_eq (tgt := 23) hx hb dX10_leftAt_4 (by decide) (fun c_3 => ?_) (fun c_3 => ?_)
  · have c_3 := hw_1.f c_3
    refine lv_iconst (v := 0) hx hb dX10_leftAt_23 (by decide) ?_
    exact W.iret (v := 0) hx hb hr (fun t ht hW => ⟨_, rfl, trivial, ht⟩) (fun q h => by cases h) dX10_leftAt_24
  · have c_3 := hw_1.t c_3
    refine lv_aload_n hx hb dX10_leftAt_7 rfl (lv_at hl 0 rfl) ?_
    obtain ⟨x_5, x_6, x_7, x_8, x_9, x_10, x_11, x_12, x_13, x_14, x_15, x_16, x_17, x_18, x_19, x_20, x_21, x_22, hf_4, hx_5, hx_6, hx_7, hx_8, hx_9, hx_10, hx_11, hx_12, hx_13, hx_15, hx_18⟩ := (show tp_o_VIEW L K (0) 0 (Γ (27, 0, 0)) (f o) from hI0.at ho)
    refine tp_get (cy := cy) (ci := 10) (v := .ref x_8) (C := RX10) (T := TX10) (N := 18) hx hb hta inlX10 hown hK hP ho.1 hf_4 rfl 3 (by decide) (hta _ wk_134) (fun _ h9 => h9) rfl dX10_leftAt_8 ?_
    refine lv_iload_n hx hb dX10_leftAt_11 rfl (lv_at hl 1 rfl) ?_
    obtain ⟨g_24, hf_23, hg_25⟩ := (show tp_ai cy 29 (300) (f x_8) from hI0.at hx_8)
    have hn_26 : vp_in p0 (300) := tl_in (by omega) (by omega)
    refine tp_iald (cy := cy) hx hb hK hP hx_8.1 hf_23 hn_26 dX10_leftAt_12 ?_
    refine lv_topi (fun z_27 ez_27 => ?_)
    refine lv_aload_n hx hb dX10_leftAt_13 rfl (lv_at hl 0 rfl) ?_
    refine tp_get (cy := cy) (ci := 10) (v := .ref x_9) (C := RX10) (T := TX10) (N := 18) hx hb hta inlX10 hown hK hP ho.1 hf_4 rfl 4 (by decide) (hta _ wk_135) (fun _ h9 => h9) rfl dX10_leftAt_14 ?_
    refine lv_iload_n hx hb dX10_leftAt_17 rfl (lv_at hl 1 rfl) ?_
    obtain ⟨g_29, hf_28, hg_30⟩ := (show tp_ai cy 29 (300) (f x_9) from hI0.at hx_9)
    have hn_31 : vp_in p0 (300) := tl_in (by omega) (by omega)
    refine tp_iald (cy := cy) hx hb hK hP hx_9.1 hf_28 hn_31 dX10_leftAt_18 ?_
    refine lv_topi (fun z_32 ez_32 => ?_)
    refine lv_isub hx hb dX10_leftAt_19 ?_
    refine lv_topi (fun z_33 ez_33 => ?_)
    try have iz_33 : z_33.toInt = z_27.toInt - z_32.toInt := by rw [ez_33]; exact tl_subN z_27 z_32 rfl rfl (by omega) (by omega)
    refine lv_goto (tgt := 24) hx hb dX10_leftAt_20 (by decide) ?_
    exact W.iret (v := z_33) hx hb hr (fun t ht hW => ⟨_, rfl, trivial, ht⟩) (fun q h => by cases h) dX10_leftAt_24
set_option maxHeartbeats 4000000 in
set_option maxRecDepth 100000 in
theorem t_X10_frameBy (l : Launch) (D : va_G) (cy : Nat → ClassId) (sz : Nat) (L : List Nat) (K : Nat → tk_K) (Γ : tk_G) (f : Nat → va_E) (o : Nat) (q : Nat) (ho : tp_r L K 27 (0) 0 o) (hq : tp_r L K 18 (0) 0 q) : Met l yX10_frameBy (tl_w yX10_frameBy cX10_frameBy 2 none) ({ frames := 2, cells := 0, slots := 0, locals := 45 }) (va_Pc [.ref o, .ref q] (tp_P D cy L K Γ f sz)) (va_Qv (fun (u : Nat → va_E) => tv_gap (u o)) (tp_B D cy L K Γ f [27]) (tp_A L sz)) 0 0 (tp_A L sz) := by
  refine Met.ofW (cc := cX10_frameBy) (maxL := 2) (ret := none) (by decide) rfl ?_
  intro p e s m args below meth c s₁ B hml hv
  obtain ⟨rfl, hsz, hP, hK, hL, hI, hN, hU⟩ := hv
  have hx := B.exec
  have hb := B.bytes
  have hr := B.returns
  have hta := tl_hta (atoms_spec (ws := tl_w yX10_frameBy cX10_frameBy 2 none) B.pre)
  have hown : s.vm.findClass RX10 = some m.cls := findClass_of_methodNamed B.named
  have hlocks := B.notSynchronized
  subst hsz
  have hI0 := hI
  generalize hAe : tp_A L s.heap.size = A
  have hA : ∀ q : Nat, s.heap.size ≤ q → A q := fun q h => by rw [← hAe]; exact Or.inr h
  have hAL : ∀ q ∈ L, A q := fun q h => by rw [← hAe]; exact Or.inl h
  have hAf : ∀ (H : Heap), s.heap.size ≤ H.size → ∀ q, tp_A L H.size q → A q := fun H h q hq => hq.elim (hAL q) (fun h2 => hA q (Nat.le_trans h h2))
  have hS : va_S A s.heap s.heap [] := va_S.rf
  have hD : va_D A (va_pl L f) := tp_D hL hAL
  have hfr : ∀ b, (K b).1 ∉ ([27] : List Nat) → f b = f b := fun _ _ => rfl
  have hl := lv_entry ([.ref o, .ref q]) (n := 2) (Nat.le_of_ble_eq_true rfl)
  rw [lg_entry_eq]
  generalize (lg_sl ([.ref o, .ref q]) ++ List.replicate (2 - (lg_sl ([.ref o, .ref q])).length) Slot.unset).toArray = ls at hl ⊢
  have hl : lv_has ls 2 [(0, .ref o), (1, .ref q)] := hl
  refine lv_aload_n hx hb dX10_frameBy_0 rfl (lv_at hl 0 rfl) ?_
  refine lv_aload_n hx hb dX10_frameBy_1 rfl (lv_at hl 1 rfl) ?_
  refine lv_iconst (v := 4) hx hb dX10_frameBy_2 (by decide) ?_
  refine lv_bipush (v := 12) hx hb dX10_frameBy_3 (by decide) ?_
  obtain ⟨x_2, x_3, x_4, x_5, x_6, x_7, x_8, x_9, x_10, hf_1, hx_2, hx_3, hx_4, hx_5, hx_6, hx_7, hx_8, hx_9, hx_10⟩ := (show tp_o_TEXT L K (0) 0 (Γ (18, 0, 0)) (f q) from hI0.at hq)
  refine tl_si (tq_rVN hN (As := [.int 4, .int 12]) (rest := [.ref o]) ⟨hx, hb, hml, hown, hta⟩ (tp_P.pre hK hN hL hU hI hP) (tp_recv hK hP hq.1 hf_1 rfl) lk_X10_65 (t_X7_firstOf l D cy s.heap.size L K Γ f q 4 12 hq) rfl rfl ⟨Nat.le_of_ble_eq_true rfl, Nat.le_of_ble_eq_true rfl⟩ rfl hl.1 rfl (Nat.le_of_ble_eq_true rfl) dX10_frameBy_5 ⟨Nat.le_of_ble_eq_true rfl, Nat.le_of_ble_eq_true rfl⟩) (fun r_12 hw_11 => ?_)
  have hw_11 : (0 ≤ r_12.toInt ∧ r_12.toInt ≤ 9999) ∨ r_12.toInt = (12 : Int) := hw_11
  obtain ⟨x_14, x_15, x_16, x_17, x_18, x_19, x_20, x_21, x_22, x_23, x_24, x_25, x_26, x_27, x_28, x_29, x_30, x_31, hf_13, hx_14, hx_15, hx_16, hx_17, hx_18, hx_19, hx_20, hx_21, hx_22, hx_24, hx_27⟩ := (show tp_o_VIEW L K (0) 0 (Γ (27, 0, 0)) (f o) from hI.at ho)
  have hI9 : tp_I cy L K Γ (va_up f o (.inr (10, [.ref x_14, .ref x_15, .ref x_16, .ref x_17, .ref x_18, .ref x_19, .ref x_20, .ref x_21, .ref x_22, .int r_12, .int x_24, .int x_25, .int x_26, .int x_27, .int x_28, .int x_29, .long x_30, .long x_31]))) := hI.set ho (show tp_o_VIEW L K (0) 0 (Γ (27, 0, 0)) _ from ⟨x_14, x_15, x_16, x_17, x_18, x_19, x_20, x_21, x_22, r_12, x_24, x_25, x_26, x_27, x_28, x_29, x_30, x_31, rfl, hx_14, hx_15, hx_16, hx_17, hx_18, hx_19, hx_20, hx_21, hx_22, (show 0 ≤ x_24.toInt ∧ x_24.toInt ≤ 9999 from by omega), (show 0 ≤ x_27.toInt ∧ x_27.toInt ≤ 42 from by omega)⟩)
  have hfr9 : ∀ b, (K b).1 ∉ ([27] : List Nat) → va_up f o (.inr (10, [.ref x_14, .ref x_15, .ref x_16, .ref x_17, .ref x_18, .ref x_19, .ref x_20, .ref x_21, .ref x_22, .int r_12, .int x_24, .int x_25, .int x_26, .int x_27, .int x_28, .int x_29, .long x_30, .long x_31])) b = f b := tp_fr hfr ho (by decide)
  refine tp_put (cy := cy) (ci := 10) (v := .int r_12) (ty := tyX10 9) (C := RX10) (T := TX10) (N := 18) hx hb hta inlX10 tyX10 tyX10_ok nmX10 hown hK hP hD hS ho.1 hf_13 rfl 9 (by decide) (hta _ wk_846) (fun _ h9 => h9) rfl (tyX10_ok 9 (by decide)) rfl rfl (Nat.le_of_ble_eq_true rfl) dX10_frameBy_8 (fun H locs hP hD hS => ?_)
  have hP : va_P D vwCl (va_pl L (va_up f o (.inr (10, [.ref x_14, .ref x_15, .ref x_16, .ref x_17, .ref x_18, .ref x_19, .ref x_20, .ref x_21, .ref x_22, .int r_12, .int x_24, .int x_25, .int x_26, .int x_27, .int x_28, .int x_29, .long x_30, .long x_31])))) H := hP
  generalize hfe : va_up f o (.inr (10, [.ref x_14, .ref x_15, .ref x_16, .ref x_17, .ref x_18, .ref x_19, .ref x_20, .ref x_21, .ref x_22, .int r_12, .int x_24, .int x_25, .int x_26, .int x_27, .int x_28, .int x_29, .long x_30, .long x_31])) = f_32 at hP hI9 hfr9
  have hD : va_D A (va_pl L f_32) := tp_D hL hAL
  have hf_33 : f_32 o = .inr (10, [.ref x_14, .ref x_15, .ref x_16, .ref x_17, .ref x_18, .ref x_19, .ref x_20, .ref x_21, .ref x_22, .int r_12, .int x_24, .int x_25, .int x_26, .int x_27, .int x_28, .int x_29, .long x_30, .long x_31]) := by rw [← hfe]; exact va_up_self _ _ _
  clear hfe
  have hI := hI9
  have hfr := hfr9
  clear hI9 hfr9
  refine lv_aload_n hx hb dX10_frameBy_11 rfl (lv_at hl 0 rfl) ?_
  refine lv_aload_n hx hb dX10_frameBy_12 rfl (lv_at hl 1 rfl) ?_
  refine lv_bipush (v := 6) hx hb dX10_frameBy_13 (by decide) ?_
  refine lv_iconst (v := 3) hx hb dX10_frameBy_15 (by decide) ?_
  refine tl_si (tq_rVN hN (As := [.int 6, .int 3]) (rest := [.ref o]) ⟨hx, hb, hml, hown, hta⟩ (tp_P.pre hK hN hL hU hI hP) (tp_recv hK hP hq.1 ((tp_un hfr hq (by decide)).trans hf_1) rfl) lk_X10_65 (t_X7_firstOf l D cy H.size L K Γ f_32 q 6 3 hq) rfl rfl ⟨Nat.le_of_ble_eq_true rfl, Nat.le_of_ble_eq_true rfl⟩ rfl hl.1 rfl (Nat.le_of_ble_eq_true rfl) dX10_frameBy_16 ⟨Nat.le_of_ble_eq_true rfl, Nat.le_of_ble_eq_true rfl⟩) (fun r_35 hw_34 => ?_)
  have hw_34 : (0 ≤ r_35.toInt ∧ r_35.toInt ≤ 9999) ∨ r_35.toInt = (3 : Int) := hw_34
  have hI9 : tp_I cy L K Γ (va_up f_32 o (.inr (10, [.ref x_14, .ref x_15, .ref x_16, .ref x_17, .ref x_18, .ref x_19, .ref x_20, .ref x_21, .ref x_22, .int r_12, .int r_35, .int x_25, .int x_26, .int x_27, .int x_28, .int x_29, .long x_30, .long x_31]))) := hI.set ho (show tp_o_VIEW L K (0) 0 (Γ (27, 0, 0)) _ from ⟨x_14, x_15, x_16, x_17, x_18, x_19, x_20, x_21, x_22, r_12, r_35, x_25, x_26, x_27, x_28, x_29, x_30, x_31, rfl, hx_14, hx_15, hx_16, hx_17, hx_18, hx_19, hx_20, hx_21, hx_22, (show 0 ≤ r_35.toInt ∧ r_35.toInt ≤ 9999 from by omega), (show 0 ≤ x_27.toInt ∧ x_27.toInt ≤ 42 from by omega)⟩)
  have hfr9 : ∀ b, (K b).1 ∉ ([27] : List Nat) → va_up f_32 o (.inr (10, [.ref x_14, .ref x_15, .ref x_16, .ref x_17, .ref x_18, .ref x_19, .ref x_20, .ref x_21, .ref x_22, .int r_12, .int r_35, .int x_25, .int x_26, .int x_27, .int x_28, .int x_29, .long x_30, .long x_31])) b = f b := tp_fr hfr ho (by decide)
  refine tp_put (cy := cy) (ci := 10) (v := .int r_35) (ty := tyX10 10) (C := RX10) (T := TX10) (N := 18) hx hb hta inlX10 tyX10 tyX10_ok nmX10 hown hK hP hD hS ho.1 hf_33 rfl 10 (by decide) (hta _ wk_847) (fun _ h9 => h9) rfl (tyX10_ok 10 (by decide)) rfl rfl (Nat.le_of_ble_eq_true rfl) dX10_frameBy_19 (fun H locs hP hD hS => ?_)
  have hP : va_P D vwCl (va_pl L (va_up f_32 o (.inr (10, [.ref x_14, .ref x_15, .ref x_16, .ref x_17, .ref x_18, .ref x_19, .ref x_20, .ref x_21, .ref x_22, .int r_12, .int r_35, .int x_25, .int x_26, .int x_27, .int x_28, .int x_29, .long x_30, .long x_31])))) H := hP
  generalize hfe : va_up f_32 o (.inr (10, [.ref x_14, .ref x_15, .ref x_16, .ref x_17, .ref x_18, .ref x_19, .ref x_20, .ref x_21, .ref x_22, .int r_12, .int r_35, .int x_25, .int x_26, .int x_27, .int x_28, .int x_29, .long x_30, .long x_31])) = f_36 at hP hI9 hfr9
  have hD : va_D A (va_pl L f_36) := tp_D hL hAL
  have hf_37 : f_36 o = .inr (10, [.ref x_14, .ref x_15, .ref x_16, .ref x_17, .ref x_18, .ref x_19, .ref x_20, .ref x_21, .ref x_22, .int r_12, .int r_35, .int x_25, .int x_26, .int x_27, .int x_28, .int x_29, .long x_30, .long x_31]) := by rw [← hfe]; exact va_up_self _ _ _
  clear hfe
  have hI := hI9
  have hfr := hfr9
  clear hI9 hfr9
  refine lv_aload_n hx hb dX10_frameBy_22 rfl (lv_at hl 0 rfl) ?_
  refine lv_aload_n hx hb dX10_frameBy_23 rfl (lv_at hl 1 rfl) ?_
  refine lv_iconst (v := 5) hx hb dX10_frameBy_24 (by decide) ?_
  refine lv_sipush (v := 140) hx hb dX10_frameBy_25 (by decide) ?_
  refine tl_si (tq_rVN hN (As := [.int 5, .int 140]) (rest := [.ref o]) ⟨hx, hb, hml, hown, hta⟩ (tp_P.pre hK hN hL hU hI hP) (tp_recv hK hP hq.1 ((tp_un hfr hq (by decide)).trans hf_1) rfl) lk_X10_65 (t_X7_firstOf l D cy H.size L K Γ f_36 q 5 140 hq) rfl rfl ⟨Nat.le_of_ble_eq_true rfl, Nat.le_of_ble_eq_true rfl⟩ rfl hl.1 rfl (Nat.le_of_ble_eq_true rfl) dX10_frameBy_28 ⟨Nat.le_of_ble_eq_true rfl, Nat.le_of_ble_eq_true rfl⟩) (fun r_39 hw_38 => ?_)
  have hw_38 : (0 ≤ r_39.toInt ∧ r_39.toInt ≤ 9999) ∨ r_39.toInt = (140 : Int) := hw_38
  have hI9 : tp_I cy L K Γ (va_up f_36 o (.inr (10, [.ref x_14, .ref x_15, .ref x_16, .ref x_17, .ref x_18, .ref x_19, .ref x_20, .ref x_21, .ref x_22, .int r_12, .int r_35, .int r_39, .int x_26, .int x_27, .int x_28, .int x_29, .long x_30, .long x_31]))) := hI.set ho (show tp_o_VIEW L K (0) 0 (Γ (27, 0, 0)) _ from ⟨x_14, x_15, x_16, x_17, x_18, x_19, x_20, x_21, x_22, r_12, r_35, r_39, x_26, x_27, x_28, x_29, x_30, x_31, rfl, hx_14, hx_15, hx_16, hx_17, hx_18, hx_19, hx_20, hx_21, hx_22, (show 0 ≤ r_35.toInt ∧ r_35.toInt ≤ 9999 from by omega), (show 0 ≤ x_27.toInt ∧ x_27.toInt ≤ 42 from by omega)⟩)
  have hfr9 : ∀ b, (K b).1 ∉ ([27] : List Nat) → va_up f_36 o (.inr (10, [.ref x_14, .ref x_15, .ref x_16, .ref x_17, .ref x_18, .ref x_19, .ref x_20, .ref x_21, .ref x_22, .int r_12, .int r_35, .int r_39, .int x_26, .int x_27, .int x_28, .int x_29, .long x_30, .long x_31])) b = f b := tp_fr hfr ho (by decide)
  refine tp_put (cy := cy) (ci := 10) (v := .int r_39) (ty := tyX10 11) (C := RX10) (T := TX10) (N := 18) hx hb hta inlX10 tyX10 tyX10_ok nmX10 hown hK hP hD hS ho.1 hf_37 rfl 11 (by decide) (hta _ wk_848) (fun _ h9 => h9) rfl (tyX10_ok 11 (by decide)) rfl rfl (Nat.le_of_ble_eq_true rfl) dX10_frameBy_31 (fun H locs hP hD hS => ?_)
  have hP : va_P D vwCl (va_pl L (va_up f_36 o (.inr (10, [.ref x_14, .ref x_15, .ref x_16, .ref x_17, .ref x_18, .ref x_19, .ref x_20, .ref x_21, .ref x_22, .int r_12, .int r_35, .int r_39, .int x_26, .int x_27, .int x_28, .int x_29, .long x_30, .long x_31])))) H := hP
  generalize hfe : va_up f_36 o (.inr (10, [.ref x_14, .ref x_15, .ref x_16, .ref x_17, .ref x_18, .ref x_19, .ref x_20, .ref x_21, .ref x_22, .int r_12, .int r_35, .int r_39, .int x_26, .int x_27, .int x_28, .int x_29, .long x_30, .long x_31])) = f_40 at hP hI9 hfr9
  have hD : va_D A (va_pl L f_40) := tp_D hL hAL
  have hf_41 : f_40 o = .inr (10, [.ref x_14, .ref x_15, .ref x_16, .ref x_17, .ref x_18, .ref x_19, .ref x_20, .ref x_21, .ref x_22, .int r_12, .int r_35, .int r_39, .int x_26, .int x_27, .int x_28, .int x_29, .long x_30, .long x_31]) := by rw [← hfe]; exact va_up_self _ _ _
  clear hfe
  have hI := hI9
  have hfr := hfr9
  clear hI9 hfr9
  refine lv_aload_n hx hb dX10_frameBy_34 rfl (lv_at hl 0 rfl) ?_
  refine lv_aload_n hx hb dX10_frameBy_35 rfl (lv_at hl 1 rfl) ?_
  refine lv_iconst (v := 5) hx hb dX10_frameBy_36 (by decide) ?_
  refine lv_sipush (v := 159) hx hb dX10_frameBy_37 (by decide) ?_
  refine tl_si (tq_rVN hN (As := [.int 5, .int 159]) (rest := [.ref o]) ⟨hx, hb, hml, hown, hta⟩ (tp_P.pre hK hN hL hU hI hP) (tp_recv hK hP hq.1 ((tp_un hfr hq (by decide)).trans hf_1) rfl) lk_X10_78 (t_X7_secondOf l D cy H.size L K Γ f_40 q 5 159 hq) rfl rfl ⟨Nat.le_of_ble_eq_true rfl, Nat.le_of_ble_eq_true rfl⟩ rfl hl.1 rfl (Nat.le_of_ble_eq_true rfl) dX10_frameBy_40 ⟨Nat.le_of_ble_eq_true rfl, Nat.le_of_ble_eq_true rfl⟩) (fun r_43 hw_42 => ?_)
  have hw_42 : (0 ≤ r_43.toInt ∧ r_43.toInt ≤ 9999) ∨ r_43.toInt = (159 : Int) := hw_42
  have hI9 : tp_I cy L K Γ (va_up f_40 o (.inr (10, [.ref x_14, .ref x_15, .ref x_16, .ref x_17, .ref x_18, .ref x_19, .ref x_20, .ref x_21, .ref x_22, .int r_12, .int r_35, .int r_39, .int r_43, .int x_27, .int x_28, .int x_29, .long x_30, .long x_31]))) := hI.set ho (show tp_o_VIEW L K (0) 0 (Γ (27, 0, 0)) _ from ⟨x_14, x_15, x_16, x_17, x_18, x_19, x_20, x_21, x_22, r_12, r_35, r_39, r_43, x_27, x_28, x_29, x_30, x_31, rfl, hx_14, hx_15, hx_16, hx_17, hx_18, hx_19, hx_20, hx_21, hx_22, (show 0 ≤ r_35.toInt ∧ r_35.toInt ≤ 9999 from by omega), (show 0 ≤ x_27.toInt ∧ x_27.toInt ≤ 42 from by omega)⟩)
  have hfr9 : ∀ b, (K b).1 ∉ ([27] : List Nat) → va_up f_40 o (.inr (10, [.ref x_14, .ref x_15, .ref x_16, .ref x_17, .ref x_18, .ref x_19, .ref x_20, .ref x_21, .ref x_22, .int r_12, .int r_35, .int r_39, .int r_43, .int x_27, .int x_28, .int x_29, .long x_30, .long x_31])) b = f b := tp_fr hfr ho (by decide)
  refine tp_put (cy := cy) (ci := 10) (v := .int r_43) (ty := tyX10 12) (C := RX10) (T := TX10) (N := 18) hx hb hta inlX10 tyX10 tyX10_ok nmX10 hown hK hP hD hS ho.1 hf_41 rfl 12 (by decide) (hta _ wk_849) (fun _ h9 => h9) rfl (tyX10_ok 12 (by decide)) rfl rfl (Nat.le_of_ble_eq_true rfl) dX10_frameBy_43 (fun H locs hP hD hS => ?_)
  have hP : va_P D vwCl (va_pl L (va_up f_40 o (.inr (10, [.ref x_14, .ref x_15, .ref x_16, .ref x_17, .ref x_18, .ref x_19, .ref x_20, .ref x_21, .ref x_22, .int r_12, .int r_35, .int r_39, .int r_43, .int x_27, .int x_28, .int x_29, .long x_30, .long x_31])))) H := hP
  generalize hfe : va_up f_40 o (.inr (10, [.ref x_14, .ref x_15, .ref x_16, .ref x_17, .ref x_18, .ref x_19, .ref x_20, .ref x_21, .ref x_22, .int r_12, .int r_35, .int r_39, .int r_43, .int x_27, .int x_28, .int x_29, .long x_30, .long x_31])) = f_44 at hP hI9 hfr9
  have hD : va_D A (va_pl L f_44) := tp_D hL hAL
  have hf_45 : f_44 o = .inr (10, [.ref x_14, .ref x_15, .ref x_16, .ref x_17, .ref x_18, .ref x_19, .ref x_20, .ref x_21, .ref x_22, .int r_12, .int r_35, .int r_39, .int r_43, .int x_27, .int x_28, .int x_29, .long x_30, .long x_31]) := by rw [← hfe]; exact va_up_self _ _ _
  clear hfe
  have hI := hI9
  have hfr := hfr9
  clear hI9 hfr9
  exact W.vret hx hb hr (fun t ht hW => ⟨⟨f_44, rfl, ⟨_, _, _, hf_45, rfl, rfl, by omega⟩, by rw [ht]; exact hP, hI, hfr⟩, hS.F ht⟩) hS.2.2 dX10_frameBy_46
set_option maxHeartbeats 4000000 in
set_option maxRecDepth 100000 in
theorem t_X10_tally (l : Launch) (D : va_G) (cy : Nat → ClassId) (sz : Nat) (L : List Nat) (K : Nat → tk_K) (Γ : tk_G) (f : Nat → va_E) (o : Nat) (ho : tp_r L K 27 (0) 0 o) : Met l yX10_tally (tl_w yX10_tally cX10_tally 3 none) ({ frames := 0, cells := 0, slots := 0, locals := 0 }) (va_Pc [.ref o] (tp_P D cy L K Γ f sz)) (va_Qv (fun (u : Nat → va_E) => True) (tp_B D cy L K Γ f [30]) (tp_A L sz)) 0 0 (tp_A L sz) := by
  refine Met.ofW (cc := cX10_tally) (maxL := 3) (ret := none) (by decide) rfl ?_
  intro p e s m args below meth c s₁ B hml hv
  obtain ⟨rfl, hsz, hP, hK, hL, hI, hN, hU⟩ := hv
  have hx := B.exec
  have hb := B.bytes
  have hr := B.returns
  have hta := tl_hta (atoms_spec (ws := tl_w yX10_tally cX10_tally 3 none) B.pre)
  have hown : s.vm.findClass RX10 = some m.cls := findClass_of_methodNamed B.named
  have hlocks := B.notSynchronized
  subst hsz
  have hI0 := hI
  generalize hAe : tp_A L s.heap.size = A
  have hA : ∀ q : Nat, s.heap.size ≤ q → A q := fun q h => by rw [← hAe]; exact Or.inr h
  have hAL : ∀ q ∈ L, A q := fun q h => by rw [← hAe]; exact Or.inl h
  have hAf : ∀ (H : Heap), s.heap.size ≤ H.size → ∀ q, tp_A L H.size q → A q := fun H h q hq => hq.elim (hAL q) (fun h2 => hA q (Nat.le_trans h h2))
  have hS : va_S A s.heap s.heap [] := va_S.rf
  have hD : va_D A (va_pl L f) := tp_D hL hAL
  have hfr : ∀ b, (K b).1 ∉ ([30] : List Nat) → f b = f b := fun _ _ => rfl
  have hl := lv_entry ([.ref o]) (n := 3) (Nat.le_of_ble_eq_true rfl)
  rw [lg_entry_eq]
  generalize (lg_sl ([.ref o]) ++ List.replicate (3 - (lg_sl ([.ref o])).length) Slot.unset).toArray = ls at hl ⊢
  have hl : lv_has ls 3 [(0, .ref o)] := hl
  refine lv_iconst (v := 0) hx hb dX10_tally_0 (by decide) ?_
  refine lv_istore_n (lv' := [(1, .int 0), (0, .ref o)]) hx hb dX10_tally_1 rfl hl (by decide) rfl (fun ls hl => ?_)
  refine tq_start hP hS (fun H locs hP hS => ?_)
  refine tl_ind (G := fun H locs ls => W p l e ((headSpec (tl_w yX10_tally cX10_tally 3 none) ({ frames := 0, cells := 0, slots := 0, locals := 0 })).room) s m #[.ref o] below meth c H locs 0 0 (MQ below (va_Qv (fun (u : Nat → va_E) => True) (tp_B D cy L K Γ f [30]) A) #[.ref o] s 0 0 A) (F0 m 2 ls [])) (α := (Nat → va_E) × Int32) (fun aq => (300 - aq.2.toInt).toNat) (fun aq H locs ls => (0 ≤ aq.2.toInt) ∧ (aq.2.toInt ≤ 300) ∧ va_P D vwCl (va_pl L aq.1) H ∧ tp_I cy L K Γ aq.1 ∧ (∀ b, (K b).1 ∉ ([30] : List Nat) → aq.1 b = f b) ∧ va_S A s.heap H locs ∧ lv_has ls 3 [(1, .int aq.2), (0, .ref o)]) ?_ (f, (0 : Int32)) H locs ls ⟨(show 0 ≤ (0 : Int) from (by omega)), (show (0 : Int) ≤ 300 from (by omega)), hP, hI, hfr, hS, lv_sub hl [0, 1] rfl⟩
  rintro ⟨f_1, v1⟩ H locs ls ⟨h0, h1, hP, hI, hfr, hS, hl⟩ ih2
  have hP : va_P D vwCl (va_pl L f_1) H := hP
  have hI : tp_I cy L K Γ f_1 := hI
  have hfr : ∀ b, (K b).1 ∉ ([30] : List Nat) → f_1 b = f b := hfr
  have hD : va_D A (va_pl L f_1) := tp_D hL hAL
  have h0 : 0 ≤ v1.toInt := h0
  have h1 : v1.toInt ≤ 300 := h1
  have hl : lv_has ls 3 [(1, .int v1), (0, .ref o)] := hl
  refine lv_iload_n hx hb dX10_tally_2 rfl (lv_at hl 0 rfl) ?_
  refine lv_sipush (v := 300) hx hb dX10_tally_3 (by decide) ?_
  refine lv_icmp_ge (tgt := 92) hx hb dX10_tally_6 (by decide) (fun c_2 => ?_) (fun c_2 => ?_)
  · have c_2 : (300 : Int) ≤ v1.toInt := tl_le c_2
    exact W.vret hx hb hr (fun t ht hW => ⟨⟨f_1, rfl, trivial, by rw [ht]; exact hP, hI, hfr⟩, hS.F ht⟩) hS.2.2 dX10_tally_92
  · have c_2 : v1.toInt < (300 : Int) := tl_nle c_2
    refine lv_aload_n hx hb dX10_tally_9 rfl (lv_at hl 1 rfl) ?_
    obtain ⟨x_4, x_5, x_6, x_7, x_8, x_9, x_10, x_11, x_12, x_13, x_14, x_15, x_16, x_17, x_18, x_19, x_20, x_21, hf_3, hx_4, hx_5, hx_6, hx_7, hx_8, hx_9, hx_10, hx_11, hx_12, hx_14, hx_17⟩ := (show tp_o_VIEW L K (0) 0 (Γ (27, 0, 0)) (f o) from hI0.at ho)
    refine tp_get (cy := cy) (ci := 10) (v := .ref x_4) (C := RX10) (T := TX10) (N := 18) hx hb hta inlX10 hown hK hP ho.1 ((tp_un hfr ho (by decide)).trans hf_3) rfl 0 (by decide) (hta _ wk_131) (fun _ h9 => h9) rfl dX10_tally_10 ?_
    refine lv_iload_n hx hb dX10_tally_13 rfl (lv_at hl 0 rfl) ?_
    obtain ⟨g_23, hf_22⟩ := (show tp_az cy (300) (f x_4) from hI0.at hx_4)
    have hn_25 : vp_in v1 (300) := tl_in (by omega) (by omega)
    refine tp_zald (cy := cy) hx hb hK hP hx_4.1 ((tp_un hfr hx_4 (by decide)).trans hf_22) hn_25 dX10_tally_14 ?_
    refine lv_topi (fun z_26 ez_26 => ?_)
    refine lv_if_eq (tgt := 31) hx hb dX10_tally_15 (by decide) (fun c_27 => ?_) (fun c_27 => ?_)
    · have c_27 : z_26.toInt = (0 : Int) := tl_eq c_27
      refine lv_iconst (v := 0) hx hb dX10_tally_31 (by decide) ?_
      refine lv_istore_n (lv' := [(2, .int 0), (1, .int v1), (0, .ref o)]) hx hb dX10_tally_32 rfl hl (by decide) rfl (fun ls hl => ?_)
      refine lv_aload_n hx hb dX10_tally_33 rfl (lv_at hl 2 rfl) ?_
      refine tp_get (cy := cy) (ci := 10) (v := .ref x_9) (C := RX10) (T := TX10) (N := 18) hx hb hta inlX10 hown hK hP ho.1 ((tp_un hfr ho (by decide)).trans hf_3) rfl 5 (by decide) (hta _ wk_136) (fun _ h9 => h9) rfl dX10_tally_34 ?_
      refine lv_iload_n hx hb dX10_tally_37 rfl (lv_at hl 1 rfl) ?_
      refine lv_iconst (v := 1) hx hb dX10_tally_38 (by decide) ?_
      refine lv_iadd hx hb dX10_tally_39 ?_
      refine lv_topi (fun z_28 ez_28 => ?_)
      try have iz_28 : z_28.toInt = v1.toInt + (1 : Int) := by rw [ez_28]; exact tl_addN v1 1 rfl rfl (by omega) (by omega)
      refine lv_aload_n hx hb dX10_tally_40 rfl (lv_at hl 2 rfl) ?_
      refine tp_get (cy := cy) (ci := 10) (v := .ref x_9) (C := RX10) (T := TX10) (N := 18) hx hb hta inlX10 hown hK hP ho.1 ((tp_un hfr ho (by decide)).trans hf_3) rfl 5 (by decide) (hta _ wk_136) (fun _ h9 => h9) rfl dX10_tally_41 ?_
      refine lv_iload_n hx hb dX10_tally_44 rfl (lv_at hl 1 rfl) ?_
      obtain ⟨g_30, hf_29, hg_31⟩ := (show tp_ai cy 30 (301) (f_1 x_9) from hI.at hx_9)
      have hn_32 : vp_in v1 (301) := tl_in (by omega) (by omega)
      refine tp_iald (cy := cy) hx hb hK hP hx_9.1 hf_29 hn_32 dX10_tally_45 ?_
      refine lv_topi (fun z_33 ez_33 => ?_)
      refine lv_iload_n hx hb dX10_tally_46 rfl (lv_at hl 0 rfl) ?_
      refine lv_if_eq (tgt := 54) hx hb dX10_tally_47 (by decide) (fun _ => ?_) (fun c => absurd c (by decide))
      refine lv_iconst (v := 0) hx hb dX10_tally_54 (by decide) ?_
      refine lv_iadd hx hb dX10_tally_55 ?_
      refine lv_topi (fun z_34 ez_34 => ?_)
      try have iz_34 : z_34.toInt = z_33.toInt + (0 : Int) := by rw [ez_34]; exact tl_addN z_33 0 rfl rfl (by omega) (by omega)
      have hn_35 : vp_in z_28 (301) := tl_in (by omega) (by omega)
      have hI9 : tp_I cy L K Γ (va_up f_1 x_9 (.inl (cy 0, 301, .inl (upd g_30 z_28.toNatClampNeg z_34)))) := hI.set hx_9 (show tp_ai cy 30 (301) _ from ⟨_, rfl, tp_pi_upd hg_31 trivial⟩)
      have hfr9 : ∀ b, (K b).1 ∉ ([30] : List Nat) → va_up f_1 x_9 (.inl (cy 0, 301, .inl (upd g_30 z_28.toNatClampNeg z_34))) b = f b := tp_fr hfr hx_9 (by decide)
      refine tp_iast (cy := cy) hx hb hK hP hD hS hx_9.1 hf_29 hn_35 dX10_tally_56 (fun H locs hP hD hS => ?_)
      have hP : va_P D vwCl (va_pl L (va_up f_1 x_9 (.inl (cy 0, 301, .inl (upd g_30 z_28.toNatClampNeg z_34))))) H := hP
      generalize hfe : va_up f_1 x_9 (.inl (cy 0, 301, .inl (upd g_30 z_28.toNatClampNeg z_34))) = f_36 at hP hI9 hfr9
      have hD : va_D A (va_pl L f_36) := tp_D hL hAL
      have hf_37 : f_36 x_9 = .inl (cy 0, 301, .inl (upd g_30 z_28.toNatClampNeg z_34)) := by rw [← hfe]; exact va_up_self _ _ _
      clear hfe
      have hI := hI9
      have hfr := hfr9
      clear hI9 hfr9
      refine lv_aload_n hx hb dX10_tally_57 rfl (lv_at hl 2 rfl) ?_
      refine tp_get (cy := cy) (ci := 10) (v := .ref x_10) (C := RX10) (T := TX10) (N := 18) hx hb hta inlX10 hown hK hP ho.1 ((tp_un hfr ho (by decide)).trans hf_3) rfl 6 (by decide) (hta _ wk_137) (fun _ h9 => h9) rfl dX10_tally_58 ?_
      refine lv_iload_n hx hb dX10_tally_61 rfl (lv_at hl 1 rfl) ?_
      refine lv_iconst (v := 1) hx hb dX10_tally_62 (by decide) ?_
      refine lv_iadd hx hb dX10_tally_63 ?_
      refine lv_topi (fun z_38 ez_38 => ?_)
      try have iz_38 : z_38.toInt = v1.toInt + (1 : Int) := by rw [ez_38]; exact tl_addN v1 1 rfl rfl (by omega) (by omega)
      refine lv_aload_n hx hb dX10_tally_64 rfl (lv_at hl 2 rfl) ?_
      refine tp_get (cy := cy) (ci := 10) (v := .ref x_10) (C := RX10) (T := TX10) (N := 18) hx hb hta inlX10 hown hK hP ho.1 ((tp_un hfr ho (by decide)).trans hf_3) rfl 6 (by decide) (hta _ wk_137) (fun _ h9 => h9) rfl dX10_tally_65 ?_
      refine lv_iload_n hx hb dX10_tally_68 rfl (lv_at hl 1 rfl) ?_
      obtain ⟨g_40, hf_39, hg_41⟩ := (show tp_ai cy 30 (301) (f_36 x_10) from hI.at hx_10)
      have hn_42 : vp_in v1 (301) := tl_in (by omega) (by omega)
      refine tp_iald (cy := cy) hx hb hK hP hx_10.1 hf_39 hn_42 dX10_tally_69 ?_
      refine lv_topi (fun z_43 ez_43 => ?_)
      refine lv_iload_n hx hb dX10_tally_70 rfl (lv_at hl 0 rfl) ?_
      refine lv_if_eq (tgt := 83) hx hb dX10_tally_71 (by decide) (fun _ => ?_) (fun c => absurd c (by decide))
      refine lv_iconst (v := 0) hx hb dX10_tally_83 (by decide) ?_
      refine lv_iadd hx hb dX10_tally_84 ?_
      refine lv_topi (fun z_44 ez_44 => ?_)
      try have iz_44 : z_44.toInt = z_43.toInt + (0 : Int) := by rw [ez_44]; exact tl_addN z_43 0 rfl rfl (by omega) (by omega)
      have hn_45 : vp_in z_38 (301) := tl_in (by omega) (by omega)
      have hI9 : tp_I cy L K Γ (va_up f_36 x_10 (.inl (cy 0, 301, .inl (upd g_40 z_38.toNatClampNeg z_44)))) := hI.set hx_10 (show tp_ai cy 30 (301) _ from ⟨_, rfl, tp_pi_upd hg_41 trivial⟩)
      have hfr9 : ∀ b, (K b).1 ∉ ([30] : List Nat) → va_up f_36 x_10 (.inl (cy 0, 301, .inl (upd g_40 z_38.toNatClampNeg z_44))) b = f b := tp_fr hfr hx_10 (by decide)
      refine tp_iast (cy := cy) hx hb hK hP hD hS hx_10.1 hf_39 hn_45 dX10_tally_85 (fun H locs hP hD hS => ?_)
      have hP : va_P D vwCl (va_pl L (va_up f_36 x_10 (.inl (cy 0, 301, .inl (upd g_40 z_38.toNatClampNeg z_44))))) H := hP
      generalize hfe : va_up f_36 x_10 (.inl (cy 0, 301, .inl (upd g_40 z_38.toNatClampNeg z_44))) = f_46 at hP hI9 hfr9
      have hD : va_D A (va_pl L f_46) := tp_D hL hAL
      have hf_47 : f_46 x_10 = .inl (cy 0, 301, .inl (upd g_40 z_38.toNatClampNeg z_44)) := by rw [← hfe]; exact va_up_self _ _ _
      clear hfe
      have hI := hI9
      have hfr := hfr9
      clear hI9 hfr9
      obtain ⟨z_48, ez_48⟩ : ∃ y : Int32, y = v1 + 1 := ⟨_, rfl⟩
      refine lv_iinc (v := z_48) (lv' := [(1, .int z_48), (2, .int 0), (0, .ref o)]) hx hb dX10_tally_86 hl (k := 1) rfl (by rw [ez_48]; rfl) (by decide) rfl (fun ls hl => ?_)
      try have iz_48 : z_48.toInt = v1.toInt + 1 := by rw [ez_48]; exact tl_addL v1 1 (by decide) (by omega) (by omega)
      refine lv_goto (tgt := 2) hx hb dX10_tally_89 (by decide) ?_
      exact ih2 (f_46, z_48) H locs ls (by show (300 - z_48.toInt).toNat < (300 - v1.toInt).toNat; omega) ⟨(show 0 ≤ z_48.toInt from (by omega)), (show z_48.toInt ≤ 300 from (by omega)), hP, hI, hfr, hS, lv_sub hl [0, 2] rfl⟩
    · have c_27 : ¬ z_26.toInt = (0 : Int) := tl_neq c_27
      refine lv_aload_n hx hb dX10_tally_18 rfl (lv_at hl 1 rfl) ?_
      refine tp_get (cy := cy) (ci := 10) (v := .ref x_5) (C := RX10) (T := TX10) (N := 18) hx hb hta inlX10 hown hK hP ho.1 ((tp_un hfr ho (by decide)).trans hf_3) rfl 1 (by decide) (hta _ wk_132) (fun _ h9 => h9) rfl dX10_tally_19 ?_
      refine lv_iload_n hx hb dX10_tally_22 rfl (lv_at hl 0 rfl) ?_
      obtain ⟨g_50, hf_49⟩ := (show tp_az cy (300) (f x_5) from hI0.at hx_5)
      have hn_52 : vp_in v1 (300) := tl_in (by omega) (by omega)
      refine tp_zald (cy := cy) hx hb hK hP hx_5.1 ((tp_un hfr hx_5 (by decide)).trans hf_49) hn_52 dX10_tally_23 ?_
      refine lv_topi (fun z_53 ez_53 => ?_)
      refine lv_if_ne (tgt := 31) hx hb dX10_tally_24 (by decide) (fun c_54 => ?_) (fun c_54 => ?_)
      · have c_54 : ¬ z_53.toInt = (0 : Int) := tl_neq c_54
        refine lv_iconst (v := 0) hx hb dX10_tally_31 (by decide) ?_
        refine lv_istore_n (lv' := [(2, .int 0), (1, .int v1), (0, .ref o)]) hx hb dX10_tally_32 rfl hl (by decide) rfl (fun ls hl => ?_)
        refine lv_aload_n hx hb dX10_tally_33 rfl (lv_at hl 2 rfl) ?_
        refine tp_get (cy := cy) (ci := 10) (v := .ref x_9) (C := RX10) (T := TX10) (N := 18) hx hb hta inlX10 hown hK hP ho.1 ((tp_un hfr ho (by decide)).trans hf_3) rfl 5 (by decide) (hta _ wk_136) (fun _ h9 => h9) rfl dX10_tally_34 ?_
        refine lv_iload_n hx hb dX10_tally_37 rfl (lv_at hl 1 rfl) ?_
        refine lv_iconst (v := 1) hx hb dX10_tally_38 (by decide) ?_
        refine lv_iadd hx hb dX10_tally_39 ?_
        refine lv_topi (fun z_55 ez_55 => ?_)
        try have iz_55 : z_55.toInt = v1.toInt + (1 : Int) := by rw [ez_55]; exact tl_addN v1 1 rfl rfl (by omega) (by omega)
        refine lv_aload_n hx hb dX10_tally_40 rfl (lv_at hl 2 rfl) ?_
        refine tp_get (cy := cy) (ci := 10) (v := .ref x_9) (C := RX10) (T := TX10) (N := 18) hx hb hta inlX10 hown hK hP ho.1 ((tp_un hfr ho (by decide)).trans hf_3) rfl 5 (by decide) (hta _ wk_136) (fun _ h9 => h9) rfl dX10_tally_41 ?_
        refine lv_iload_n hx hb dX10_tally_44 rfl (lv_at hl 1 rfl) ?_
        obtain ⟨g_57, hf_56, hg_58⟩ := (show tp_ai cy 30 (301) (f_1 x_9) from hI.at hx_9)
        have hn_59 : vp_in v1 (301) := tl_in (by omega) (by omega)
        refine tp_iald (cy := cy) hx hb hK hP hx_9.1 hf_56 hn_59 dX10_tally_45 ?_
        refine lv_topi (fun z_60 ez_60 => ?_)
        refine lv_iload_n hx hb dX10_tally_46 rfl (lv_at hl 0 rfl) ?_
        refine lv_if_eq (tgt := 54) hx hb dX10_tally_47 (by decide) (fun _ => ?_) (fun c => absurd c (by decide))
        refine lv_iconst (v := 0) hx hb dX10_tally_54 (by decide) ?_
        refine lv_iadd hx hb dX10_tally_55 ?_
        refine lv_topi (fun z_61 ez_61 => ?_)
        try have iz_61 : z_61.toInt = z_60.toInt + (0 : Int) := by rw [ez_61]; exact tl_addN z_60 0 rfl rfl (by omega) (by omega)
        have hn_62 : vp_in z_55 (301) := tl_in (by omega) (by omega)
        have hI9 : tp_I cy L K Γ (va_up f_1 x_9 (.inl (cy 0, 301, .inl (upd g_57 z_55.toNatClampNeg z_61)))) := hI.set hx_9 (show tp_ai cy 30 (301) _ from ⟨_, rfl, tp_pi_upd hg_58 trivial⟩)
        have hfr9 : ∀ b, (K b).1 ∉ ([30] : List Nat) → va_up f_1 x_9 (.inl (cy 0, 301, .inl (upd g_57 z_55.toNatClampNeg z_61))) b = f b := tp_fr hfr hx_9 (by decide)
        refine tp_iast (cy := cy) hx hb hK hP hD hS hx_9.1 hf_56 hn_62 dX10_tally_56 (fun H locs hP hD hS => ?_)
        have hP : va_P D vwCl (va_pl L (va_up f_1 x_9 (.inl (cy 0, 301, .inl (upd g_57 z_55.toNatClampNeg z_61))))) H := hP
        generalize hfe : va_up f_1 x_9 (.inl (cy 0, 301, .inl (upd g_57 z_55.toNatClampNeg z_61))) = f_63 at hP hI9 hfr9
        have hD : va_D A (va_pl L f_63) := tp_D hL hAL
        have hf_64 : f_63 x_9 = .inl (cy 0, 301, .inl (upd g_57 z_55.toNatClampNeg z_61)) := by rw [← hfe]; exact va_up_self _ _ _
        clear hfe
        have hI := hI9
        have hfr := hfr9
        clear hI9 hfr9
        refine lv_aload_n hx hb dX10_tally_57 rfl (lv_at hl 2 rfl) ?_
        refine tp_get (cy := cy) (ci := 10) (v := .ref x_10) (C := RX10) (T := TX10) (N := 18) hx hb hta inlX10 hown hK hP ho.1 ((tp_un hfr ho (by decide)).trans hf_3) rfl 6 (by decide) (hta _ wk_137) (fun _ h9 => h9) rfl dX10_tally_58 ?_
        refine lv_iload_n hx hb dX10_tally_61 rfl (lv_at hl 1 rfl) ?_
        refine lv_iconst (v := 1) hx hb dX10_tally_62 (by decide) ?_
        refine lv_iadd hx hb dX10_tally_63 ?_
        refine lv_topi (fun z_65 ez_65 => ?_)
        try have iz_65 : z_65.toInt = v1.toInt + (1 : Int) := by rw [ez_65]; exact tl_addN v1 1 rfl rfl (by omega) (by omega)
        refine lv_aload_n hx hb dX10_tally_64 rfl (lv_at hl 2 rfl) ?_
        refine tp_get (cy := cy) (ci := 10) (v := .ref x_10) (C := RX10) (T := TX10) (N := 18) hx hb hta inlX10 hown hK hP ho.1 ((tp_un hfr ho (by decide)).trans hf_3) rfl 6 (by decide) (hta _ wk_137) (fun _ h9 => h9) rfl dX10_tally_65 ?_
        refine lv_iload_n hx hb dX10_tally_68 rfl (lv_at hl 1 rfl) ?_
        obtain ⟨g_67, hf_66, hg_68⟩ := (show tp_ai cy 30 (301) (f_63 x_10) from hI.at hx_10)
        have hn_69 : vp_in v1 (301) := tl_in (by omega) (by omega)
        refine tp_iald (cy := cy) hx hb hK hP hx_10.1 hf_66 hn_69 dX10_tally_69 ?_
        refine lv_topi (fun z_70 ez_70 => ?_)
        refine lv_iload_n hx hb dX10_tally_70 rfl (lv_at hl 0 rfl) ?_
        refine lv_if_eq (tgt := 83) hx hb dX10_tally_71 (by decide) (fun _ => ?_) (fun c => absurd c (by decide))
        refine lv_iconst (v := 0) hx hb dX10_tally_83 (by decide) ?_
        refine lv_iadd hx hb dX10_tally_84 ?_
        refine lv_topi (fun z_71 ez_71 => ?_)
        try have iz_71 : z_71.toInt = z_70.toInt + (0 : Int) := by rw [ez_71]; exact tl_addN z_70 0 rfl rfl (by omega) (by omega)
        have hn_72 : vp_in z_65 (301) := tl_in (by omega) (by omega)
        have hI9 : tp_I cy L K Γ (va_up f_63 x_10 (.inl (cy 0, 301, .inl (upd g_67 z_65.toNatClampNeg z_71)))) := hI.set hx_10 (show tp_ai cy 30 (301) _ from ⟨_, rfl, tp_pi_upd hg_68 trivial⟩)
        have hfr9 : ∀ b, (K b).1 ∉ ([30] : List Nat) → va_up f_63 x_10 (.inl (cy 0, 301, .inl (upd g_67 z_65.toNatClampNeg z_71))) b = f b := tp_fr hfr hx_10 (by decide)
        refine tp_iast (cy := cy) hx hb hK hP hD hS hx_10.1 hf_66 hn_72 dX10_tally_85 (fun H locs hP hD hS => ?_)
        have hP : va_P D vwCl (va_pl L (va_up f_63 x_10 (.inl (cy 0, 301, .inl (upd g_67 z_65.toNatClampNeg z_71))))) H := hP
        generalize hfe : va_up f_63 x_10 (.inl (cy 0, 301, .inl (upd g_67 z_65.toNatClampNeg z_71))) = f_73 at hP hI9 hfr9
        have hD : va_D A (va_pl L f_73) := tp_D hL hAL
        have hf_74 : f_73 x_10 = .inl (cy 0, 301, .inl (upd g_67 z_65.toNatClampNeg z_71)) := by rw [← hfe]; exact va_up_self _ _ _
        clear hfe
        have hI := hI9
        have hfr := hfr9
        clear hI9 hfr9
        obtain ⟨z_75, ez_75⟩ : ∃ y : Int32, y = v1 + 1 := ⟨_, rfl⟩
        refine lv_iinc (v := z_75) (lv' := [(1, .int z_75), (2, .int 0), (0, .ref o)]) hx hb dX10_tally_86 hl (k := 1) rfl (by rw [ez_75]; rfl) (by decide) rfl (fun ls hl => ?_)
        try have iz_75 : z_75.toInt = v1.toInt + 1 := by rw [ez_75]; exact tl_addL v1 1 (by decide) (by omega) (by omega)
        refine lv_goto (tgt := 2) hx hb dX10_tally_89 (by decide) ?_
        exact ih2 (f_73, z_75) H locs ls (by show (300 - z_75.toInt).toNat < (300 - v1.toInt).toNat; omega) ⟨(show 0 ≤ z_75.toInt from (by omega)), (show z_75.toInt ≤ 300 from (by omega)), hP, hI, hfr, hS, lv_sub hl [0, 2] rfl⟩
      · have c_54 : z_53.toInt = (0 : Int) := tl_eq c_54
        refine lv_iconst (v := 1) hx hb dX10_tally_27 (by decide) ?_
        refine lv_goto (tgt := 32) hx hb dX10_tally_28 (by decide) ?_
        refine lv_istore_n (lv' := [(2, .int 1), (1, .int v1), (0, .ref o)]) hx hb dX10_tally_32 rfl hl (by decide) rfl (fun ls hl => ?_)
        refine lv_aload_n hx hb dX10_tally_33 rfl (lv_at hl 2 rfl) ?_
        refine tp_get (cy := cy) (ci := 10) (v := .ref x_9) (C := RX10) (T := TX10) (N := 18) hx hb hta inlX10 hown hK hP ho.1 ((tp_un hfr ho (by decide)).trans hf_3) rfl 5 (by decide) (hta _ wk_136) (fun _ h9 => h9) rfl dX10_tally_34 ?_
        refine lv_iload_n hx hb dX10_tally_37 rfl (lv_at hl 1 rfl) ?_
        refine lv_iconst (v := 1) hx hb dX10_tally_38 (by decide) ?_
        refine lv_iadd hx hb dX10_tally_39 ?_
        refine lv_topi (fun z_76 ez_76 => ?_)
        try have iz_76 : z_76.toInt = v1.toInt + (1 : Int) := by rw [ez_76]; exact tl_addN v1 1 rfl rfl (by omega) (by omega)
        refine lv_aload_n hx hb dX10_tally_40 rfl (lv_at hl 2 rfl) ?_
        refine tp_get (cy := cy) (ci := 10) (v := .ref x_9) (C := RX10) (T := TX10) (N := 18) hx hb hta inlX10 hown hK hP ho.1 ((tp_un hfr ho (by decide)).trans hf_3) rfl 5 (by decide) (hta _ wk_136) (fun _ h9 => h9) rfl dX10_tally_41 ?_
        refine lv_iload_n hx hb dX10_tally_44 rfl (lv_at hl 1 rfl) ?_
        obtain ⟨g_78, hf_77, hg_79⟩ := (show tp_ai cy 30 (301) (f_1 x_9) from hI.at hx_9)
        have hn_80 : vp_in v1 (301) := tl_in (by omega) (by omega)
        refine tp_iald (cy := cy) hx hb hK hP hx_9.1 hf_77 hn_80 dX10_tally_45 ?_
        refine lv_topi (fun z_81 ez_81 => ?_)
        refine lv_iload_n hx hb dX10_tally_46 rfl (lv_at hl 0 rfl) ?_
        refine lv_if_eq (tgt := 54) hx hb dX10_tally_47 (by decide) (fun c => absurd c (by decide)) (fun _ => ?_)
        refine lv_iconst (v := 1) hx hb dX10_tally_50 (by decide) ?_
        refine lv_goto (tgt := 55) hx hb dX10_tally_51 (by decide) ?_
        refine lv_iadd hx hb dX10_tally_55 ?_
        refine lv_topi (fun z_82 ez_82 => ?_)
        try have iz_82 : z_82.toInt = z_81.toInt + (1 : Int) := by rw [ez_82]; exact tl_addN z_81 1 rfl rfl (by omega) (by omega)
        have hn_83 : vp_in z_76 (301) := tl_in (by omega) (by omega)
        have hI9 : tp_I cy L K Γ (va_up f_1 x_9 (.inl (cy 0, 301, .inl (upd g_78 z_76.toNatClampNeg z_82)))) := hI.set hx_9 (show tp_ai cy 30 (301) _ from ⟨_, rfl, tp_pi_upd hg_79 trivial⟩)
        have hfr9 : ∀ b, (K b).1 ∉ ([30] : List Nat) → va_up f_1 x_9 (.inl (cy 0, 301, .inl (upd g_78 z_76.toNatClampNeg z_82))) b = f b := tp_fr hfr hx_9 (by decide)
        refine tp_iast (cy := cy) hx hb hK hP hD hS hx_9.1 hf_77 hn_83 dX10_tally_56 (fun H locs hP hD hS => ?_)
        have hP : va_P D vwCl (va_pl L (va_up f_1 x_9 (.inl (cy 0, 301, .inl (upd g_78 z_76.toNatClampNeg z_82))))) H := hP
        generalize hfe : va_up f_1 x_9 (.inl (cy 0, 301, .inl (upd g_78 z_76.toNatClampNeg z_82))) = f_84 at hP hI9 hfr9
        have hD : va_D A (va_pl L f_84) := tp_D hL hAL
        have hf_85 : f_84 x_9 = .inl (cy 0, 301, .inl (upd g_78 z_76.toNatClampNeg z_82)) := by rw [← hfe]; exact va_up_self _ _ _
        clear hfe
        have hI := hI9
        have hfr := hfr9
        clear hI9 hfr9
        refine lv_aload_n hx hb dX10_tally_57 rfl (lv_at hl 2 rfl) ?_
        refine tp_get (cy := cy) (ci := 10) (v := .ref x_10) (C := RX10) (T := TX10) (N := 18) hx hb hta inlX10 hown hK hP ho.1 ((tp_un hfr ho (by decide)).trans hf_3) rfl 6 (by decide) (hta _ wk_137) (fun _ h9 => h9) rfl dX10_tally_58 ?_
        refine lv_iload_n hx hb dX10_tally_61 rfl (lv_at hl 1 rfl) ?_
        refine lv_iconst (v := 1) hx hb dX10_tally_62 (by decide) ?_
        refine lv_iadd hx hb dX10_tally_63 ?_
        refine lv_topi (fun z_86 ez_86 => ?_)
        try have iz_86 : z_86.toInt = v1.toInt + (1 : Int) := by rw [ez_86]; exact tl_addN v1 1 rfl rfl (by omega) (by omega)
        refine lv_aload_n hx hb dX10_tally_64 rfl (lv_at hl 2 rfl) ?_
        refine tp_get (cy := cy) (ci := 10) (v := .ref x_10) (C := RX10) (T := TX10) (N := 18) hx hb hta inlX10 hown hK hP ho.1 ((tp_un hfr ho (by decide)).trans hf_3) rfl 6 (by decide) (hta _ wk_137) (fun _ h9 => h9) rfl dX10_tally_65 ?_
        refine lv_iload_n hx hb dX10_tally_68 rfl (lv_at hl 1 rfl) ?_
        obtain ⟨g_88, hf_87, hg_89⟩ := (show tp_ai cy 30 (301) (f_84 x_10) from hI.at hx_10)
        have hn_90 : vp_in v1 (301) := tl_in (by omega) (by omega)
        refine tp_iald (cy := cy) hx hb hK hP hx_10.1 hf_87 hn_90 dX10_tally_69 ?_
        refine lv_topi (fun z_91 ez_91 => ?_)
        refine lv_iload_n hx hb dX10_tally_70 rfl (lv_at hl 0 rfl) ?_
        refine lv_if_eq (tgt := 83) hx hb dX10_tally_71 (by decide) (fun c => absurd c (by decide)) (fun _ => ?_)
        refine lv_aload_n hx hb dX10_tally_74 rfl (lv_at hl 2 rfl) ?_
        refine tp_get (cy := cy) (ci := 10) (v := .ref x_7) (C := RX10) (T := TX10) (N := 18) hx hb hta inlX10 hown hK hP ho.1 ((tp_un hfr ho (by decide)).trans hf_3) rfl 3 (by decide) (hta _ wk_134) (fun _ h9 => h9) rfl dX10_tally_75 ?_
        refine lv_iload_n hx hb dX10_tally_78 rfl (lv_at hl 1 rfl) ?_
        obtain ⟨g_93, hf_92, hg_94⟩ := (show tp_ai cy 29 (300) (f x_7) from hI0.at hx_7)
        have hn_95 : vp_in v1 (300) := tl_in (by omega) (by omega)
        refine tp_iald (cy := cy) hx hb hK hP hx_7.1 ((tp_un hfr hx_7 (by decide)).trans hf_92) hn_95 dX10_tally_79 ?_
        refine lv_topi (fun z_96 ez_96 => ?_)
        refine lv_goto (tgt := 84) hx hb dX10_tally_80 (by decide) ?_
        refine lv_iadd hx hb dX10_tally_84 ?_
        refine lv_topi (fun z_97 ez_97 => ?_)
        try have iz_97 : z_97.toInt = z_91.toInt + z_96.toInt := by rw [ez_97]; exact tl_addN z_91 z_96 rfl rfl (by omega) (by omega)
        have hn_98 : vp_in z_86 (301) := tl_in (by omega) (by omega)
        have hI9 : tp_I cy L K Γ (va_up f_84 x_10 (.inl (cy 0, 301, .inl (upd g_88 z_86.toNatClampNeg z_97)))) := hI.set hx_10 (show tp_ai cy 30 (301) _ from ⟨_, rfl, tp_pi_upd hg_89 trivial⟩)
        have hfr9 : ∀ b, (K b).1 ∉ ([30] : List Nat) → va_up f_84 x_10 (.inl (cy 0, 301, .inl (upd g_88 z_86.toNatClampNeg z_97))) b = f b := tp_fr hfr hx_10 (by decide)
        refine tp_iast (cy := cy) hx hb hK hP hD hS hx_10.1 hf_87 hn_98 dX10_tally_85 (fun H locs hP hD hS => ?_)
        have hP : va_P D vwCl (va_pl L (va_up f_84 x_10 (.inl (cy 0, 301, .inl (upd g_88 z_86.toNatClampNeg z_97))))) H := hP
        generalize hfe : va_up f_84 x_10 (.inl (cy 0, 301, .inl (upd g_88 z_86.toNatClampNeg z_97))) = f_99 at hP hI9 hfr9
        have hD : va_D A (va_pl L f_99) := tp_D hL hAL
        have hf_100 : f_99 x_10 = .inl (cy 0, 301, .inl (upd g_88 z_86.toNatClampNeg z_97)) := by rw [← hfe]; exact va_up_self _ _ _
        clear hfe
        have hI := hI9
        have hfr := hfr9
        clear hI9 hfr9
        obtain ⟨z_101, ez_101⟩ : ∃ y : Int32, y = v1 + 1 := ⟨_, rfl⟩
        refine lv_iinc (v := z_101) (lv' := [(1, .int z_101), (2, .int 1), (0, .ref o)]) hx hb dX10_tally_86 hl (k := 1) rfl (by rw [ez_101]; rfl) (by decide) rfl (fun ls hl => ?_)
        try have iz_101 : z_101.toInt = v1.toInt + 1 := by rw [ez_101]; exact tl_addL v1 1 (by decide) (by omega) (by omega)
        refine lv_goto (tgt := 2) hx hb dX10_tally_89 (by decide) ?_
        exact ih2 (f_99, z_101) H locs ls (by show (300 - z_101.toInt).toNat < (300 - v1.toInt).toNat; omega) ⟨(show 0 ≤ z_101.toInt from (by omega)), (show z_101.toInt ≤ 300 from (by omega)), hP, hI, hfr, hS, lv_sub hl [0, 2] rfl⟩
set_option maxHeartbeats 4000000 in
set_option maxRecDepth 100000 in
theorem t_X10_besideGap (l : Launch) (D : va_G) (cy : Nat → ClassId) (sz : Nat) (L : List Nat) (K : Nat → tk_K) (Γ : tk_G) (f : Nat → va_E) (o : Nat) (q : Nat) (p0 : Int32) (p1 : Int32) (ho : tp_r L K 27 (0) 0 o) (hq : tp_r L K 30 (301) 0 q) (h0 : 0 ≤ p0.toInt ∧ p0.toInt ≤ 300) (h1 : 0 ≤ p1.toInt ∧ p1.toInt ≤ 300) : Met l yX10_besideGap (tl_w yX10_besideGap cX10_besideGap 7 (some .int)) ({ frames := 1, cells := 0, slots := 0, locals := 13 }) (va_Pc [.ref o, .ref q, .int p0, .int p1] (tp_P D cy L K Γ f sz)) (vp_Si (fun r : Int32 => True)) 0 0 (fun _ => False) := by
  refine Met.ofW (cc := cX10_besideGap) (maxL := 7) (ret := (some .int)) (by decide) rfl ?_
  intro p e s m args below meth c s₁ B hml hv
  obtain ⟨rfl, hsz, hP, hK, hL, hI, hN, hU⟩ := hv
  have hx := B.exec
  have hb := B.bytes
  have hr := B.returns
  have hta := tl_hta (atoms_spec (ws := tl_w yX10_besideGap cX10_besideGap 7 (some .int)) B.pre)
  have hown : s.vm.findClass RX10 = some m.cls := findClass_of_methodNamed B.named
  have hlocks := B.notSynchronized
  subst hsz
  have hI0 := hI
  have hl := lv_entry ([.ref o, .ref q, .int p0, .int p1]) (n := 7) (Nat.le_of_ble_eq_true rfl)
  rw [lg_entry_eq]
  generalize (lg_sl ([.ref o, .ref q, .int p0, .int p1]) ++ List.replicate (7 - (lg_sl ([.ref o, .ref q, .int p0, .int p1])).length) Slot.unset).toArray = ls at hl ⊢
  have hl : lv_has ls 7 [(0, .ref o), (1, .ref q), (2, .int p0), (3, .int p1)] := hl
  refine lv_iload_n hx hb dX10_besideGap_0 rfl (lv_at hl 2 rfl) ?_
  refine lv_aload_n hx hb dX10_besideGap_1 rfl (lv_at hl 0 rfl) ?_
  obtain ⟨x_2, x_3, x_4, x_5, x_6, x_7, x_8, x_9, x_10, x_11, x_12, x_13, x_14, x_15, x_16, x_17, x_18, x_19, hf_1, hx_2, hx_3, hx_4, hx_5, hx_6, hx_7, hx_8, hx_9, hx_10, hx_12, hx_15⟩ := (show tp_o_VIEW L K (0) 0 (Γ (27, 0, 0)) (f o) from hI0.at ho)
  refine tp_get (cy := cy) (ci := 10) (v := .int x_13) (C := RX10) (T := TX10) (N := 18) hx hb hta inlX10 hown hK hP ho.1 hf_1 rfl 11 (by decide) (hta _ wk_848) (fun _ h9 => h9) rfl dX10_besideGap_2 ?_
  refine va_mmax hx hb (by rw [hml]; exact hl.1.symm) hown (hta _ wk_861) (hta _ wk_82) (hta _ wk_83) (hta _ wk_84) (Nat.le_of_ble_eq_true rfl) (Nat.le_of_ble_eq_true rfl) (Nat.le_of_ble_eq_true rfl) (Nat.le_of_ble_eq_true rfl) dX10_besideGap_5 ?_
  refine lv_topi (fun z_20 ez_20 => ?_)
  have iz_20 : (z_20.toInt = x_13.toInt ∧ p0.toInt ≤ x_13.toInt) ∨ (z_20.toInt = p0.toInt ∧ x_13.toInt ≤ p0.toInt) := by rw [ez_20]; exact tl_maxF
  refine lv_istore (lv' := [(4, .int z_20), (0, .ref o), (1, .ref q), (2, .int p0), (3, .int p1)]) hx hb dX10_besideGap_8 hl (by decide) rfl (fun ls hl => ?_)
  refine lv_iload_n hx hb dX10_besideGap_10 rfl (lv_at hl 4 rfl) ?_
  refine lv_aload_n hx hb dX10_besideGap_11 rfl (lv_at hl 1 rfl) ?_
  refine tp_get (cy := cy) (ci := 10) (v := .int x_14) (C := RX10) (T := TX10) (N := 18) hx hb hta inlX10 hown hK hP ho.1 hf_1 rfl 12 (by decide) (hta _ wk_849) (fun _ h9 => h9) rfl dX10_besideGap_12 ?_
  refine lv_iconst (v := 1) hx hb dX10_besideGap_15 (by decide) ?_
  refine lv_iadd hx hb dX10_besideGap_16 ?_
  refine lv_topi (fun z_21 ez_21 => ?_)
  try have iz_21 : z_21.toInt = x_14.toInt + (1 : Int) := by rw [ez_21]; exact tl_addN x_14 1 rfl rfl (by omega) (by omega)
  refine va_mmin hx hb (by rw [hml]; exact hl.1.symm) hown (hta _ wk_862) (hta _ wk_770) (hta _ wk_83) (hta _ wk_771) (Nat.le_of_ble_eq_true rfl) (Nat.le_of_ble_eq_true rfl) (Nat.le_of_ble_eq_true rfl) (Nat.le_of_ble_eq_true rfl) dX10_besideGap_17 ?_
  refine lv_topi (fun z_22 ez_22 => ?_)
  have iz_22 : (z_22.toInt = z_21.toInt ∧ z_21.toInt ≤ p1.toInt) ∨ (z_22.toInt = p1.toInt ∧ p1.toInt ≤ z_21.toInt) := by rw [ez_22]; exact tl_minF
  refine lv_istore (lv' := [(5, .int z_22), (4, .int z_20), (0, .ref o), (1, .ref q), (2, .int p0), (3, .int p1)]) hx hb dX10_besideGap_20 hl (by decide) rfl (fun ls hl => ?_)
  refine lv_iload hx hb dX10_besideGap_22 (lv_at hl 1 rfl) ?_
  refine lv_iload hx hb dX10_besideGap_24 (lv_at hl 0 rfl) ?_
  refine lv_icmp_ge (tgt := 41) hx hb dX10_besideGap_26 (by decide) (fun c_23 => ?_) (fun c_23 => ?_)
  · have c_23 : z_22.toInt ≤ z_20.toInt := tl_le c_23
    refine lv_iconst (v := 0) hx hb dX10_besideGap_41 (by decide) ?_
    refine lv_istore (lv' := [(6, .int 0), (5, .int z_22), (4, .int z_20), (0, .ref o), (1, .ref q), (2, .int p0), (3, .int p1)]) hx hb dX10_besideGap_42 hl (by decide) rfl (fun ls hl => ?_)
    refine lv_aload_n hx hb dX10_besideGap_44 rfl (lv_at hl 4 rfl) ?_
    refine lv_iload_n hx hb dX10_besideGap_45 rfl (lv_at hl 6 rfl) ?_
    obtain ⟨g_25, hf_24, hg_26⟩ := (show tp_ai cy 30 (301) (f q) from hI0.at hq)
    have hn_27 : vp_in p1 (301) := tl_in (by omega) (by omega)
    refine tp_iald (cy := cy) hx hb hK hP hq.1 hf_24 hn_27 dX10_besideGap_46 ?_
    refine lv_topi (fun z_28 ez_28 => ?_)
    refine lv_aload_n hx hb dX10_besideGap_47 rfl (lv_at hl 4 rfl) ?_
    refine lv_iload_n hx hb dX10_besideGap_48 rfl (lv_at hl 5 rfl) ?_
    have hn_29 : vp_in p0 (301) := tl_in (by omega) (by omega)
    refine tp_iald (cy := cy) hx hb hK hP hq.1 hf_24 hn_29 dX10_besideGap_49 ?_
    refine lv_topi (fun z_30 ez_30 => ?_)
    refine lv_isub hx hb dX10_besideGap_50 ?_
    refine lv_topi (fun z_31 ez_31 => ?_)
    try have iz_31 : z_31.toInt = z_28.toInt - z_30.toInt := by rw [ez_31]; exact tl_subN z_28 z_30 rfl rfl (by omega) (by omega)
    refine lv_iload hx hb dX10_besideGap_51 (lv_at hl 0 rfl) ?_
    refine lv_isub hx hb dX10_besideGap_53 ?_
    refine lv_topi (fun z_32 ez_32 => ?_)
    try have iz_32 : z_32.toInt = z_31.toInt - (0 : Int) := by rw [ez_32]; exact tl_subN z_31 0 rfl rfl (by omega) (by omega)
    exact W.iret (v := z_32) hx hb hr (fun t ht hW => ⟨_, rfl, trivial, ht⟩) (fun q h => by cases h) dX10_besideGap_54
  · have c_23 : z_20.toInt < z_22.toInt := tl_nle c_23
    refine lv_aload_n hx hb dX10_besideGap_29 rfl (lv_at hl 3 rfl) ?_
    refine lv_iload hx hb dX10_besideGap_30 (lv_at hl 0 rfl) ?_
    obtain ⟨g_34, hf_33, hg_35⟩ := (show tp_ai cy 30 (301) (f q) from hI0.at hq)
    have hn_36 : vp_in z_22 (301) := tl_in (by omega) (by omega)
    refine tp_iald (cy := cy) hx hb hK hP hq.1 hf_33 hn_36 dX10_besideGap_32 ?_
    refine lv_topi (fun z_37 ez_37 => ?_)
    refine lv_aload_n hx hb dX10_besideGap_33 rfl (lv_at hl 3 rfl) ?_
    refine lv_iload hx hb dX10_besideGap_34 (lv_at hl 1 rfl) ?_
    have hn_38 : vp_in z_20 (301) := tl_in (by omega) (by omega)
    refine tp_iald (cy := cy) hx hb hK hP hq.1 hf_33 hn_38 dX10_besideGap_36 ?_
    refine lv_topi (fun z_39 ez_39 => ?_)
    refine lv_isub hx hb dX10_besideGap_37 ?_
    refine lv_topi (fun z_40 ez_40 => ?_)
    try have iz_40 : z_40.toInt = z_37.toInt - z_39.toInt := by rw [ez_40]; exact tl_subN z_37 z_39 rfl rfl (by omega) (by omega)
    refine lv_goto (tgt := 42) hx hb dX10_besideGap_38 (by decide) ?_
    refine lv_istore (lv' := [(6, .int z_40), (5, .int z_22), (4, .int z_20), (0, .ref o), (1, .ref q), (2, .int p0), (3, .int p1)]) hx hb dX10_besideGap_42 hl (by decide) rfl (fun ls hl => ?_)
    refine lv_aload_n hx hb dX10_besideGap_44 rfl (lv_at hl 4 rfl) ?_
    refine lv_iload_n hx hb dX10_besideGap_45 rfl (lv_at hl 6 rfl) ?_
    have hn_41 : vp_in p1 (301) := tl_in (by omega) (by omega)
    refine tp_iald (cy := cy) hx hb hK hP hq.1 hf_33 hn_41 dX10_besideGap_46 ?_
    refine lv_topi (fun z_42 ez_42 => ?_)
    refine lv_aload_n hx hb dX10_besideGap_47 rfl (lv_at hl 4 rfl) ?_
    refine lv_iload_n hx hb dX10_besideGap_48 rfl (lv_at hl 5 rfl) ?_
    have hn_43 : vp_in p0 (301) := tl_in (by omega) (by omega)
    refine tp_iald (cy := cy) hx hb hK hP hq.1 hf_33 hn_43 dX10_besideGap_49 ?_
    refine lv_topi (fun z_44 ez_44 => ?_)
    refine lv_isub hx hb dX10_besideGap_50 ?_
    refine lv_topi (fun z_45 ez_45 => ?_)
    try have iz_45 : z_45.toInt = z_42.toInt - z_44.toInt := by rw [ez_45]; exact tl_subN z_42 z_44 rfl rfl (by omega) (by omega)
    refine lv_iload hx hb dX10_besideGap_51 (lv_at hl 0 rfl) ?_
    refine lv_isub hx hb dX10_besideGap_53 ?_
    refine lv_topi (fun z_46 ez_46 => ?_)
    try have iz_46 : z_46.toInt = z_45.toInt - z_40.toInt := by rw [ez_46]; exact tl_subN z_45 z_40 rfl rfl (by omega) (by omega)
    exact W.iret (v := z_46) hx hb hr (fun t ht hW => ⟨_, rfl, trivial, ht⟩) (fun q h => by cases h) dX10_besideGap_54
set_option maxHeartbeats 4000000 in
set_option maxRecDepth 100000 in
theorem t_X10_layBetween (l : Launch) (D : va_G) (cy : Nat → ClassId) (sz : Nat) (L : List Nat) (K : Nat → tk_K) (Γ : tk_G) (f : Nat → va_E) (o : Nat) (p0 : Int32) (p1 : Int32) (p2 : Int32) (ho : tp_r L K 27 (0) 0 o) (h0 : 0 ≤ p0.toInt ∧ p0.toInt ≤ 40) (h1 : 0 ≤ p1.toInt ∧ p1.toInt ≤ 300) (h2 : p2.toInt ≤ 300) : Met l yX10_layBetween (tl_w yX10_layBetween cX10_layBetween 7 none) ({ frames := 1, cells := 0, slots := 0, locals := 22 }) (va_Pc [.ref o, .int p0, .int p1, .int p2] (tp_P D cy L K Γ f sz)) (va_Qv (fun (u : Nat → va_E) => True) (tp_B D cy L K Γ f [29]) (tp_A L sz)) 0 0 (tp_A L sz) := by
  refine Met.ofW (cc := cX10_layBetween) (maxL := 7) (ret := none) (by decide) rfl ?_
  intro p e s m args below meth c s₁ B hml hv
  obtain ⟨rfl, hsz, hP, hK, hL, hI, hN, hU⟩ := hv
  have hx := B.exec
  have hb := B.bytes
  have hr := B.returns
  have hta := tl_hta (atoms_spec (ws := tl_w yX10_layBetween cX10_layBetween 7 none) B.pre)
  have hown : s.vm.findClass RX10 = some m.cls := findClass_of_methodNamed B.named
  have hlocks := B.notSynchronized
  subst hsz
  have hI0 := hI
  generalize hAe : tp_A L s.heap.size = A
  have hA : ∀ q : Nat, s.heap.size ≤ q → A q := fun q h => by rw [← hAe]; exact Or.inr h
  have hAL : ∀ q ∈ L, A q := fun q h => by rw [← hAe]; exact Or.inl h
  have hAf : ∀ (H : Heap), s.heap.size ≤ H.size → ∀ q, tp_A L H.size q → A q := fun H h q hq => hq.elim (hAL q) (fun h2 => hA q (Nat.le_trans h h2))
  have hS : va_S A s.heap s.heap [] := va_S.rf
  have hD : va_D A (va_pl L f) := tp_D hL hAL
  have hfr : ∀ b, (K b).1 ∉ ([29] : List Nat) → f b = f b := fun _ _ => rfl
  have hl := lv_entry ([.ref o, .int p0, .int p1, .int p2]) (n := 7) (Nat.le_of_ble_eq_true rfl)
  rw [lg_entry_eq]
  generalize (lg_sl ([.ref o, .int p0, .int p1, .int p2]) ++ List.replicate (7 - (lg_sl ([.ref o, .int p0, .int p1, .int p2])).length) Slot.unset).toArray = ls at hl ⊢
  have hl : lv_has ls 7 [(0, .ref o), (1, .int p0), (2, .int p1), (3, .int p2)] := hl
  refine lv_aload_n hx hb dX10_layBetween_0 rfl (lv_at hl 0 rfl) ?_
  obtain ⟨x_2, x_3, x_4, x_5, x_6, x_7, x_8, x_9, x_10, x_11, x_12, x_13, x_14, x_15, x_16, x_17, x_18, x_19, hf_1, hx_2, hx_3, hx_4, hx_5, hx_6, hx_7, hx_8, hx_9, hx_10, hx_12, hx_15⟩ := (show tp_o_VIEW L K (0) 0 (Γ (27, 0, 0)) (f o) from hI0.at ho)
  refine tp_get (cy := cy) (ci := 10) (v := .ref x_10) (C := RX10) (T := TX10) (N := 18) hx hb hta inlX10 hown hK hP ho.1 hf_1 rfl 8 (by decide) (hta _ wk_139) (fun _ h9 => h9) rfl dX10_layBetween_1 ?_
  refine lv_iload_n hx hb dX10_layBetween_4 rfl (lv_at hl 1 rfl) ?_
  refine lv_iconst (v := 1) hx hb dX10_layBetween_5 (by decide) ?_
  refine lv_iadd hx hb dX10_layBetween_6 ?_
  refine lv_topi (fun z_20 ez_20 => ?_)
  try have iz_20 : z_20.toInt = p0.toInt + (1 : Int) := by rw [ez_20]; exact tl_addN p0 1 rfl rfl (by omega) (by omega)
  obtain ⟨g_22, hf_21, hg_23⟩ := (show tp_ai cy 32 (42) (f x_10) from hI0.at hx_10)
  have hn_24 : vp_in z_20 (42) := tl_in (by omega) (by omega)
  refine tp_iald (cy := cy) hx hb hK hP hx_10.1 hf_21 hn_24 dX10_layBetween_7 ?_
  refine lv_topi (fun z_25 ez_25 => ?_)
  refine lv_aload_n hx hb dX10_layBetween_8 rfl (lv_at hl 0 rfl) ?_
  refine tp_get (cy := cy) (ci := 10) (v := .ref x_10) (C := RX10) (T := TX10) (N := 18) hx hb hta inlX10 hown hK hP ho.1 hf_1 rfl 8 (by decide) (hta _ wk_139) (fun _ h9 => h9) rfl dX10_layBetween_9 ?_
  refine lv_iload_n hx hb dX10_layBetween_12 rfl (lv_at hl 1 rfl) ?_
  have hn_26 : vp_in p0 (42) := tl_in (by omega) (by omega)
  refine tp_iald (cy := cy) hx hb hK hP hx_10.1 hf_21 hn_26 dX10_layBetween_13 ?_
  refine lv_topi (fun z_27 ez_27 => ?_)
  refine lv_isub hx hb dX10_layBetween_14 ?_
  refine lv_topi (fun z_28 ez_28 => ?_)
  try have iz_28 : z_28.toInt = z_25.toInt - z_27.toInt := by rw [ez_28]; exact tl_subN z_25 z_27 rfl rfl (by omega) (by omega)
  refine lv_istore (lv' := [(4, .int z_28), (0, .ref o), (1, .int p0), (2, .int p1), (3, .int p2)]) hx hb dX10_layBetween_15 hl (by decide) rfl (fun ls hl => ?_)
  refine lv_iconst (v := 1) hx hb dX10_layBetween_17 (by decide) ?_
  refine lv_iload_n hx hb dX10_layBetween_18 rfl (lv_at hl 4 rfl) ?_
  refine lv_iload_n hx hb dX10_layBetween_19 rfl (lv_at hl 3 rfl) ?_
  refine lv_isub hx hb dX10_layBetween_20 ?_
  refine lv_topi (fun z_29 ez_29 => ?_)
  try have iz_29 : z_29.toInt = p2.toInt - p1.toInt := by rw [ez_29]; exact tl_subN p2 p1 rfl rfl (by omega) (by omega)
  refine va_mmax hx hb (by rw [hml]; exact hl.1.symm) hown (hta _ wk_861) (hta _ wk_82) (hta _ wk_83) (hta _ wk_84) (Nat.le_of_ble_eq_true rfl) (Nat.le_of_ble_eq_true rfl) (Nat.le_of_ble_eq_true rfl) (Nat.le_of_ble_eq_true rfl) dX10_layBetween_21 ?_
  refine lv_topi (fun z_30 ez_30 => ?_)
  have iz_30 : (z_30.toInt = z_29.toInt ∧ (1 : Int) ≤ z_29.toInt) ∨ (z_30.toInt = (1 : Int) ∧ z_29.toInt ≤ (1 : Int)) := by rw [ez_30]; exact tl_maxF
  refine lv_istore (lv' := [(5, .int z_30), (4, .int z_28), (0, .ref o), (1, .int p0), (2, .int p1), (3, .int p2)]) hx hb dX10_layBetween_24 hl (by decide) rfl (fun ls hl => ?_)
  refine lv_iload_n hx hb dX10_layBetween_26 rfl (lv_at hl 4 rfl) ?_
  refine lv_istore (lv' := [(6, .int p1), (5, .int z_30), (4, .int z_28), (0, .ref o), (1, .int p0), (2, .int p1), (3, .int p2)]) hx hb dX10_layBetween_27 hl (by decide) rfl (fun ls hl => ?_)
  refine tq_start hP hS (fun H locs hP hS => ?_)
  refine tl_ind (G := fun H locs ls => W p l e ((headSpec (tl_w yX10_layBetween cX10_layBetween 7 none) ({ frames := 1, cells := 0, slots := 0, locals := 22 })).room) s m #[.ref o, .int p0, .int p1, .int p2] below meth c H locs 0 0 (MQ below (va_Qv (fun (u : Nat → va_E) => True) (tp_B D cy L K Γ f [29]) A) #[.ref o, .int p0, .int p1, .int p2] s 0 0 A) (F0 m 29 ls [])) (α := (Nat → va_E) × Int32) (fun aq => (300 - aq.2.toInt).toNat) (fun aq H locs ls => (0 ≤ aq.2.toInt ∧ aq.2.toInt ≤ 300) ∧ va_P D vwCl (va_pl L aq.1) H ∧ tp_I cy L K Γ aq.1 ∧ (∀ b, (K b).1 ∉ ([29] : List Nat) → aq.1 b = f b) ∧ va_S A s.heap H locs ∧ lv_has ls 7 [(6, .int aq.2), (5, .int z_30), (4, .int z_28), (0, .ref o), (1, .int p0), (2, .int p1), (3, .int p2)]) ?_ (f, p1) H locs ls ⟨(show 0 ≤ p1.toInt ∧ p1.toInt ≤ 300 from (by omega)), hP, hI, hfr, hS, lv_sub hl [0, 1, 2, 3, 4, 5, 6] rfl⟩
  rintro ⟨f_31, v6⟩ H locs ls ⟨h5, hP, hI, hfr, hS, hl⟩ ih29
  have hP : va_P D vwCl (va_pl L f_31) H := hP
  have hI : tp_I cy L K Γ f_31 := hI
  have hfr : ∀ b, (K b).1 ∉ ([29] : List Nat) → f_31 b = f b := hfr
  have hD : va_D A (va_pl L f_31) := tp_D hL hAL
  have h5 : 0 ≤ v6.toInt ∧ v6.toInt ≤ 300 := h5
  have hl : lv_has ls 7 [(6, .int v6), (5, .int z_30), (4, .int z_28), (0, .ref o), (1, .int p0), (2, .int p1), (3, .int p2)] := hl
  refine lv_iload hx hb dX10_layBetween_29 (lv_at hl 0 rfl) ?_
  refine lv_iload_n hx hb dX10_layBetween_31 rfl (lv_at hl 6 rfl) ?_
  refine lv_icmp_ge (tgt := 67) hx hb dX10_layBetween_32 (by decide) (fun c_32 => ?_) (fun c_32 => ?_)
  · have c_32 : p2.toInt ≤ v6.toInt := tl_le c_32
    exact W.vret hx hb hr (fun t ht hW => ⟨⟨f_31, rfl, trivial, by rw [ht]; exact hP, hI, hfr⟩, hS.F ht⟩) hS.2.2 dX10_layBetween_67
  · have c_32 : v6.toInt < p2.toInt := tl_nle c_32
    refine lv_aload_n hx hb dX10_layBetween_35 rfl (lv_at hl 3 rfl) ?_
    refine tp_get (cy := cy) (ci := 10) (v := .ref x_6) (C := RX10) (T := TX10) (N := 18) hx hb hta inlX10 hown hK hP ho.1 ((tp_un hfr ho (by decide)).trans hf_1) rfl 4 (by decide) (hta _ wk_135) (fun _ h9 => h9) rfl dX10_layBetween_36 ?_
    refine lv_iload hx hb dX10_layBetween_39 (lv_at hl 0 rfl) ?_
    refine lv_aload_n hx hb dX10_layBetween_41 rfl (lv_at hl 3 rfl) ?_
    refine tp_get (cy := cy) (ci := 10) (v := .ref x_10) (C := RX10) (T := TX10) (N := 18) hx hb hta inlX10 hown hK hP ho.1 ((tp_un hfr ho (by decide)).trans hf_1) rfl 8 (by decide) (hta _ wk_139) (fun _ h9 => h9) rfl dX10_layBetween_42 ?_
    refine lv_iload_n hx hb dX10_layBetween_45 rfl (lv_at hl 4 rfl) ?_
    have hn_33 : vp_in p0 (42) := tl_in (by omega) (by omega)
    refine tp_iald (cy := cy) hx hb hK hP hx_10.1 ((tp_un hfr hx_10 (by decide)).trans hf_21) hn_33 dX10_layBetween_46 ?_
    refine lv_topi (fun z_34 ez_34 => ?_)
    refine lv_iload hx hb dX10_layBetween_47 (lv_at hl 2 rfl) ?_
    refine lv_iload hx hb dX10_layBetween_49 (lv_at hl 0 rfl) ?_
    refine lv_iload_n hx hb dX10_layBetween_51 rfl (lv_at hl 5 rfl) ?_
    refine lv_isub hx hb dX10_layBetween_52 ?_
    refine lv_topi (fun z_35 ez_35 => ?_)
    try have iz_35 : z_35.toInt = v6.toInt - p1.toInt := by rw [ez_35]; exact tl_subN v6 p1 rfl rfl (by omega) (by omega)
    refine lv_imul hx hb dX10_layBetween_53 ?_
    refine lv_topi (fun z_36 ez_36 => ?_)
    try have iz_36 : z_36.toInt = z_28.toInt * z_35.toInt := by rw [ez_36]; exact tl_mulN z_28 z_35 rfl rfl (by omega) (by omega)
    refine lv_iload hx hb dX10_layBetween_54 (lv_at hl 1 rfl) ?_
    refine tl_si (tq_rS (As := [.int z_36, .int z_30]) (rest := [.int z_34, .int v6, .ref x_6]) ⟨hx, hb, hml, hown, hta⟩ (tp_P.pre hK hN hL hU hI hP) lk_X10_115 (t_J9_floorDiv_7cf53 l D cy H.size L K Γ f_31 z_36 z_30 (by first | omega | (simp only [Int32.toInt_toInt64]; omega) | decide | assumption)) rfl rfl ⟨Nat.le_of_ble_eq_true rfl, Nat.le_of_ble_eq_true rfl⟩ rfl hl.1 rfl (Nat.le_of_ble_eq_true rfl) dX10_layBetween_56 ⟨Nat.le_of_ble_eq_true rfl, Nat.le_of_ble_eq_true rfl⟩) (fun r_38 hw_37 => ?_)
    refine lv_iadd hx hb dX10_layBetween_59 ?_
    refine lv_topi (fun z_39 ez_39 => ?_)
    try have iz_39 : z_39.toInt = z_34.toInt + r_38.toInt := by rw [ez_39]; exact tl_addN z_34 r_38 rfl rfl (by omega) (by omega)
    obtain ⟨g_41, hf_40, hg_42⟩ := (show tp_ai cy 29 (300) (f_31 x_6) from hI.at hx_6)
    have hn_43 : vp_in v6 (300) := tl_in (by omega) (by omega)
    have hI9 : tp_I cy L K Γ (va_up f_31 x_6 (.inl (cy 0, 300, .inl (upd g_41 v6.toNatClampNeg z_39)))) := hI.set hx_6 (show tp_ai cy 29 (300) _ from ⟨_, rfl, tp_pi_upd hg_42 trivial⟩)
    have hfr9 : ∀ b, (K b).1 ∉ ([29] : List Nat) → va_up f_31 x_6 (.inl (cy 0, 300, .inl (upd g_41 v6.toNatClampNeg z_39))) b = f b := tp_fr hfr hx_6 (by decide)
    refine tp_iast (cy := cy) hx hb hK hP hD hS hx_6.1 hf_40 hn_43 dX10_layBetween_60 (fun H locs hP hD hS => ?_)
    have hP : va_P D vwCl (va_pl L (va_up f_31 x_6 (.inl (cy 0, 300, .inl (upd g_41 v6.toNatClampNeg z_39))))) H := hP
    generalize hfe : va_up f_31 x_6 (.inl (cy 0, 300, .inl (upd g_41 v6.toNatClampNeg z_39))) = f_44 at hP hI9 hfr9
    have hD : va_D A (va_pl L f_44) := tp_D hL hAL
    have hf_45 : f_44 x_6 = .inl (cy 0, 300, .inl (upd g_41 v6.toNatClampNeg z_39)) := by rw [← hfe]; exact va_up_self _ _ _
    clear hfe
    have hI := hI9
    have hfr := hfr9
    clear hI9 hfr9
    obtain ⟨z_46, ez_46⟩ : ∃ y : Int32, y = v6 + 1 := ⟨_, rfl⟩
    refine lv_iinc (v := z_46) (lv' := [(6, .int z_46), (5, .int z_30), (4, .int z_28), (0, .ref o), (1, .int p0), (2, .int p1), (3, .int p2)]) hx hb dX10_layBetween_61 hl (k := 0) rfl (by rw [ez_46]; rfl) (by decide) rfl (fun ls hl => ?_)
    try have iz_46 : z_46.toInt = v6.toInt + 1 := by rw [ez_46]; exact tl_addL v6 1 (by decide) (by omega) (by omega)
    refine lv_goto (tgt := 29) hx hb dX10_layBetween_64 (by decide) ?_
    exact ih29 (f_44, z_46) H locs ls (by show (300 - z_46.toInt).toNat < (300 - v6.toInt).toNat; omega) ⟨(show 0 ≤ z_46.toInt ∧ z_46.toInt ≤ 300 from (by omega)), hP, hI, hfr, hS, lv_sub hl [0, 1, 2, 3, 4, 5, 6] rfl⟩
set_option maxHeartbeats 4000000 in
set_option maxRecDepth 100000 in
theorem t_X10_layKnots (l : Launch) (D : va_G) (cy : Nat → ClassId) (sz : Nat) (L : List Nat) (K : Nat → tk_K) (Γ : tk_G) (f : Nat → va_E) (o : Nat) (ho : tp_r L K 27 (0) 0 o) : Met l yX10_layKnots (tl_w yX10_layKnots cX10_layKnots 7 none) ({ frames := 2, cells := 0, slots := 0, locals := 39 }) (va_Pc [.ref o] (tp_P D cy L K Γ f sz)) (va_Qv (fun (u : Nat → va_E) => tv_gap (f o) → tv_gap (u o)) (tp_B D cy L K Γ f [27, 31, 32]) (tp_A L sz)) 0 0 (tp_A L sz) := by
  refine Met.ofW (cc := cX10_layKnots) (maxL := 7) (ret := none) (by decide) rfl ?_
  intro p e s m args below meth c s₁ B hml hv
  obtain ⟨rfl, hsz, hP, hK, hL, hI, hN, hU⟩ := hv
  have hx := B.exec
  have hb := B.bytes
  have hr := B.returns
  have hta := tl_hta (atoms_spec (ws := tl_w yX10_layKnots cX10_layKnots 7 none) B.pre)
  have hown : s.vm.findClass RX10 = some m.cls := findClass_of_methodNamed B.named
  have hlocks := B.notSynchronized
  subst hsz
  have hI0 := hI
  generalize hAe : tp_A L s.heap.size = A
  have hA : ∀ q : Nat, s.heap.size ≤ q → A q := fun q h => by rw [← hAe]; exact Or.inr h
  have hAL : ∀ q ∈ L, A q := fun q h => by rw [← hAe]; exact Or.inl h
  have hAf : ∀ (H : Heap), s.heap.size ≤ H.size → ∀ q, tp_A L H.size q → A q := fun H h q hq => hq.elim (hAL q) (fun h2 => hA q (Nat.le_trans h h2))
  have hS : va_S A s.heap s.heap [] := va_S.rf
  have hD : va_D A (va_pl L f) := tp_D hL hAL
  have hfr : ∀ b, (K b).1 ∉ ([27, 31, 32] : List Nat) → f b = f b := fun _ _ => rfl
  have hl := lv_entry ([.ref o]) (n := 7) (Nat.le_of_ble_eq_true rfl)
  rw [lg_entry_eq]
  generalize (lg_sl ([.ref o]) ++ List.replicate (7 - (lg_sl ([.ref o])).length) Slot.unset).toArray = ls at hl ⊢
  have hl : lv_has ls 7 [(0, .ref o)] := hl
  obtain ⟨x_2, x_3, x_4, x_5, x_6, x_7, x_8, x_9, x_10, x_11, x_12, x_13, x_14, x_15, x_16, x_17, x_18, x_19, hf_1, hx_2, hx_3, hx_4, hx_5, hx_6, hx_7, hx_8, hx_9, hx_10, hx_12, hx_15⟩ := (show tp_o_VIEW L K (0) 0 (Γ (27, 0, 0)) (f o) from hI.at ho)
  have hgx := fun q : tv_gap (f o) => tv_gap.use q hf_1 rfl rfl
  refine lv_aload_n hx hb dX10_layKnots_0 rfl (lv_at hl 0 rfl) ?_
  refine lv_iconst (v := 0) hx hb dX10_layKnots_1 (by decide) ?_
  have hI9 : tp_I cy L K Γ (va_up f o (.inr (10, [.ref x_2, .ref x_3, .ref x_4, .ref x_5, .ref x_6, .ref x_7, .ref x_8, .ref x_9, .ref x_10, .int x_11, .int x_12, .int x_13, .int x_14, .int 0, .int x_16, .int x_17, .long x_18, .long x_19]))) := hI.set ho (show tp_o_VIEW L K (0) 0 (Γ (27, 0, 0)) _ from ⟨x_2, x_3, x_4, x_5, x_6, x_7, x_8, x_9, x_10, x_11, x_12, x_13, x_14, 0, x_16, x_17, x_18, x_19, rfl, hx_2, hx_3, hx_4, hx_5, hx_6, hx_7, hx_8, hx_9, hx_10, (show 0 ≤ x_12.toInt ∧ x_12.toInt ≤ 9999 from by omega), (show 0 ≤ (0 : Int) ∧ (0 : Int) ≤ 42 from by omega)⟩)
  have hfr9 : ∀ b, (K b).1 ∉ ([27, 31, 32] : List Nat) → va_up f o (.inr (10, [.ref x_2, .ref x_3, .ref x_4, .ref x_5, .ref x_6, .ref x_7, .ref x_8, .ref x_9, .ref x_10, .int x_11, .int x_12, .int x_13, .int x_14, .int 0, .int x_16, .int x_17, .long x_18, .long x_19])) b = f b := tp_fr hfr ho (by decide)
  refine tp_put (cy := cy) (ci := 10) (v := .int 0) (ty := tyX10 13) (C := RX10) (T := TX10) (N := 18) hx hb hta inlX10 tyX10 tyX10_ok nmX10 hown hK hP hD hS ho.1 hf_1 rfl 13 (by decide) (hta _ wk_860) (fun _ h9 => h9) rfl (tyX10_ok 13 (by decide)) rfl rfl (Nat.le_of_ble_eq_true rfl) dX10_layKnots_2 (fun H locs hP hD hS => ?_)
  have hP : va_P D vwCl (va_pl L (va_up f o (.inr (10, [.ref x_2, .ref x_3, .ref x_4, .ref x_5, .ref x_6, .ref x_7, .ref x_8, .ref x_9, .ref x_10, .int x_11, .int x_12, .int x_13, .int x_14, .int 0, .int x_16, .int x_17, .long x_18, .long x_19])))) H := hP
  generalize hfe : va_up f o (.inr (10, [.ref x_2, .ref x_3, .ref x_4, .ref x_5, .ref x_6, .ref x_7, .ref x_8, .ref x_9, .ref x_10, .int x_11, .int x_12, .int x_13, .int x_14, .int 0, .int x_16, .int x_17, .long x_18, .long x_19])) = f_20 at hP hI9 hfr9
  have hD : va_D A (va_pl L f_20) := tp_D hL hAL
  have hf_21 : f_20 o = .inr (10, [.ref x_2, .ref x_3, .ref x_4, .ref x_5, .ref x_6, .ref x_7, .ref x_8, .ref x_9, .ref x_10, .int x_11, .int x_12, .int x_13, .int x_14, .int 0, .int x_16, .int x_17, .long x_18, .long x_19]) := by rw [← hfe]; exact va_up_self _ _ _
  clear hfe
  have hI := hI9
  have hfr := hfr9
  clear hI9 hfr9
  refine lv_iconst (v := 1) hx hb dX10_layKnots_5 (by decide) ?_
  refine lv_aload_n hx hb dX10_layKnots_6 rfl (lv_at hl 0 rfl) ?_
  refine tp_get (cy := cy) (ci := 10) (v := .int x_11) (C := RX10) (T := TX10) (N := 18) hx hb hta inlX10 hown hK hP ho.1 hf_21 rfl 9 (by decide) (hta _ wk_846) (fun _ h9 => h9) rfl dX10_layKnots_7 ?_
  refine lv_iconst (v := 1) hx hb dX10_layKnots_10 (by decide) ?_
  refine lv_iadd hx hb dX10_layKnots_11 ?_
  refine lv_topi (fun z_22 ez_22 => ?_)
  try have iz_22 : z_22.toInt = x_11.toInt + (1 : Int) := by rw [ez_22]; exact tl_addN x_11 1 rfl rfl (by omega) (by omega)
  refine va_mmax hx hb (by rw [hml]; exact hl.1.symm) hown (hta _ wk_861) (hta _ wk_82) (hta _ wk_83) (hta _ wk_84) (Nat.le_of_ble_eq_true rfl) (Nat.le_of_ble_eq_true rfl) (Nat.le_of_ble_eq_true rfl) (Nat.le_of_ble_eq_true rfl) dX10_layKnots_12 ?_
  refine lv_topi (fun z_23 ez_23 => ?_)
  have iz_23 : (z_23.toInt = z_22.toInt ∧ (1 : Int) ≤ z_22.toInt) ∨ (z_23.toInt = (1 : Int) ∧ z_22.toInt ≤ (1 : Int)) := by rw [ez_23]; exact tl_maxF
  refine lv_istore_n (lv' := [(1, .int z_23), (0, .ref o)]) hx hb dX10_layKnots_15 rfl hl (by decide) rfl (fun ls hl => ?_)
  refine lv_iconst (v := 0) hx hb dX10_layKnots_16 (by decide) ?_
  refine lv_istore_n (lv' := [(2, .int 0), (1, .int z_23), (0, .ref o)]) hx hb dX10_layKnots_17 rfl hl (by decide) rfl (fun ls hl => ?_)
  refine tl_ind (G := fun H locs ls => W p l e ((headSpec (tl_w yX10_layKnots cX10_layKnots 7 none) ({ frames := 2, cells := 0, slots := 0, locals := 39 })).room) s m #[.ref o] below meth c H locs 0 0 (MQ below (va_Qv (fun (u : Nat → va_E) => tv_gap (f o) → tv_gap (u o)) (tp_B D cy L K Γ f [27, 31, 32]) A) #[.ref o] s 0 0 A) (F0 m 18 ls [])) (α := (Nat → va_E) × Int32) (fun aq => (42 - aq.2.toInt).toNat) (fun aq H locs ls => (0 ≤ aq.2.toInt) ∧ (aq.2.toInt ≤ 42) ∧ (tv_gap (f o) → tv_gap (aq.1 o)) ∧ (tv_kn (aq.1 o) aq.2.toInt) ∧ va_P D vwCl (va_pl L aq.1) H ∧ tp_I cy L K Γ aq.1 ∧ (∀ b, (K b).1 ∉ ([27, 31, 32] : List Nat) → aq.1 b = f b) ∧ va_S A s.heap H locs ∧ lv_has ls 7 [(2, .int aq.2), (1, .int z_23), (0, .ref o)]) ?_ (f_20, (0 : Int32)) H locs ls ⟨(show 0 ≤ (0 : Int) from (by omega)), (show (0 : Int) ≤ 42 from (by omega)), (show tv_gap (f o) → tv_gap (f_20 o) from (fun q => ⟨_, _, _, hf_21, rfl, rfl, hgx q⟩)), (show tv_kn (f_20 o) (0 : Int) from ⟨_, _, hf_21, rfl, by decide⟩), hP, hI, hfr, hS, lv_sub hl [0, 1, 2] rfl⟩
  rintro ⟨f_24, v2⟩ H locs ls ⟨h0, h1, hgp, hkn, hP, hI, hfr, hS, hl⟩ ih18
  have hP : va_P D vwCl (va_pl L f_24) H := hP
  have hI : tp_I cy L K Γ f_24 := hI
  have hfr : ∀ b, (K b).1 ∉ ([27, 31, 32] : List Nat) → f_24 b = f b := hfr
  have hD : va_D A (va_pl L f_24) := tp_D hL hAL
  have h0 : 0 ≤ v2.toInt := h0
  have h1 : v2.toInt ≤ 42 := h1
  have hgp : tv_gap (f o) → tv_gap (f_24 o) := hgp
  have hkn : tv_kn (f_24 o) v2.toInt := hkn
  have hl : lv_has ls 7 [(2, .int v2), (1, .int z_23), (0, .ref o)] := hl
  obtain ⟨x_26, x_27, x_28, x_29, x_30, x_31, x_32, x_33, x_34, x_35, x_36, x_37, x_38, x_39, x_40, x_41, x_42, x_43, hf_25, hx_26, hx_27, hx_28, hx_29, hx_30, hx_31, hx_32, hx_33, hx_34, hx_36, hx_39⟩ := (show tp_o_VIEW L K (0) 0 (Γ (27, 0, 0)) (f_24 o) from hI.at ho)
  have hgx := fun q : tv_gap (f o) => tv_gap.use (hgp q) hf_25 rfl rfl
  have hkx := tv_kn.use hkn hf_25 rfl
  refine lv_iload_n hx hb dX10_layKnots_18 rfl (lv_at hl 0 rfl) ?_
  refine lv_iload_n hx hb dX10_layKnots_19 rfl (lv_at hl 1 rfl) ?_
  refine lv_icmp_gt (tgt := 139) hx hb dX10_layKnots_20 (by decide) (fun c_44 => ?_) (fun c_44 => ?_)
  · have c_44 : z_23.toInt < v2.toInt := tl_lt c_44
    exact W.vret hx hb hr (fun t ht hW => ⟨⟨f_24, rfl, (fun q => ⟨_, _, _, hf_25, rfl, rfl, hgx q⟩), by rw [ht]; exact hP, hI, hfr⟩, hS.F ht⟩) hS.2.2 dX10_layKnots_139
  · have c_44 : v2.toInt ≤ z_23.toInt := tl_nlt c_44
    refine lv_iload_n hx hb dX10_layKnots_23 rfl (lv_at hl 0 rfl) ?_
    refine lv_aload_n hx hb dX10_layKnots_24 rfl (lv_at hl 2 rfl) ?_
    refine tp_get (cy := cy) (ci := 10) (v := .ref x_33) (C := RX10) (T := TX10) (N := 18) hx hb hta inlX10 hown hK hP ho.1 hf_25 rfl 7 (by decide) (hta _ wk_138) (fun _ h9 => h9) rfl dX10_layKnots_25 ?_
    obtain ⟨g_46, hf_45, hg_47⟩ := (show tp_ai cy 31 (42) (f_24 x_33) from hI.at hx_33)
    refine tp_alen (cy := cy) (t0 := 0) (v := 42) hx hb hK hP hx_33.1 rfl hf_45 rfl dX10_layKnots_28 ?_
    refine lv_icmp_ge (tgt := 139) hx hb dX10_layKnots_29 (by decide) (fun c_48 => ?_) (fun c_48 => ?_)
    · have c_48 : (42 : Int) ≤ v2.toInt := tl_le c_48
      exact W.vret hx hb hr (fun t ht hW => ⟨⟨f_24, rfl, (fun q => ⟨_, _, _, hf_25, rfl, rfl, hgx q⟩), by rw [ht]; exact hP, hI, hfr⟩, hS.F ht⟩) hS.2.2 dX10_layKnots_139
    · have c_48 : v2.toInt < (42 : Int) := tl_nle c_48
      refine lv_sipush (v := 299) hx hb dX10_layKnots_32 (by decide) ?_
      refine lv_iload_n hx hb dX10_layKnots_35 rfl (lv_at hl 0 rfl) ?_
      refine lv_imul hx hb dX10_layKnots_36 ?_
      refine lv_topi (fun z_49 ez_49 => ?_)
      try have iz_49 : z_49.toInt = (299 : Int) * v2.toInt := by rw [ez_49]; exact tl_mulN 299 v2 rfl rfl (by omega) (by omega)
      refine lv_iload_n hx hb dX10_layKnots_37 rfl (lv_at hl 1 rfl) ?_
      refine lv_idiv hx hb dX10_layKnots_38 (tl_ne0 (by omega)) ?_
      refine lv_topi (fun z_50 ez_50 => ?_)
      have iz_50 := tl_idivB (B := 299) ez_50 (by omega) (by omega) (by omega)
      refine lv_istore_n (lv' := [(3, .int z_50), (2, .int v2), (1, .int z_23), (0, .ref o)]) hx hb dX10_layKnots_39 rfl hl (by decide) rfl (fun ls hl => ?_)
      refine lv_iconst (v := 0) hx hb dX10_layKnots_40 (by decide) ?_
      refine lv_iload_n hx hb dX10_layKnots_41 rfl (lv_at hl 0 rfl) ?_
      refine lv_aload_n hx hb dX10_layKnots_42 rfl (lv_at hl 3 rfl) ?_
      refine tp_get (cy := cy) (ci := 10) (v := .int x_36) (C := RX10) (T := TX10) (N := 18) hx hb hta inlX10 hown hK hP ho.1 hf_25 rfl 10 (by decide) (hta _ wk_847) (fun _ h9 => h9) rfl dX10_layKnots_43 ?_
      refine lv_isub hx hb dX10_layKnots_46 ?_
      refine lv_topi (fun z_51 ez_51 => ?_)
      try have iz_51 : z_51.toInt = z_50.toInt - x_36.toInt := by rw [ez_51]; exact tl_subN z_50 x_36 rfl rfl (by omega) (by omega)
      refine va_mmax hx hb (by rw [hml]; exact hl.1.symm) hown (hta _ wk_861) (hta _ wk_82) (hta _ wk_83) (hta _ wk_84) (Nat.le_of_ble_eq_true rfl) (Nat.le_of_ble_eq_true rfl) (Nat.le_of_ble_eq_true rfl) (Nat.le_of_ble_eq_true rfl) dX10_layKnots_47 ?_
      refine lv_topi (fun z_52 ez_52 => ?_)
      have iz_52 : (z_52.toInt = z_51.toInt ∧ (0 : Int) ≤ z_51.toInt) ∨ (z_52.toInt = (0 : Int) ∧ z_51.toInt ≤ (0 : Int)) := by rw [ez_52]; exact tl_maxF
      refine lv_istore (lv' := [(4, .int z_52), (3, .int z_50), (2, .int v2), (1, .int z_23), (0, .ref o)]) hx hb dX10_layKnots_50 hl (by decide) rfl (fun ls hl => ?_)
      refine lv_sipush (v := 300) hx hb dX10_layKnots_52 (by decide) ?_
      refine lv_iload_n hx hb dX10_layKnots_55 rfl (lv_at hl 1 rfl) ?_
      refine lv_aload_n hx hb dX10_layKnots_56 rfl (lv_at hl 4 rfl) ?_
      refine tp_get (cy := cy) (ci := 10) (v := .int x_36) (C := RX10) (T := TX10) (N := 18) hx hb hta inlX10 hown hK hP ho.1 hf_25 rfl 10 (by decide) (hta _ wk_847) (fun _ h9 => h9) rfl dX10_layKnots_57 ?_
      refine lv_iadd hx hb dX10_layKnots_60 ?_
      refine lv_topi (fun z_53 ez_53 => ?_)
      try have iz_53 : z_53.toInt = z_50.toInt + x_36.toInt := by rw [ez_53]; exact tl_addN z_50 x_36 rfl rfl (by omega) (by omega)
      refine lv_iconst (v := 1) hx hb dX10_layKnots_61 (by decide) ?_
      refine lv_iadd hx hb dX10_layKnots_62 ?_
      refine lv_topi (fun z_54 ez_54 => ?_)
      try have iz_54 : z_54.toInt = z_53.toInt + (1 : Int) := by rw [ez_54]; exact tl_addN z_53 1 rfl rfl (by omega) (by omega)
      refine va_mmin hx hb (by rw [hml]; exact hl.1.symm) hown (hta _ wk_862) (hta _ wk_770) (hta _ wk_83) (hta _ wk_771) (Nat.le_of_ble_eq_true rfl) (Nat.le_of_ble_eq_true rfl) (Nat.le_of_ble_eq_true rfl) (Nat.le_of_ble_eq_true rfl) dX10_layKnots_63 ?_
      refine lv_topi (fun z_55 ez_55 => ?_)
      have iz_55 : (z_55.toInt = z_54.toInt ∧ z_54.toInt ≤ (300 : Int)) ∨ (z_55.toInt = (300 : Int) ∧ (300 : Int) ≤ z_54.toInt) := by rw [ez_55]; exact tl_minF
      refine lv_istore (lv' := [(5, .int z_55), (4, .int z_52), (3, .int z_50), (2, .int v2), (1, .int z_23), (0, .ref o)]) hx hb dX10_layKnots_66 hl (by decide) rfl (fun ls hl => ?_)
      refine lv_aload_n hx hb dX10_layKnots_68 rfl (lv_at hl 5 rfl) ?_
      refine lv_aload_n hx hb dX10_layKnots_69 rfl (lv_at hl 5 rfl) ?_
      refine tp_get (cy := cy) (ci := 10) (v := .ref x_31) (C := RX10) (T := TX10) (N := 18) hx hb hta inlX10 hown hK hP ho.1 hf_25 rfl 5 (by decide) (hta _ wk_136) (fun _ h9 => h9) rfl dX10_layKnots_70 ?_
      refine lv_iload hx hb dX10_layKnots_73 (lv_at hl 1 rfl) ?_
      refine lv_iload hx hb dX10_layKnots_75 (lv_at hl 0 rfl) ?_
      refine tl_si (tq_rV (As := [.ref x_31, .int z_52, .int z_55]) (rest := []) ⟨hx, hb, hml, hown, hta⟩ (tp_P.pre hK hN hL hU hI hP) (tp_recv hK hP ho.1 hf_25 rfl) lk_X10_111 (t_X10_besideGap l D cy H.size L K Γ f_24 o x_31 z_52 z_55 ho hx_31 (by first | omega | (simp only [Int32.toInt_toInt64]; omega) | decide | assumption) (by first | omega | (simp only [Int32.toInt_toInt64]; omega) | decide | assumption)) rfl rfl ⟨Nat.le_of_ble_eq_true rfl, Nat.le_of_ble_eq_true rfl⟩ rfl hl.1 rfl (Nat.le_of_ble_eq_true rfl) dX10_layKnots_77 ⟨Nat.le_of_ble_eq_true rfl, Nat.le_of_ble_eq_true rfl⟩) (fun r_57 hw_56 => ?_)
      refine lv_istore (lv' := [(6, .int r_57), (5, .int z_55), (4, .int z_52), (3, .int z_50), (2, .int v2), (1, .int z_23), (0, .ref o)]) hx hb dX10_layKnots_80 hl (by decide) rfl (fun ls hl => ?_)
      refine lv_iload hx hb dX10_layKnots_82 (lv_at hl 0 rfl) ?_
      refine lv_if_le (tgt := 133) hx hb dX10_layKnots_84 (by decide) (fun c_58 => ?_) (fun c_58 => ?_)
      · have c_58 : r_57.toInt ≤ (0 : Int) := tl_le c_58
        obtain ⟨z_59, ez_59⟩ : ∃ y : Int32, y = v2 + 1 := ⟨_, rfl⟩
        refine lv_iinc (v := z_59) (lv' := [(2, .int z_59), (6, .int r_57), (5, .int z_55), (4, .int z_52), (3, .int z_50), (1, .int z_23), (0, .ref o)]) hx hb dX10_layKnots_133 hl (k := 4) rfl (by rw [ez_59]; rfl) (by decide) rfl (fun ls hl => ?_)
        try have iz_59 : z_59.toInt = v2.toInt + 1 := by rw [ez_59]; exact tl_addL v2 1 (by decide) (by omega) (by omega)
        refine lv_goto (tgt := 18) hx hb dX10_layKnots_136 (by decide) ?_
        exact ih18 (f_24, z_59) H locs ls (by show (42 - z_59.toInt).toNat < (42 - v2.toInt).toNat; omega) ⟨(show 0 ≤ z_59.toInt from (by omega)), (show z_59.toInt ≤ 42 from (by omega)), (show tv_gap (f o) → tv_gap (f_24 o) from (fun q => ⟨_, _, _, hf_25, rfl, rfl, hgx q⟩)), (show tv_kn (f_24 o) z_59.toInt from ⟨_, _, hf_25, rfl, by omega⟩), hP, hI, hfr, hS, lv_sub hl [0, 5, 6] rfl⟩
      · have c_58 : (0 : Int) < r_57.toInt := tl_nle c_58
        refine lv_aload_n hx hb dX10_layKnots_87 rfl (lv_at hl 6 rfl) ?_
        refine tp_get (cy := cy) (ci := 10) (v := .ref x_33) (C := RX10) (T := TX10) (N := 18) hx hb hta inlX10 hown hK hP ho.1 hf_25 rfl 7 (by decide) (hta _ wk_138) (fun _ h9 => h9) rfl dX10_layKnots_88 ?_
        refine lv_aload_n hx hb dX10_layKnots_91 rfl (lv_at hl 6 rfl) ?_
        refine tp_get (cy := cy) (ci := 10) (v := .int x_39) (C := RX10) (T := TX10) (N := 18) hx hb hta inlX10 hown hK hP ho.1 hf_25 rfl 13 (by decide) (hta _ wk_860) (fun _ h9 => h9) rfl dX10_layKnots_92 ?_
        refine lv_iload_n hx hb dX10_layKnots_95 rfl (lv_at hl 3 rfl) ?_
        have hn_60 : vp_in x_39 (42) := tl_in (by omega) (by omega)
        have hI9 : tp_I cy L K Γ (va_up f_24 x_33 (.inl (cy 0, 42, .inl (upd g_46 x_39.toNatClampNeg z_50)))) := hI.set hx_33 (show tp_ai cy 31 (42) _ from ⟨_, rfl, tp_pi_upd hg_47 (show 0 ≤ _ ∧ _ ≤ 299 from by omega)⟩)
        have hfr9 : ∀ b, (K b).1 ∉ ([27, 31, 32] : List Nat) → va_up f_24 x_33 (.inl (cy 0, 42, .inl (upd g_46 x_39.toNatClampNeg z_50))) b = f b := tp_fr hfr hx_33 (by decide)
        refine tp_iast (cy := cy) hx hb hK hP hD hS hx_33.1 hf_45 hn_60 dX10_layKnots_96 (fun H locs hP hD hS => ?_)
        have hP : va_P D vwCl (va_pl L (va_up f_24 x_33 (.inl (cy 0, 42, .inl (upd g_46 x_39.toNatClampNeg z_50))))) H := hP
        generalize hfe : va_up f_24 x_33 (.inl (cy 0, 42, .inl (upd g_46 x_39.toNatClampNeg z_50))) = f_61 at hP hI9 hfr9
        have hD : va_D A (va_pl L f_61) := tp_D hL hAL
        have hf_62 := (show f_61 o = _ from by rw [← hfe, va_up_ne _ _ (tp_ne ho hx_33 (by decide))]).trans hf_25
        have hf_63 : f_61 x_33 = .inl (cy 0, 42, .inl (upd g_46 x_39.toNatClampNeg z_50)) := by rw [← hfe]; exact va_up_self _ _ _
        clear hfe
        have hI := hI9
        have hfr := hfr9
        clear hI9 hfr9
        refine lv_aload_n hx hb dX10_layKnots_97 rfl (lv_at hl 6 rfl) ?_
        refine tp_get (cy := cy) (ci := 10) (v := .ref x_34) (C := RX10) (T := TX10) (N := 18) hx hb hta inlX10 hown hK hP ho.1 hf_62 rfl 8 (by decide) (hta _ wk_139) (fun _ h9 => h9) rfl dX10_layKnots_98 ?_
        refine lv_aload_n hx hb dX10_layKnots_101 rfl (lv_at hl 6 rfl) ?_
        refine tp_get (cy := cy) (ci := 10) (v := .int x_39) (C := RX10) (T := TX10) (N := 18) hx hb hta inlX10 hown hK hP ho.1 hf_62 rfl 13 (by decide) (hta _ wk_860) (fun _ h9 => h9) rfl dX10_layKnots_102 ?_
        refine lv_aload_n hx hb dX10_layKnots_105 rfl (lv_at hl 6 rfl) ?_
        refine lv_aload_n hx hb dX10_layKnots_106 rfl (lv_at hl 6 rfl) ?_
        refine tp_get (cy := cy) (ci := 10) (v := .ref x_32) (C := RX10) (T := TX10) (N := 18) hx hb hta inlX10 hown hK hP ho.1 hf_62 rfl 6 (by decide) (hta _ wk_137) (fun _ h9 => h9) rfl dX10_layKnots_107 ?_
        refine lv_iload hx hb dX10_layKnots_110 (lv_at hl 2 rfl) ?_
        refine lv_iload hx hb dX10_layKnots_112 (lv_at hl 1 rfl) ?_
        refine tl_si (tq_rV (As := [.ref x_32, .int z_52, .int z_55]) (rest := [.int x_39, .ref x_34]) ⟨hx, hb, hml, hown, hta⟩ (tp_P.pre hK hN hL hU hI hP) (tp_recv hK hP ho.1 hf_62 rfl) lk_X10_111 (t_X10_besideGap l D cy H.size L K Γ f_61 o x_32 z_52 z_55 ho hx_32 (by first | omega | (simp only [Int32.toInt_toInt64]; omega) | decide | assumption) (by first | omega | (simp only [Int32.toInt_toInt64]; omega) | decide | assumption)) rfl rfl ⟨Nat.le_of_ble_eq_true rfl, Nat.le_of_ble_eq_true rfl⟩ rfl hl.1 rfl (Nat.le_of_ble_eq_true rfl) dX10_layKnots_114 ⟨Nat.le_of_ble_eq_true rfl, Nat.le_of_ble_eq_true rfl⟩) (fun r_65 hw_64 => ?_)
        refine lv_iload hx hb dX10_layKnots_117 (lv_at hl 0 rfl) ?_
        refine tl_si (tq_rS (As := [.int r_65, .int r_57]) (rest := [.int x_39, .ref x_34]) ⟨hx, hb, hml, hown, hta⟩ (tp_P.pre hK hN hL hU hI hP) lk_X10_115 (t_J9_floorDiv_7cf53 l D cy H.size L K Γ f_61 r_65 r_57 (by first | omega | (simp only [Int32.toInt_toInt64]; omega) | decide | assumption)) rfl rfl ⟨Nat.le_of_ble_eq_true rfl, Nat.le_of_ble_eq_true rfl⟩ rfl hl.1 rfl (Nat.le_of_ble_eq_true rfl) dX10_layKnots_119 ⟨Nat.le_of_ble_eq_true rfl, Nat.le_of_ble_eq_true rfl⟩) (fun r_67 hw_66 => ?_)
        obtain ⟨g_69, hf_68, hg_70⟩ := (show tp_ai cy 32 (42) (f_61 x_34) from hI.at hx_34)
        have hn_71 : vp_in x_39 (42) := tl_in (by omega) (by omega)
        have hI9 : tp_I cy L K Γ (va_up f_61 x_34 (.inl (cy 0, 42, .inl (upd g_69 x_39.toNatClampNeg r_67)))) := hI.set hx_34 (show tp_ai cy 32 (42) _ from ⟨_, rfl, tp_pi_upd hg_70 trivial⟩)
        have hfr9 : ∀ b, (K b).1 ∉ ([27, 31, 32] : List Nat) → va_up f_61 x_34 (.inl (cy 0, 42, .inl (upd g_69 x_39.toNatClampNeg r_67))) b = f b := tp_fr hfr hx_34 (by decide)
        refine tp_iast (cy := cy) hx hb hK hP hD hS hx_34.1 hf_68 hn_71 dX10_layKnots_122 (fun H locs hP hD hS => ?_)
        have hP : va_P D vwCl (va_pl L (va_up f_61 x_34 (.inl (cy 0, 42, .inl (upd g_69 x_39.toNatClampNeg r_67))))) H := hP
        generalize hfe : va_up f_61 x_34 (.inl (cy 0, 42, .inl (upd g_69 x_39.toNatClampNeg r_67))) = f_72 at hP hI9 hfr9
        have hD : va_D A (va_pl L f_72) := tp_D hL hAL
        have hf_73 := (show f_72 o = _ from by rw [← hfe, va_up_ne _ _ (tp_ne ho hx_34 (by decide))]).trans hf_62
        have hf_74 : f_72 x_34 = .inl (cy 0, 42, .inl (upd g_69 x_39.toNatClampNeg r_67)) := by rw [← hfe]; exact va_up_self _ _ _
        clear hfe
        have hI := hI9
        have hfr := hfr9
        clear hI9 hfr9
        refine lv_aload_n hx hb dX10_layKnots_123 rfl (lv_at hl 6 rfl) ?_
        refine lv_dup hx hb dX10_layKnots_124 rfl ?_
        refine tp_get (cy := cy) (ci := 10) (v := .int x_39) (C := RX10) (T := TX10) (N := 18) hx hb hta inlX10 hown hK hP ho.1 hf_73 rfl 13 (by decide) (hta _ wk_860) (fun _ h9 => h9) rfl dX10_layKnots_125 ?_
        refine lv_iconst (v := 1) hx hb dX10_layKnots_128 (by decide) ?_
        refine lv_iadd hx hb dX10_layKnots_129 ?_
        refine lv_topi (fun z_75 ez_75 => ?_)
        try have iz_75 : z_75.toInt = x_39.toInt + (1 : Int) := by rw [ez_75]; exact tl_addN x_39 1 rfl rfl (by omega) (by omega)
        have hI9 : tp_I cy L K Γ (va_up f_72 o (.inr (10, [.ref x_26, .ref x_27, .ref x_28, .ref x_29, .ref x_30, .ref x_31, .ref x_32, .ref x_33, .ref x_34, .int x_35, .int x_36, .int x_37, .int x_38, .int z_75, .int x_40, .int x_41, .long x_42, .long x_43]))) := hI.set ho (show tp_o_VIEW L K (0) 0 (Γ (27, 0, 0)) _ from ⟨x_26, x_27, x_28, x_29, x_30, x_31, x_32, x_33, x_34, x_35, x_36, x_37, x_38, z_75, x_40, x_41, x_42, x_43, rfl, hx_26, hx_27, hx_28, hx_29, hx_30, hx_31, hx_32, hx_33, hx_34, (show 0 ≤ x_36.toInt ∧ x_36.toInt ≤ 9999 from by omega), (show 0 ≤ z_75.toInt ∧ z_75.toInt ≤ 42 from by omega)⟩)
        have hfr9 : ∀ b, (K b).1 ∉ ([27, 31, 32] : List Nat) → va_up f_72 o (.inr (10, [.ref x_26, .ref x_27, .ref x_28, .ref x_29, .ref x_30, .ref x_31, .ref x_32, .ref x_33, .ref x_34, .int x_35, .int x_36, .int x_37, .int x_38, .int z_75, .int x_40, .int x_41, .long x_42, .long x_43])) b = f b := tp_fr hfr ho (by decide)
        refine tp_put (cy := cy) (ci := 10) (v := .int z_75) (ty := tyX10 13) (C := RX10) (T := TX10) (N := 18) hx hb hta inlX10 tyX10 tyX10_ok nmX10 hown hK hP hD hS ho.1 hf_73 rfl 13 (by decide) (hta _ wk_860) (fun _ h9 => h9) rfl (tyX10_ok 13 (by decide)) rfl rfl (Nat.le_of_ble_eq_true rfl) dX10_layKnots_130 (fun H locs hP hD hS => ?_)
        have hP : va_P D vwCl (va_pl L (va_up f_72 o (.inr (10, [.ref x_26, .ref x_27, .ref x_28, .ref x_29, .ref x_30, .ref x_31, .ref x_32, .ref x_33, .ref x_34, .int x_35, .int x_36, .int x_37, .int x_38, .int z_75, .int x_40, .int x_41, .long x_42, .long x_43])))) H := hP
        generalize hfe : va_up f_72 o (.inr (10, [.ref x_26, .ref x_27, .ref x_28, .ref x_29, .ref x_30, .ref x_31, .ref x_32, .ref x_33, .ref x_34, .int x_35, .int x_36, .int x_37, .int x_38, .int z_75, .int x_40, .int x_41, .long x_42, .long x_43])) = f_76 at hP hI9 hfr9
        have hD : va_D A (va_pl L f_76) := tp_D hL hAL
        have hf_77 : f_76 o = .inr (10, [.ref x_26, .ref x_27, .ref x_28, .ref x_29, .ref x_30, .ref x_31, .ref x_32, .ref x_33, .ref x_34, .int x_35, .int x_36, .int x_37, .int x_38, .int z_75, .int x_40, .int x_41, .long x_42, .long x_43]) := by rw [← hfe]; exact va_up_self _ _ _
        clear hfe
        have hI := hI9
        have hfr := hfr9
        clear hI9 hfr9
        obtain ⟨z_78, ez_78⟩ : ∃ y : Int32, y = v2 + 1 := ⟨_, rfl⟩
        refine lv_iinc (v := z_78) (lv' := [(2, .int z_78), (6, .int r_57), (5, .int z_55), (4, .int z_52), (3, .int z_50), (1, .int z_23), (0, .ref o)]) hx hb dX10_layKnots_133 hl (k := 4) rfl (by rw [ez_78]; rfl) (by decide) rfl (fun ls hl => ?_)
        try have iz_78 : z_78.toInt = v2.toInt + 1 := by rw [ez_78]; exact tl_addL v2 1 (by decide) (by omega) (by omega)
        refine lv_goto (tgt := 18) hx hb dX10_layKnots_136 (by decide) ?_
        exact ih18 (f_76, z_78) H locs ls (by show (42 - z_78.toInt).toNat < (42 - v2.toInt).toNat; omega) ⟨(show 0 ≤ z_78.toInt from (by omega)), (show z_78.toInt ≤ 42 from (by omega)), (show tv_gap (f o) → tv_gap (f_76 o) from (fun q => ⟨_, _, _, hf_77, rfl, rfl, hgx q⟩)), (show tv_kn (f_76 o) z_78.toInt from ⟨_, _, hf_77, rfl, by omega⟩), hP, hI, hfr, hS, lv_sub hl [0, 5, 6] rfl⟩
set_option maxHeartbeats 4000000 in
set_option maxRecDepth 100000 in
theorem t_X10_layHeights (l : Launch) (D : va_G) (cy : Nat → ClassId) (sz : Nat) (L : List Nat) (K : Nat → tk_K) (Γ : tk_G) (f : Nat → va_E) (o : Nat) (ho : tp_r L K 27 (0) 0 o) : Met l yX10_layHeights (tl_w yX10_layHeights cX10_layHeights 2 none) ({ frames := 2, cells := 0, slots := 0, locals := 48 }) (va_Pc [.ref o] (tp_P D cy L K Γ f sz)) (va_Qv (fun (u : Nat → va_E) => True) (tp_B D cy L K Γ f [29]) (tp_A L sz)) 0 0 (tp_A L sz) := by
  refine Met.ofW (cc := cX10_layHeights) (maxL := 2) (ret := none) (by decide) rfl ?_
  intro p e s m args below meth c s₁ B hml hv
  obtain ⟨rfl, hsz, hP, hK, hL, hI, hN, hU⟩ := hv
  have hx := B.exec
  have hb := B.bytes
  have hr := B.returns
  have hta := tl_hta (atoms_spec (ws := tl_w yX10_layHeights cX10_layHeights 2 none) B.pre)
  have hown : s.vm.findClass RX10 = some m.cls := findClass_of_methodNamed B.named
  have hlocks := B.notSynchronized
  subst hsz
  have hI0 := hI
  generalize hAe : tp_A L s.heap.size = A
  have hA : ∀ q : Nat, s.heap.size ≤ q → A q := fun q h => by rw [← hAe]; exact Or.inr h
  have hAL : ∀ q ∈ L, A q := fun q h => by rw [← hAe]; exact Or.inl h
  have hAf : ∀ (H : Heap), s.heap.size ≤ H.size → ∀ q, tp_A L H.size q → A q := fun H h q hq => hq.elim (hAL q) (fun h2 => hA q (Nat.le_trans h h2))
  have hS : va_S A s.heap s.heap [] := va_S.rf
  have hD : va_D A (va_pl L f) := tp_D hL hAL
  have hfr : ∀ b, (K b).1 ∉ ([29] : List Nat) → f b = f b := fun _ _ => rfl
  have hl := lv_entry ([.ref o]) (n := 2) (Nat.le_of_ble_eq_true rfl)
  rw [lg_entry_eq]
  generalize (lg_sl ([.ref o]) ++ List.replicate (2 - (lg_sl ([.ref o])).length) Slot.unset).toArray = ls at hl ⊢
  have hl : lv_has ls 2 [(0, .ref o)] := hl
  refine lv_aload_n hx hb dX10_layHeights_0 rfl (lv_at hl 0 rfl) ?_
  obtain ⟨x_2, x_3, x_4, x_5, x_6, x_7, x_8, x_9, x_10, x_11, x_12, x_13, x_14, x_15, x_16, x_17, x_18, x_19, hf_1, hx_2, hx_3, hx_4, hx_5, hx_6, hx_7, hx_8, hx_9, hx_10, hx_12, hx_15⟩ := (show tp_o_VIEW L K (0) 0 (Γ (27, 0, 0)) (f o) from hI0.at ho)
  refine tp_get (cy := cy) (ci := 10) (v := .int x_15) (C := RX10) (T := TX10) (N := 18) hx hb hta inlX10 hown hK hP ho.1 hf_1 rfl 13 (by decide) (hta _ wk_860) (fun _ h9 => h9) rfl dX10_layHeights_1 ?_
  refine lv_if_ne (tgt := 8) hx hb dX10_layHeights_4 (by decide) (fun c_20 => ?_) (fun c_20 => ?_)
  · have c_20 : ¬ x_15.toInt = (0 : Int) := tl_neq c_20
    refine lv_iconst (v := 0) hx hb dX10_layHeights_8 (by decide) ?_
    refine lv_istore_n (lv' := [(1, .int 0), (0, .ref o)]) hx hb dX10_layHeights_9 rfl hl (by decide) rfl (fun ls hl => ?_)
    refine tq_start hP hS (fun H locs hP hS => ?_)
    refine tl_ind (G := fun H locs ls => W p l e ((headSpec (tl_w yX10_layHeights cX10_layHeights 2 none) ({ frames := 2, cells := 0, slots := 0, locals := 48 })).room) s m #[.ref o] below meth c H locs 0 0 (MQ below (va_Qv (fun (u : Nat → va_E) => True) (tp_B D cy L K Γ f [29]) A) #[.ref o] s 0 0 A) (F0 m 10 ls [])) (α := (Nat → va_E) × Int32) (fun aq => (300 - aq.2.toInt).toNat) (fun aq H locs ls => (0 ≤ aq.2.toInt) ∧ (aq.2.toInt ≤ 300) ∧ va_P D vwCl (va_pl L aq.1) H ∧ tp_I cy L K Γ aq.1 ∧ (∀ b, (K b).1 ∉ ([29] : List Nat) → aq.1 b = f b) ∧ va_S A s.heap H locs ∧ lv_has ls 2 [(1, .int aq.2), (0, .ref o)]) ?_ (f, (0 : Int32)) H locs ls ⟨(show 0 ≤ (0 : Int) from (by omega)), (show (0 : Int) ≤ 300 from (by omega)), hP, hI, hfr, hS, lv_sub hl [0, 1] rfl⟩
    rintro ⟨f_21, v1⟩ H locs ls ⟨h0, h1, hP, hI, hfr, hS, hl⟩ ih10
    have hP : va_P D vwCl (va_pl L f_21) H := hP
    have hI : tp_I cy L K Γ f_21 := hI
    have hfr : ∀ b, (K b).1 ∉ ([29] : List Nat) → f_21 b = f b := hfr
    have hD : va_D A (va_pl L f_21) := tp_D hL hAL
    have h0 : 0 ≤ v1.toInt := h0
    have h1 : v1.toInt ≤ 300 := h1
    have hl : lv_has ls 2 [(1, .int v1), (0, .ref o)] := hl
    refine lv_iload_n hx hb dX10_layHeights_10 rfl (lv_at hl 0 rfl) ?_
    refine lv_aload_n hx hb dX10_layHeights_11 rfl (lv_at hl 1 rfl) ?_
    refine tp_get (cy := cy) (ci := 10) (v := .ref x_9) (C := RX10) (T := TX10) (N := 18) hx hb hta inlX10 hown hK hP ho.1 ((tp_un hfr ho (by decide)).trans hf_1) rfl 7 (by decide) (hta _ wk_138) (fun _ h9 => h9) rfl dX10_layHeights_12 ?_
    refine lv_iconst (v := 0) hx hb dX10_layHeights_15 (by decide) ?_
    obtain ⟨g_23, hf_22, hg_24⟩ := (show tp_ai cy 31 (42) (f x_9) from hI0.at hx_9)
    have hn_25 : vp_in 0 (42) := tl_in (by decide) (by decide)
    refine tp_iald (cy := cy) hx hb hK hP hx_9.1 ((tp_un hfr hx_9 (by decide)).trans hf_22) hn_25 dX10_layHeights_16 ?_
    refine lv_topi (fun z_26 ez_26 => ?_)
    have iz_26 : 0 ≤ z_26.toInt ∧ z_26.toInt ≤ 299 := by rw [ez_26]; exact hg_24 _ (tp_pin hn_25)
    refine lv_icmp_ge (tgt := 38) hx hb dX10_layHeights_17 (by decide) (fun c_27 => ?_) (fun c_27 => ?_)
    · have c_27 : z_26.toInt ≤ v1.toInt := tl_le c_27
      refine lv_iconst (v := 0) hx hb dX10_layHeights_38 (by decide) ?_
      refine lv_istore_n (lv' := [(1, .int 0), (0, .ref o)]) hx hb dX10_layHeights_39 rfl hl (by decide) rfl (fun ls hl => ?_)
      refine tl_ind (G := fun H locs ls => W p l e ((headSpec (tl_w yX10_layHeights cX10_layHeights 2 none) ({ frames := 2, cells := 0, slots := 0, locals := 48 })).room) s m #[.ref o] below meth c H locs 0 0 (MQ below (va_Qv (fun (u : Nat → va_E) => True) (tp_B D cy L K Γ f [29]) A) #[.ref o] s 0 0 A) (F0 m 40 ls [])) (α := (Nat → va_E) × Int32) (fun aq => (42 - aq.2.toInt).toNat) (fun aq H locs ls => (0 ≤ aq.2.toInt) ∧ (aq.2.toInt ≤ 42) ∧ va_P D vwCl (va_pl L aq.1) H ∧ tp_I cy L K Γ aq.1 ∧ (∀ b, (K b).1 ∉ ([29] : List Nat) → aq.1 b = f b) ∧ va_S A s.heap H locs ∧ lv_has ls 2 [(1, .int aq.2), (0, .ref o)]) ?_ (f_21, (0 : Int32)) H locs ls ⟨(show 0 ≤ (0 : Int) from (by omega)), (show (0 : Int) ≤ 42 from (by omega)), hP, hI, hfr, hS, lv_sub hl [0, 1] rfl⟩
      rintro ⟨f_28, v1⟩ H locs ls ⟨h0, h1, hP, hI, hfr, hS, hl⟩ ih40
      have hP : va_P D vwCl (va_pl L f_28) H := hP
      have hI : tp_I cy L K Γ f_28 := hI
      have hfr : ∀ b, (K b).1 ∉ ([29] : List Nat) → f_28 b = f b := hfr
      have hD : va_D A (va_pl L f_28) := tp_D hL hAL
      have h0 : 0 ≤ v1.toInt := h0
      have h1 : v1.toInt ≤ 42 := h1
      have hl : lv_has ls 2 [(1, .int v1), (0, .ref o)] := hl
      refine lv_iload_n hx hb dX10_layHeights_40 rfl (lv_at hl 0 rfl) ?_
      refine lv_iconst (v := 1) hx hb dX10_layHeights_41 (by decide) ?_
      refine lv_iadd hx hb dX10_layHeights_42 ?_
      refine lv_topi (fun z_29 ez_29 => ?_)
      try have iz_29 : z_29.toInt = v1.toInt + (1 : Int) := by rw [ez_29]; exact tl_addN v1 1 rfl rfl (by omega) (by omega)
      refine lv_aload_n hx hb dX10_layHeights_43 rfl (lv_at hl 1 rfl) ?_
      refine tp_get (cy := cy) (ci := 10) (v := .int x_15) (C := RX10) (T := TX10) (N := 18) hx hb hta inlX10 hown hK hP ho.1 ((tp_un hfr ho (by decide)).trans hf_1) rfl 13 (by decide) (hta _ wk_860) (fun _ h9 => h9) rfl dX10_layHeights_44 ?_
      refine lv_icmp_ge (tgt := 75) hx hb dX10_layHeights_47 (by decide) (fun c_30 => ?_) (fun c_30 => ?_)
      · have c_30 : x_15.toInt ≤ z_29.toInt := tl_le c_30
        refine lv_aload_n hx hb dX10_layHeights_75 rfl (lv_at hl 1 rfl) ?_
        refine tp_get (cy := cy) (ci := 10) (v := .ref x_9) (C := RX10) (T := TX10) (N := 18) hx hb hta inlX10 hown hK hP ho.1 ((tp_un hfr ho (by decide)).trans hf_1) rfl 7 (by decide) (hta _ wk_138) (fun _ h9 => h9) rfl dX10_layHeights_76 ?_
        refine lv_aload_n hx hb dX10_layHeights_79 rfl (lv_at hl 1 rfl) ?_
        refine tp_get (cy := cy) (ci := 10) (v := .int x_15) (C := RX10) (T := TX10) (N := 18) hx hb hta inlX10 hown hK hP ho.1 ((tp_un hfr ho (by decide)).trans hf_1) rfl 13 (by decide) (hta _ wk_860) (fun _ h9 => h9) rfl dX10_layHeights_80 ?_
        refine lv_iconst (v := 1) hx hb dX10_layHeights_83 (by decide) ?_
        refine lv_isub hx hb dX10_layHeights_84 ?_
        refine lv_topi (fun z_31 ez_31 => ?_)
        try have iz_31 : z_31.toInt = x_15.toInt - (1 : Int) := by rw [ez_31]; exact tl_subN x_15 1 rfl rfl (by omega) (by omega)
        have hn_32 : vp_in z_31 (42) := tl_in (by omega) (by omega)
        refine tp_iald (cy := cy) hx hb hK hP hx_9.1 ((tp_un hfr hx_9 (by decide)).trans hf_22) hn_32 dX10_layHeights_85 ?_
        refine lv_topi (fun z_33 ez_33 => ?_)
        have iz_33 : 0 ≤ z_33.toInt ∧ z_33.toInt ≤ 299 := by rw [ez_33]; exact hg_24 _ (tp_pin hn_32)
        refine lv_istore_n (lv' := [(1, .int z_33), (0, .ref o)]) hx hb dX10_layHeights_86 rfl hl (by decide) rfl (fun ls hl => ?_)
        refine tl_ind (G := fun H locs ls => W p l e ((headSpec (tl_w yX10_layHeights cX10_layHeights 2 none) ({ frames := 2, cells := 0, slots := 0, locals := 48 })).room) s m #[.ref o] below meth c H locs 0 0 (MQ below (va_Qv (fun (u : Nat → va_E) => True) (tp_B D cy L K Γ f [29]) A) #[.ref o] s 0 0 A) (F0 m 87 ls [])) (α := (Nat → va_E) × Int32) (fun aq => (300 - aq.2.toInt).toNat) (fun aq H locs ls => (0 ≤ aq.2.toInt) ∧ (aq.2.toInt ≤ 300) ∧ va_P D vwCl (va_pl L aq.1) H ∧ tp_I cy L K Γ aq.1 ∧ (∀ b, (K b).1 ∉ ([29] : List Nat) → aq.1 b = f b) ∧ va_S A s.heap H locs ∧ lv_has ls 2 [(1, .int aq.2), (0, .ref o)]) ?_ (f_28, z_33) H locs ls ⟨(show 0 ≤ z_33.toInt from (by omega)), (show z_33.toInt ≤ 300 from (by omega)), hP, hI, hfr, hS, lv_sub hl [0, 1] rfl⟩
        rintro ⟨f_34, v1⟩ H locs ls ⟨h0, h1, hP, hI, hfr, hS, hl⟩ ih87
        have hP : va_P D vwCl (va_pl L f_34) H := hP
        have hI : tp_I cy L K Γ f_34 := hI
        have hfr : ∀ b, (K b).1 ∉ ([29] : List Nat) → f_34 b = f b := hfr
        have hD : va_D A (va_pl L f_34) := tp_D hL hAL
        have h0 : 0 ≤ v1.toInt := h0
        have h1 : v1.toInt ≤ 300 := h1
        have hl : lv_has ls 2 [(1, .int v1), (0, .ref o)] := hl
        refine lv_iload_n hx hb dX10_layHeights_87 rfl (lv_at hl 0 rfl) ?_
        refine lv_sipush (v := 300) hx hb dX10_layHeights_88 (by decide) ?_
        refine lv_icmp_ge (tgt := 117) hx hb dX10_layHeights_91 (by decide) (fun c_35 => ?_) (fun c_35 => ?_)
        · have c_35 : (300 : Int) ≤ v1.toInt := tl_le c_35
          exact W.vret hx hb hr (fun t ht hW => ⟨⟨f_34, rfl, trivial, by rw [ht]; exact hP, hI, hfr⟩, hS.F ht⟩) hS.2.2 dX10_layHeights_117
        · have c_35 : v1.toInt < (300 : Int) := tl_nle c_35
          refine lv_aload_n hx hb dX10_layHeights_94 rfl (lv_at hl 1 rfl) ?_
          refine tp_get (cy := cy) (ci := 10) (v := .ref x_6) (C := RX10) (T := TX10) (N := 18) hx hb hta inlX10 hown hK hP ho.1 ((tp_un hfr ho (by decide)).trans hf_1) rfl 4 (by decide) (hta _ wk_135) (fun _ h9 => h9) rfl dX10_layHeights_95 ?_
          refine lv_iload_n hx hb dX10_layHeights_98 rfl (lv_at hl 0 rfl) ?_
          refine lv_aload_n hx hb dX10_layHeights_99 rfl (lv_at hl 1 rfl) ?_
          refine tp_get (cy := cy) (ci := 10) (v := .ref x_10) (C := RX10) (T := TX10) (N := 18) hx hb hta inlX10 hown hK hP ho.1 ((tp_un hfr ho (by decide)).trans hf_1) rfl 8 (by decide) (hta _ wk_139) (fun _ h9 => h9) rfl dX10_layHeights_100 ?_
          refine lv_aload_n hx hb dX10_layHeights_103 rfl (lv_at hl 1 rfl) ?_
          refine tp_get (cy := cy) (ci := 10) (v := .int x_15) (C := RX10) (T := TX10) (N := 18) hx hb hta inlX10 hown hK hP ho.1 ((tp_un hfr ho (by decide)).trans hf_1) rfl 13 (by decide) (hta _ wk_860) (fun _ h9 => h9) rfl dX10_layHeights_104 ?_
          refine lv_iconst (v := 1) hx hb dX10_layHeights_107 (by decide) ?_
          refine lv_isub hx hb dX10_layHeights_108 ?_
          refine lv_topi (fun z_36 ez_36 => ?_)
          try have iz_36 : z_36.toInt = x_15.toInt - (1 : Int) := by rw [ez_36]; exact tl_subN x_15 1 rfl rfl (by omega) (by omega)
          obtain ⟨g_38, hf_37, hg_39⟩ := (show tp_ai cy 32 (42) (f x_10) from hI0.at hx_10)
          have hn_40 : vp_in z_36 (42) := tl_in (by omega) (by omega)
          refine tp_iald (cy := cy) hx hb hK hP hx_10.1 ((tp_un hfr hx_10 (by decide)).trans hf_37) hn_40 dX10_layHeights_109 ?_
          refine lv_topi (fun z_41 ez_41 => ?_)
          obtain ⟨g_43, hf_42, hg_44⟩ := (show tp_ai cy 29 (300) (f_34 x_6) from hI.at hx_6)
          have hn_45 : vp_in v1 (300) := tl_in (by omega) (by omega)
          have hI9 : tp_I cy L K Γ (va_up f_34 x_6 (.inl (cy 0, 300, .inl (upd g_43 v1.toNatClampNeg z_41)))) := hI.set hx_6 (show tp_ai cy 29 (300) _ from ⟨_, rfl, tp_pi_upd hg_44 trivial⟩)
          have hfr9 : ∀ b, (K b).1 ∉ ([29] : List Nat) → va_up f_34 x_6 (.inl (cy 0, 300, .inl (upd g_43 v1.toNatClampNeg z_41))) b = f b := tp_fr hfr hx_6 (by decide)
          refine tp_iast (cy := cy) hx hb hK hP hD hS hx_6.1 hf_42 hn_45 dX10_layHeights_110 (fun H locs hP hD hS => ?_)
          have hP : va_P D vwCl (va_pl L (va_up f_34 x_6 (.inl (cy 0, 300, .inl (upd g_43 v1.toNatClampNeg z_41))))) H := hP
          generalize hfe : va_up f_34 x_6 (.inl (cy 0, 300, .inl (upd g_43 v1.toNatClampNeg z_41))) = f_46 at hP hI9 hfr9
          have hD : va_D A (va_pl L f_46) := tp_D hL hAL
          have hf_47 : f_46 x_6 = .inl (cy 0, 300, .inl (upd g_43 v1.toNatClampNeg z_41)) := by rw [← hfe]; exact va_up_self _ _ _
          clear hfe
          have hI := hI9
          have hfr := hfr9
          clear hI9 hfr9
          obtain ⟨z_48, ez_48⟩ : ∃ y : Int32, y = v1 + 1 := ⟨_, rfl⟩
          refine lv_iinc (v := z_48) (lv' := [(1, .int z_48), (0, .ref o)]) hx hb dX10_layHeights_111 hl (k := 0) rfl (by rw [ez_48]; rfl) (by decide) rfl (fun ls hl => ?_)
          try have iz_48 : z_48.toInt = v1.toInt + 1 := by rw [ez_48]; exact tl_addL v1 1 (by decide) (by omega) (by omega)
          refine lv_goto (tgt := 87) hx hb dX10_layHeights_114 (by decide) ?_
          exact ih87 (f_46, z_48) H locs ls (by show (300 - z_48.toInt).toNat < (300 - v1.toInt).toNat; omega) ⟨(show 0 ≤ z_48.toInt from (by omega)), (show z_48.toInt ≤ 300 from (by omega)), hP, hI, hfr, hS, lv_sub hl [0, 1] rfl⟩
      · have c_30 : z_29.toInt < x_15.toInt := tl_nle c_30
        refine lv_aload_n hx hb dX10_layHeights_50 rfl (lv_at hl 1 rfl) ?_
        refine lv_iload_n hx hb dX10_layHeights_51 rfl (lv_at hl 0 rfl) ?_
        refine lv_aload_n hx hb dX10_layHeights_52 rfl (lv_at hl 1 rfl) ?_
        refine tp_get (cy := cy) (ci := 10) (v := .ref x_9) (C := RX10) (T := TX10) (N := 18) hx hb hta inlX10 hown hK hP ho.1 ((tp_un hfr ho (by decide)).trans hf_1) rfl 7 (by decide) (hta _ wk_138) (fun _ h9 => h9) rfl dX10_layHeights_53 ?_
        refine lv_iload_n hx hb dX10_layHeights_56 rfl (lv_at hl 0 rfl) ?_
        have hn_49 : vp_in v1 (42) := tl_in (by omega) (by omega)
        refine tp_iald (cy := cy) hx hb hK hP hx_9.1 ((tp_un hfr hx_9 (by decide)).trans hf_22) hn_49 dX10_layHeights_57 ?_
        refine lv_topi (fun z_50 ez_50 => ?_)
        have iz_50 : 0 ≤ z_50.toInt ∧ z_50.toInt ≤ 299 := by rw [ez_50]; exact hg_24 _ (tp_pin hn_49)
        refine lv_aload_n hx hb dX10_layHeights_58 rfl (lv_at hl 1 rfl) ?_
        refine tp_get (cy := cy) (ci := 10) (v := .ref x_9) (C := RX10) (T := TX10) (N := 18) hx hb hta inlX10 hown hK hP ho.1 ((tp_un hfr ho (by decide)).trans hf_1) rfl 7 (by decide) (hta _ wk_138) (fun _ h9 => h9) rfl dX10_layHeights_59 ?_
        refine lv_iload_n hx hb dX10_layHeights_62 rfl (lv_at hl 0 rfl) ?_
        refine lv_iconst (v := 1) hx hb dX10_layHeights_63 (by decide) ?_
        refine lv_iadd hx hb dX10_layHeights_64 ?_
        refine lv_topi (fun z_51 ez_51 => ?_)
        try have iz_51 : z_51.toInt = v1.toInt + (1 : Int) := by rw [ez_51]; exact tl_addN v1 1 rfl rfl (by omega) (by omega)
        have hn_52 : vp_in z_51 (42) := tl_in (by omega) (by omega)
        refine tp_iald (cy := cy) hx hb hK hP hx_9.1 ((tp_un hfr hx_9 (by decide)).trans hf_22) hn_52 dX10_layHeights_65 ?_
        refine lv_topi (fun z_53 ez_53 => ?_)
        have iz_53 : 0 ≤ z_53.toInt ∧ z_53.toInt ≤ 299 := by rw [ez_53]; exact hg_24 _ (tp_pin hn_52)
        refine tq_cv hS (hAf _ hS.1) (tq_rV (As := [.int v1, .int z_50, .int z_53]) (rest := []) ⟨hx, hb, hml, hown, hta⟩ (tp_P.pre hK hN hL hU hI hP) (tp_recv hK hP ho.1 ((tp_un hfr ho (by decide)).trans hf_1) rfl) lk_X10_118 (t_X10_layBetween l D cy H.size L K Γ f_28 o v1 z_50 z_53 ho (by first | omega | (simp only [Int32.toInt_toInt64]; omega) | decide | assumption) (by first | omega | (simp only [Int32.toInt_toInt64]; omega) | decide | assumption) (by first | omega | (simp only [Int32.toInt_toInt64]; omega) | decide | assumption)) rfl rfl ⟨Nat.le_of_ble_eq_true rfl, Nat.le_of_ble_eq_true rfl⟩ rfl hl.1 rfl (Nat.le_of_ble_eq_true rfl) dX10_layHeights_66 ⟨Nat.le_of_ble_eq_true rfl, Nat.le_of_ble_eq_true rfl⟩) (fun f_56 H locs hw_54 hP hI hc_57 hS => ?_)
        have hD : va_D A (va_pl L f_56) := tp_D hL hAL
        have hfr := tp_fr2 hfr hc_57 (by decide)
        obtain ⟨z_58, ez_58⟩ : ∃ y : Int32, y = v1 + 1 := ⟨_, rfl⟩
        refine lv_iinc (v := z_58) (lv' := [(1, .int z_58), (0, .ref o)]) hx hb dX10_layHeights_69 hl (k := 0) rfl (by rw [ez_58]; rfl) (by decide) rfl (fun ls hl => ?_)
        try have iz_58 : z_58.toInt = v1.toInt + 1 := by rw [ez_58]; exact tl_addL v1 1 (by decide) (by omega) (by omega)
        refine lv_goto (tgt := 40) hx hb dX10_layHeights_72 (by decide) ?_
        exact ih40 (f_56, z_58) H locs ls (by show (42 - z_58.toInt).toNat < (42 - v1.toInt).toNat; omega) ⟨(show 0 ≤ z_58.toInt from (by omega)), (show z_58.toInt ≤ 42 from (by omega)), hP, hI, hfr, hS, lv_sub hl [0, 1] rfl⟩
    · have c_27 : v1.toInt < z_26.toInt := tl_nle c_27
      refine lv_aload_n hx hb dX10_layHeights_20 rfl (lv_at hl 1 rfl) ?_
      refine tp_get (cy := cy) (ci := 10) (v := .ref x_6) (C := RX10) (T := TX10) (N := 18) hx hb hta inlX10 hown hK hP ho.1 ((tp_un hfr ho (by decide)).trans hf_1) rfl 4 (by decide) (hta _ wk_135) (fun _ h9 => h9) rfl dX10_layHeights_21 ?_
      refine lv_iload_n hx hb dX10_layHeights_24 rfl (lv_at hl 0 rfl) ?_
      refine lv_aload_n hx hb dX10_layHeights_25 rfl (lv_at hl 1 rfl) ?_
      refine tp_get (cy := cy) (ci := 10) (v := .ref x_10) (C := RX10) (T := TX10) (N := 18) hx hb hta inlX10 hown hK hP ho.1 ((tp_un hfr ho (by decide)).trans hf_1) rfl 8 (by decide) (hta _ wk_139) (fun _ h9 => h9) rfl dX10_layHeights_26 ?_
      refine lv_iconst (v := 0) hx hb dX10_layHeights_29 (by decide) ?_
      obtain ⟨g_60, hf_59, hg_61⟩ := (show tp_ai cy 32 (42) (f x_10) from hI0.at hx_10)
      have hn_62 : vp_in 0 (42) := tl_in (by decide) (by decide)
      refine tp_iald (cy := cy) hx hb hK hP hx_10.1 ((tp_un hfr hx_10 (by decide)).trans hf_59) hn_62 dX10_layHeights_30 ?_
      refine lv_topi (fun z_63 ez_63 => ?_)
      obtain ⟨g_65, hf_64, hg_66⟩ := (show tp_ai cy 29 (300) (f_21 x_6) from hI.at hx_6)
      have hn_67 : vp_in v1 (300) := tl_in (by omega) (by omega)
      have hI9 : tp_I cy L K Γ (va_up f_21 x_6 (.inl (cy 0, 300, .inl (upd g_65 v1.toNatClampNeg z_63)))) := hI.set hx_6 (show tp_ai cy 29 (300) _ from ⟨_, rfl, tp_pi_upd hg_66 trivial⟩)
      have hfr9 : ∀ b, (K b).1 ∉ ([29] : List Nat) → va_up f_21 x_6 (.inl (cy 0, 300, .inl (upd g_65 v1.toNatClampNeg z_63))) b = f b := tp_fr hfr hx_6 (by decide)
      refine tp_iast (cy := cy) hx hb hK hP hD hS hx_6.1 hf_64 hn_67 dX10_layHeights_31 (fun H locs hP hD hS => ?_)
      have hP : va_P D vwCl (va_pl L (va_up f_21 x_6 (.inl (cy 0, 300, .inl (upd g_65 v1.toNatClampNeg z_63))))) H := hP
      generalize hfe : va_up f_21 x_6 (.inl (cy 0, 300, .inl (upd g_65 v1.toNatClampNeg z_63))) = f_68 at hP hI9 hfr9
      have hD : va_D A (va_pl L f_68) := tp_D hL hAL
      have hf_69 : f_68 x_6 = .inl (cy 0, 300, .inl (upd g_65 v1.toNatClampNeg z_63)) := by rw [← hfe]; exact va_up_self _ _ _
      clear hfe
      have hI := hI9
      have hfr := hfr9
      clear hI9 hfr9
      obtain ⟨z_70, ez_70⟩ : ∃ y : Int32, y = v1 + 1 := ⟨_, rfl⟩
      refine lv_iinc (v := z_70) (lv' := [(1, .int z_70), (0, .ref o)]) hx hb dX10_layHeights_32 hl (k := 0) rfl (by rw [ez_70]; rfl) (by decide) rfl (fun ls hl => ?_)
      try have iz_70 : z_70.toInt = v1.toInt + 1 := by rw [ez_70]; exact tl_addL v1 1 (by decide) (by omega) (by omega)
      refine lv_goto (tgt := 10) hx hb dX10_layHeights_35 (by decide) ?_
      exact ih10 (f_68, z_70) H locs ls (by show (300 - z_70.toInt).toNat < (300 - v1.toInt).toNat; omega) ⟨(show 0 ≤ z_70.toInt from (by omega)), (show z_70.toInt ≤ 300 from (by omega)), hP, hI, hfr, hS, lv_sub hl [0, 1] rfl⟩
  · have c_20 : x_15.toInt = (0 : Int) := tl_eq c_20
    exact W.vret hx hb hr (fun t ht hW => ⟨⟨f, rfl, trivial, by rw [ht]; exact hP, hI, hfr⟩, hS.F ht⟩) hS.2.2 dX10_layHeights_7
set_option maxHeartbeats 4000000 in
set_option maxRecDepth 100000 in
theorem t_X10_measure (l : Launch) (D : va_G) (cy : Nat → ClassId) (sz : Nat) (L : List Nat) (K : Nat → tk_K) (Γ : tk_G) (f : Nat → va_E) (o : Nat) (ho : tp_r L K 27 (0) 0 o) : Met l yX10_measure (tl_w yX10_measure cX10_measure 4 none) ({ frames := 1, cells := 0, slots := 0, locals := 16 }) (va_Pc [.ref o] (tp_P D cy L K Γ f sz)) (va_Qv (fun (u : Nat → va_E) => tv_gap (f o) → tv_gap (u o)) (tp_B D cy L K Γ f [27, 28]) (tp_A L sz)) 0 0 (tp_A L sz) := by
  refine Met.ofW (cc := cX10_measure) (maxL := 4) (ret := none) (by decide) rfl ?_
  intro p e s m args below meth c s₁ B hml hv
  obtain ⟨rfl, hsz, hP, hK, hL, hI, hN, hU⟩ := hv
  have hx := B.exec
  have hb := B.bytes
  have hr := B.returns
  have hta := tl_hta (atoms_spec (ws := tl_w yX10_measure cX10_measure 4 none) B.pre)
  have hown : s.vm.findClass RX10 = some m.cls := findClass_of_methodNamed B.named
  have hlocks := B.notSynchronized
  subst hsz
  have hI0 := hI
  generalize hAe : tp_A L s.heap.size = A
  have hA : ∀ q : Nat, s.heap.size ≤ q → A q := fun q h => by rw [← hAe]; exact Or.inr h
  have hAL : ∀ q ∈ L, A q := fun q h => by rw [← hAe]; exact Or.inl h
  have hAf : ∀ (H : Heap), s.heap.size ≤ H.size → ∀ q, tp_A L H.size q → A q := fun H h q hq => hq.elim (hAL q) (fun h2 => hA q (Nat.le_trans h h2))
  have hS : va_S A s.heap s.heap [] := va_S.rf
  have hD : va_D A (va_pl L f) := tp_D hL hAL
  have hfr : ∀ b, (K b).1 ∉ ([27, 28] : List Nat) → f b = f b := fun _ _ => rfl
  have hl := lv_entry ([.ref o]) (n := 4) (Nat.le_of_ble_eq_true rfl)
  rw [lg_entry_eq]
  generalize (lg_sl ([.ref o]) ++ List.replicate (4 - (lg_sl ([.ref o])).length) Slot.unset).toArray = ls at hl ⊢
  have hl : lv_has ls 4 [(0, .ref o)] := hl
  obtain ⟨x_2, x_3, x_4, x_5, x_6, x_7, x_8, x_9, x_10, x_11, x_12, x_13, x_14, x_15, x_16, x_17, x_18, x_19, hf_1, hx_2, hx_3, hx_4, hx_5, hx_6, hx_7, hx_8, hx_9, hx_10, hx_12, hx_15⟩ := (show tp_o_VIEW L K (0) 0 (Γ (27, 0, 0)) (f o) from hI.at ho)
  have hgx := fun q : tv_gap (f o) => tv_gap.use q hf_1 rfl rfl
  refine lv_aload_n hx hb dX10_measure_0 rfl (lv_at hl 0 rfl) ?_
  refine lv_iconst (v := 0) hx hb dX10_measure_1 (by decide) ?_
  have hI9 : tp_I cy L K Γ (va_up f o (.inr (10, [.ref x_2, .ref x_3, .ref x_4, .ref x_5, .ref x_6, .ref x_7, .ref x_8, .ref x_9, .ref x_10, .int x_11, .int x_12, .int x_13, .int x_14, .int x_15, .int 0, .int x_17, .long x_18, .long x_19]))) := hI.set ho (show tp_o_VIEW L K (0) 0 (Γ (27, 0, 0)) _ from ⟨x_2, x_3, x_4, x_5, x_6, x_7, x_8, x_9, x_10, x_11, x_12, x_13, x_14, x_15, 0, x_17, x_18, x_19, rfl, hx_2, hx_3, hx_4, hx_5, hx_6, hx_7, hx_8, hx_9, hx_10, (show 0 ≤ x_12.toInt ∧ x_12.toInt ≤ 9999 from by omega), (show 0 ≤ x_15.toInt ∧ x_15.toInt ≤ 42 from by omega)⟩)
  have hfr9 : ∀ b, (K b).1 ∉ ([27, 28] : List Nat) → va_up f o (.inr (10, [.ref x_2, .ref x_3, .ref x_4, .ref x_5, .ref x_6, .ref x_7, .ref x_8, .ref x_9, .ref x_10, .int x_11, .int x_12, .int x_13, .int x_14, .int x_15, .int 0, .int x_17, .long x_18, .long x_19])) b = f b := tp_fr hfr ho (by decide)
  refine tp_put (cy := cy) (ci := 10) (v := .int 0) (ty := tyX10 14) (C := RX10) (T := TX10) (N := 18) hx hb hta inlX10 tyX10 tyX10_ok nmX10 hown hK hP hD hS ho.1 hf_1 rfl 14 (by decide) (hta _ wk_883) (fun _ h9 => h9) rfl (tyX10_ok 14 (by decide)) rfl rfl (Nat.le_of_ble_eq_true rfl) dX10_measure_2 (fun H locs hP hD hS => ?_)
  have hP : va_P D vwCl (va_pl L (va_up f o (.inr (10, [.ref x_2, .ref x_3, .ref x_4, .ref x_5, .ref x_6, .ref x_7, .ref x_8, .ref x_9, .ref x_10, .int x_11, .int x_12, .int x_13, .int x_14, .int x_15, .int 0, .int x_17, .long x_18, .long x_19])))) H := hP
  generalize hfe : va_up f o (.inr (10, [.ref x_2, .ref x_3, .ref x_4, .ref x_5, .ref x_6, .ref x_7, .ref x_8, .ref x_9, .ref x_10, .int x_11, .int x_12, .int x_13, .int x_14, .int x_15, .int 0, .int x_17, .long x_18, .long x_19])) = f_20 at hP hI9 hfr9
  have hD : va_D A (va_pl L f_20) := tp_D hL hAL
  have hf_21 : f_20 o = .inr (10, [.ref x_2, .ref x_3, .ref x_4, .ref x_5, .ref x_6, .ref x_7, .ref x_8, .ref x_9, .ref x_10, .int x_11, .int x_12, .int x_13, .int x_14, .int x_15, .int 0, .int x_17, .long x_18, .long x_19]) := by rw [← hfe]; exact va_up_self _ _ _
  clear hfe
  have hI := hI9
  have hfr := hfr9
  clear hI9 hfr9
  refine lv_aload_n hx hb dX10_measure_5 rfl (lv_at hl 0 rfl) ?_
  refine lv_iconst (v := 0) hx hb dX10_measure_6 (by decide) ?_
  have hI9 : tp_I cy L K Γ (va_up f_20 o (.inr (10, [.ref x_2, .ref x_3, .ref x_4, .ref x_5, .ref x_6, .ref x_7, .ref x_8, .ref x_9, .ref x_10, .int x_11, .int x_12, .int x_13, .int x_14, .int x_15, .int 0, .int 0, .long x_18, .long x_19]))) := hI.set ho (show tp_o_VIEW L K (0) 0 (Γ (27, 0, 0)) _ from ⟨x_2, x_3, x_4, x_5, x_6, x_7, x_8, x_9, x_10, x_11, x_12, x_13, x_14, x_15, 0, 0, x_18, x_19, rfl, hx_2, hx_3, hx_4, hx_5, hx_6, hx_7, hx_8, hx_9, hx_10, (show 0 ≤ x_12.toInt ∧ x_12.toInt ≤ 9999 from by omega), (show 0 ≤ x_15.toInt ∧ x_15.toInt ≤ 42 from by omega)⟩)
  have hfr9 : ∀ b, (K b).1 ∉ ([27, 28] : List Nat) → va_up f_20 o (.inr (10, [.ref x_2, .ref x_3, .ref x_4, .ref x_5, .ref x_6, .ref x_7, .ref x_8, .ref x_9, .ref x_10, .int x_11, .int x_12, .int x_13, .int x_14, .int x_15, .int 0, .int 0, .long x_18, .long x_19])) b = f b := tp_fr hfr ho (by decide)
  refine tp_put (cy := cy) (ci := 10) (v := .int 0) (ty := tyX10 15) (C := RX10) (T := TX10) (N := 18) hx hb hta inlX10 tyX10 tyX10_ok nmX10 hown hK hP hD hS ho.1 hf_21 rfl 15 (by decide) (hta _ wk_884) (fun _ h9 => h9) rfl (tyX10_ok 15 (by decide)) rfl rfl (Nat.le_of_ble_eq_true rfl) dX10_measure_7 (fun H locs hP hD hS => ?_)
  have hP : va_P D vwCl (va_pl L (va_up f_20 o (.inr (10, [.ref x_2, .ref x_3, .ref x_4, .ref x_5, .ref x_6, .ref x_7, .ref x_8, .ref x_9, .ref x_10, .int x_11, .int x_12, .int x_13, .int x_14, .int x_15, .int 0, .int 0, .long x_18, .long x_19])))) H := hP
  generalize hfe : va_up f_20 o (.inr (10, [.ref x_2, .ref x_3, .ref x_4, .ref x_5, .ref x_6, .ref x_7, .ref x_8, .ref x_9, .ref x_10, .int x_11, .int x_12, .int x_13, .int x_14, .int x_15, .int 0, .int 0, .long x_18, .long x_19])) = f_22 at hP hI9 hfr9
  have hD : va_D A (va_pl L f_22) := tp_D hL hAL
  have hf_23 : f_22 o = .inr (10, [.ref x_2, .ref x_3, .ref x_4, .ref x_5, .ref x_6, .ref x_7, .ref x_8, .ref x_9, .ref x_10, .int x_11, .int x_12, .int x_13, .int x_14, .int x_15, .int 0, .int 0, .long x_18, .long x_19]) := by rw [← hfe]; exact va_up_self _ _ _
  clear hfe
  have hI := hI9
  have hfr := hfr9
  clear hI9 hfr9
  refine lv_aload_n hx hb dX10_measure_10 rfl (lv_at hl 0 rfl) ?_
  refine lv_lconst (v := 0) hx hb dX10_measure_11 (by decide) ?_
  have hI9 : tp_I cy L K Γ (va_up f_22 o (.inr (10, [.ref x_2, .ref x_3, .ref x_4, .ref x_5, .ref x_6, .ref x_7, .ref x_8, .ref x_9, .ref x_10, .int x_11, .int x_12, .int x_13, .int x_14, .int x_15, .int 0, .int 0, .long 0, .long x_19]))) := hI.set ho (show tp_o_VIEW L K (0) 0 (Γ (27, 0, 0)) _ from ⟨x_2, x_3, x_4, x_5, x_6, x_7, x_8, x_9, x_10, x_11, x_12, x_13, x_14, x_15, 0, 0, 0, x_19, rfl, hx_2, hx_3, hx_4, hx_5, hx_6, hx_7, hx_8, hx_9, hx_10, (show 0 ≤ x_12.toInt ∧ x_12.toInt ≤ 9999 from by omega), (show 0 ≤ x_15.toInt ∧ x_15.toInt ≤ 42 from by omega)⟩)
  have hfr9 : ∀ b, (K b).1 ∉ ([27, 28] : List Nat) → va_up f_22 o (.inr (10, [.ref x_2, .ref x_3, .ref x_4, .ref x_5, .ref x_6, .ref x_7, .ref x_8, .ref x_9, .ref x_10, .int x_11, .int x_12, .int x_13, .int x_14, .int x_15, .int 0, .int 0, .long 0, .long x_19])) b = f b := tp_fr hfr ho (by decide)
  refine tp_put (cy := cy) (ci := 10) (v := .long 0) (ty := tyX10 16) (C := RX10) (T := TX10) (N := 18) hx hb hta inlX10 tyX10 tyX10_ok nmX10 hown hK hP hD hS ho.1 hf_23 rfl 16 (by decide) (hta _ wk_885) (fun _ h9 => h9) rfl (tyX10_ok 16 (by decide)) rfl rfl (Nat.le_of_ble_eq_true rfl) dX10_measure_12 (fun H locs hP hD hS => ?_)
  have hP : va_P D vwCl (va_pl L (va_up f_22 o (.inr (10, [.ref x_2, .ref x_3, .ref x_4, .ref x_5, .ref x_6, .ref x_7, .ref x_8, .ref x_9, .ref x_10, .int x_11, .int x_12, .int x_13, .int x_14, .int x_15, .int 0, .int 0, .long 0, .long x_19])))) H := hP
  generalize hfe : va_up f_22 o (.inr (10, [.ref x_2, .ref x_3, .ref x_4, .ref x_5, .ref x_6, .ref x_7, .ref x_8, .ref x_9, .ref x_10, .int x_11, .int x_12, .int x_13, .int x_14, .int x_15, .int 0, .int 0, .long 0, .long x_19])) = f_24 at hP hI9 hfr9
  have hD : va_D A (va_pl L f_24) := tp_D hL hAL
  have hf_25 : f_24 o = .inr (10, [.ref x_2, .ref x_3, .ref x_4, .ref x_5, .ref x_6, .ref x_7, .ref x_8, .ref x_9, .ref x_10, .int x_11, .int x_12, .int x_13, .int x_14, .int x_15, .int 0, .int 0, .long 0, .long x_19]) := by rw [← hfe]; exact va_up_self _ _ _
  clear hfe
  have hI := hI9
  have hfr := hfr9
  clear hI9 hfr9
  refine lv_aload_n hx hb dX10_measure_15 rfl (lv_at hl 0 rfl) ?_
  refine lv_lconst (v := 0) hx hb dX10_measure_16 (by decide) ?_
  have hI9 : tp_I cy L K Γ (va_up f_24 o (.inr (10, [.ref x_2, .ref x_3, .ref x_4, .ref x_5, .ref x_6, .ref x_7, .ref x_8, .ref x_9, .ref x_10, .int x_11, .int x_12, .int x_13, .int x_14, .int x_15, .int 0, .int 0, .long 0, .long 0]))) := hI.set ho (show tp_o_VIEW L K (0) 0 (Γ (27, 0, 0)) _ from ⟨x_2, x_3, x_4, x_5, x_6, x_7, x_8, x_9, x_10, x_11, x_12, x_13, x_14, x_15, 0, 0, 0, 0, rfl, hx_2, hx_3, hx_4, hx_5, hx_6, hx_7, hx_8, hx_9, hx_10, (show 0 ≤ x_12.toInt ∧ x_12.toInt ≤ 9999 from by omega), (show 0 ≤ x_15.toInt ∧ x_15.toInt ≤ 42 from by omega)⟩)
  have hfr9 : ∀ b, (K b).1 ∉ ([27, 28] : List Nat) → va_up f_24 o (.inr (10, [.ref x_2, .ref x_3, .ref x_4, .ref x_5, .ref x_6, .ref x_7, .ref x_8, .ref x_9, .ref x_10, .int x_11, .int x_12, .int x_13, .int x_14, .int x_15, .int 0, .int 0, .long 0, .long 0])) b = f b := tp_fr hfr ho (by decide)
  refine tp_put (cy := cy) (ci := 10) (v := .long 0) (ty := tyX10 17) (C := RX10) (T := TX10) (N := 18) hx hb hta inlX10 tyX10 tyX10_ok nmX10 hown hK hP hD hS ho.1 hf_25 rfl 17 (by decide) (hta _ wk_886) (fun _ h9 => h9) rfl (tyX10_ok 17 (by decide)) rfl rfl (Nat.le_of_ble_eq_true rfl) dX10_measure_17 (fun H locs hP hD hS => ?_)
  have hP : va_P D vwCl (va_pl L (va_up f_24 o (.inr (10, [.ref x_2, .ref x_3, .ref x_4, .ref x_5, .ref x_6, .ref x_7, .ref x_8, .ref x_9, .ref x_10, .int x_11, .int x_12, .int x_13, .int x_14, .int x_15, .int 0, .int 0, .long 0, .long 0])))) H := hP
  generalize hfe : va_up f_24 o (.inr (10, [.ref x_2, .ref x_3, .ref x_4, .ref x_5, .ref x_6, .ref x_7, .ref x_8, .ref x_9, .ref x_10, .int x_11, .int x_12, .int x_13, .int x_14, .int x_15, .int 0, .int 0, .long 0, .long 0])) = f_26 at hP hI9 hfr9
  have hD : va_D A (va_pl L f_26) := tp_D hL hAL
  have hf_27 : f_26 o = .inr (10, [.ref x_2, .ref x_3, .ref x_4, .ref x_5, .ref x_6, .ref x_7, .ref x_8, .ref x_9, .ref x_10, .int x_11, .int x_12, .int x_13, .int x_14, .int x_15, .int 0, .int 0, .long 0, .long 0]) := by rw [← hfe]; exact va_up_self _ _ _
  clear hfe
  have hI := hI9
  have hfr := hfr9
  clear hI9 hfr9
  refine lv_iconst (v := 0) hx hb dX10_measure_20 (by decide) ?_
  refine lv_istore_n (lv' := [(1, .int 0), (0, .ref o)]) hx hb dX10_measure_21 rfl hl (by decide) rfl (fun ls hl => ?_)
  refine tl_ind (G := fun H locs ls => W p l e ((headSpec (tl_w yX10_measure cX10_measure 4 none) ({ frames := 1, cells := 0, slots := 0, locals := 16 })).room) s m #[.ref o] below meth c H locs 0 0 (MQ below (va_Qv (fun (u : Nat → va_E) => tv_gap (f o) → tv_gap (u o)) (tp_B D cy L K Γ f [27, 28]) A) #[.ref o] s 0 0 A) (F0 m 22 ls [])) (α := (Nat → va_E) × Int32) (fun aq => (300 - aq.2.toInt).toNat) (fun aq H locs ls => (0 ≤ aq.2.toInt) ∧ (aq.2.toInt ≤ 300) ∧ (tv_gap (f o) → tv_gap (aq.1 o)) ∧ va_P D vwCl (va_pl L aq.1) H ∧ tp_I cy L K Γ aq.1 ∧ (∀ b, (K b).1 ∉ ([27, 28] : List Nat) → aq.1 b = f b) ∧ va_S A s.heap H locs ∧ lv_has ls 4 [(1, .int aq.2), (0, .ref o)]) ?_ (f_26, (0 : Int32)) H locs ls ⟨(show 0 ≤ (0 : Int) from (by omega)), (show (0 : Int) ≤ 300 from (by omega)), (show tv_gap (f o) → tv_gap (f_26 o) from (fun q => ⟨_, _, _, hf_27, rfl, rfl, hgx q⟩)), hP, hI, hfr, hS, lv_sub hl [0, 1] rfl⟩
  rintro ⟨f_28, v1⟩ H locs ls ⟨h0, h1, hgp, hP, hI, hfr, hS, hl⟩ ih22
  have hP : va_P D vwCl (va_pl L f_28) H := hP
  have hI : tp_I cy L K Γ f_28 := hI
  have hfr : ∀ b, (K b).1 ∉ ([27, 28] : List Nat) → f_28 b = f b := hfr
  have hD : va_D A (va_pl L f_28) := tp_D hL hAL
  have h0 : 0 ≤ v1.toInt := h0
  have h1 : v1.toInt ≤ 300 := h1
  have hgp : tv_gap (f o) → tv_gap (f_28 o) := hgp
  have hl : lv_has ls 4 [(1, .int v1), (0, .ref o)] := hl
  obtain ⟨x_30, x_31, x_32, x_33, x_34, x_35, x_36, x_37, x_38, x_39, x_40, x_41, x_42, x_43, x_44, x_45, x_46, x_47, hf_29, hx_30, hx_31, hx_32, hx_33, hx_34, hx_35, hx_36, hx_37, hx_38, hx_40, hx_43⟩ := (show tp_o_VIEW L K (0) 0 (Γ (27, 0, 0)) (f_28 o) from hI.at ho)
  have hgx := fun q : tv_gap (f o) => tv_gap.use (hgp q) hf_29 rfl rfl
  refine lv_iload_n hx hb dX10_measure_22 rfl (lv_at hl 0 rfl) ?_
  refine lv_sipush (v := 300) hx hb dX10_measure_23 (by decide) ?_
  refine lv_icmp_ge (tgt := 174) hx hb dX10_measure_26 (by decide) (fun c_48 => ?_) (fun c_48 => ?_)
  · have c_48 : (300 : Int) ≤ v1.toInt := tl_le c_48
    exact W.vret hx hb hr (fun t ht hW => ⟨⟨f_28, rfl, (fun q => ⟨_, _, _, hf_29, rfl, rfl, hgx q⟩), by rw [ht]; exact hP, hI, hfr⟩, hS.F ht⟩) hS.2.2 dX10_measure_174
  · have c_48 : v1.toInt < (300 : Int) := tl_nle c_48
    refine lv_aload_n hx hb dX10_measure_29 rfl (lv_at hl 1 rfl) ?_
    refine tp_get (cy := cy) (ci := 10) (v := .ref x_33) (C := RX10) (T := TX10) (N := 18) hx hb hta inlX10 hown hK hP ho.1 hf_29 rfl 3 (by decide) (hta _ wk_134) (fun _ h9 => h9) rfl dX10_measure_30 ?_
    refine lv_iload_n hx hb dX10_measure_33 rfl (lv_at hl 0 rfl) ?_
    obtain ⟨g_50, hf_49, hg_51⟩ := (show tp_ai cy 29 (300) (f x_33) from hI0.at hx_33)
    have hn_52 : vp_in v1 (300) := tl_in (by omega) (by omega)
    refine tp_iald (cy := cy) hx hb hK hP hx_33.1 ((tp_un hfr hx_33 (by decide)).trans hf_49) hn_52 dX10_measure_34 ?_
    refine lv_topi (fun z_53 ez_53 => ?_)
    refine lv_aload_n hx hb dX10_measure_35 rfl (lv_at hl 1 rfl) ?_
    refine tp_get (cy := cy) (ci := 10) (v := .ref x_34) (C := RX10) (T := TX10) (N := 18) hx hb hta inlX10 hown hK hP ho.1 hf_29 rfl 4 (by decide) (hta _ wk_135) (fun _ h9 => h9) rfl dX10_measure_36 ?_
    refine lv_iload_n hx hb dX10_measure_39 rfl (lv_at hl 0 rfl) ?_
    obtain ⟨g_55, hf_54, hg_56⟩ := (show tp_ai cy 29 (300) (f x_34) from hI0.at hx_34)
    have hn_57 : vp_in v1 (300) := tl_in (by omega) (by omega)
    refine tp_iald (cy := cy) hx hb hK hP hx_34.1 ((tp_un hfr hx_34 (by decide)).trans hf_54) hn_57 dX10_measure_40 ?_
    refine lv_topi (fun z_58 ez_58 => ?_)
    refine lv_isub hx hb dX10_measure_41 ?_
    refine lv_topi (fun z_59 ez_59 => ?_)
    try have iz_59 : z_59.toInt = z_53.toInt - z_58.toInt := by rw [ez_59]; exact tl_subN z_53 z_58 rfl rfl (by omega) (by omega)
    refine lv_istore_n (lv' := [(2, .int z_59), (1, .int v1), (0, .ref o)]) hx hb dX10_measure_42 rfl hl (by decide) rfl (fun ls hl => ?_)
    refine lv_iload_n hx hb dX10_measure_43 rfl (lv_at hl 1 rfl) ?_
    refine lv_aload_n hx hb dX10_measure_44 rfl (lv_at hl 2 rfl) ?_
    refine tp_get (cy := cy) (ci := 10) (v := .int x_41) (C := RX10) (T := TX10) (N := 18) hx hb hta inlX10 hown hK hP ho.1 hf_29 rfl 11 (by decide) (hta _ wk_848) (fun _ h9 => h9) rfl dX10_measure_45 ?_
    refine lv_icmp_lt (tgt := 63) hx hb dX10_measure_48 (by decide) (fun c_60 => ?_) (fun c_60 => ?_)
    · have c_60 : v1.toInt < x_41.toInt := tl_lt c_60
      refine lv_iconst (v := 0) hx hb dX10_measure_63 (by decide) ?_
      refine lv_istore_n (lv' := [(3, .int 0), (2, .int z_59), (1, .int v1), (0, .ref o)]) hx hb dX10_measure_64 rfl hl (by decide) rfl (fun ls hl => ?_)
      refine lv_aload_n hx hb dX10_measure_65 rfl (lv_at hl 3 rfl) ?_
      refine tp_get (cy := cy) (ci := 10) (v := .ref x_32) (C := RX10) (T := TX10) (N := 18) hx hb hta inlX10 hown hK hP ho.1 hf_29 rfl 2 (by decide) (hta _ wk_133) (fun _ h9 => h9) rfl dX10_measure_66 ?_
      refine lv_iload_n hx hb dX10_measure_69 rfl (lv_at hl 2 rfl) ?_
      refine lv_aload_n hx hb dX10_measure_70 rfl (lv_at hl 3 rfl) ?_
      refine tp_get (cy := cy) (ci := 10) (v := .ref x_30) (C := RX10) (T := TX10) (N := 18) hx hb hta inlX10 hown hK hP ho.1 hf_29 rfl 0 (by decide) (hta _ wk_131) (fun _ h9 => h9) rfl dX10_measure_71 ?_
      refine lv_iload_n hx hb dX10_measure_74 rfl (lv_at hl 2 rfl) ?_
      obtain ⟨g_62, hf_61⟩ := (show tp_az cy (300) (f_28 x_30) from hI.at hx_30)
      have hn_64 : vp_in v1 (300) := tl_in (by omega) (by omega)
      refine tp_zald (cy := cy) hx hb hK hP hx_30.1 hf_61 hn_64 dX10_measure_75 ?_
      refine lv_topi (fun z_65 ez_65 => ?_)
      refine lv_if_eq (tgt := 96) hx hb dX10_measure_76 (by decide) (fun c_66 => ?_) (fun c_66 => ?_)
      · have c_66 : z_65.toInt = (0 : Int) := tl_eq c_66
        refine lv_iconst (v := 0) hx hb dX10_measure_96 (by decide) ?_
        obtain ⟨g_68, hf_67⟩ := (show tp_az cy (300) (f_28 x_32) from hI.at hx_32)
        have hn_70 : vp_in v1 (300) := tl_in (by omega) (by omega)
        have hI9 : tp_I cy L K Γ (va_up f_28 x_32 (.inl (cy 2, 300, .inl (upd g_68 v1.toNatClampNeg (vp_nar .boolean 0))))) := hI.set hx_32 (show tp_az cy (300) _ from ⟨_, rfl⟩)
        have hfr9 : ∀ b, (K b).1 ∉ ([27, 28] : List Nat) → va_up f_28 x_32 (.inl (cy 2, 300, .inl (upd g_68 v1.toNatClampNeg (vp_nar .boolean 0)))) b = f b := tp_fr hfr hx_32 (by decide)
        refine tp_zast (cy := cy) hx hb hK hP hD hS hx_32.1 hf_67 hn_70 dX10_measure_97 (fun H locs hP hD hS => ?_)
        have hP : va_P D vwCl (va_pl L (va_up f_28 x_32 (.inl (cy 2, 300, .inl (upd g_68 v1.toNatClampNeg (vp_nar .boolean 0)))))) H := hP
        generalize hfe : va_up f_28 x_32 (.inl (cy 2, 300, .inl (upd g_68 v1.toNatClampNeg (vp_nar .boolean 0)))) = f_71 at hP hI9 hfr9
        have hD : va_D A (va_pl L f_71) := tp_D hL hAL
        have hf_72 := (show f_71 o = _ from by rw [← hfe, va_up_ne _ _ (tp_ne ho hx_32 (by decide))]).trans hf_29
        have hf_73 : f_71 x_32 = .inl (cy 2, 300, .inl (upd g_68 v1.toNatClampNeg (vp_nar .boolean 0))) := by rw [← hfe]; exact va_up_self _ _ _
        clear hfe
        have hI := hI9
        have hfr := hfr9
        clear hI9 hfr9
        refine lv_aload_n hx hb dX10_measure_98 rfl (lv_at hl 3 rfl) ?_
        refine tp_get (cy := cy) (ci := 10) (v := .ref x_32) (C := RX10) (T := TX10) (N := 18) hx hb hta inlX10 hown hK hP ho.1 hf_72 rfl 2 (by decide) (hta _ wk_133) (fun _ h9 => h9) rfl dX10_measure_99 ?_
        refine lv_iload_n hx hb dX10_measure_102 rfl (lv_at hl 2 rfl) ?_
        obtain ⟨g_75, hf_74⟩ := (show tp_az cy (300) (f_71 x_32) from hI.at hx_32)
        have hn_77 : vp_in v1 (300) := tl_in (by omega) (by omega)
        refine tp_zald (cy := cy) hx hb hK hP hx_32.1 hf_74 hn_77 dX10_measure_103 ?_
        refine lv_topi (fun z_78 ez_78 => ?_)
        refine lv_if_eq (tgt := 134) hx hb dX10_measure_104 (by decide) (fun c_79 => ?_) (fun c_79 => ?_)
        · have c_79 : z_78.toInt = (0 : Int) := tl_eq c_79
          refine lv_iload_n hx hb dX10_measure_134 rfl (lv_at hl 0 rfl) ?_
          refine lv_if_eq (tgt := 168) hx hb dX10_measure_135 (by decide) (fun _ => ?_) (fun c => absurd c (by decide))
          obtain ⟨z_80, ez_80⟩ : ∃ y : Int32, y = v1 + 1 := ⟨_, rfl⟩
          refine lv_iinc (v := z_80) (lv' := [(1, .int z_80), (3, .int 0), (2, .int z_59), (0, .ref o)]) hx hb dX10_measure_168 hl (k := 2) rfl (by rw [ez_80]; rfl) (by decide) rfl (fun ls hl => ?_)
          try have iz_80 : z_80.toInt = v1.toInt + 1 := by rw [ez_80]; exact tl_addL v1 1 (by decide) (by omega) (by omega)
          refine lv_goto (tgt := 22) hx hb dX10_measure_171 (by decide) ?_
          exact ih22 (f_71, z_80) H locs ls (by show (300 - z_80.toInt).toNat < (300 - v1.toInt).toNat; omega) ⟨(show 0 ≤ z_80.toInt from (by omega)), (show z_80.toInt ≤ 300 from (by omega)), (show tv_gap (f o) → tv_gap (f_71 o) from (fun q => ⟨_, _, _, hf_72, rfl, rfl, hgx q⟩)), hP, hI, hfr, hS, lv_sub hl [0, 3] rfl⟩
        · have c_79 : ¬ z_78.toInt = (0 : Int) := tl_neq c_79
          refine lv_aload_n hx hb dX10_measure_107 rfl (lv_at hl 3 rfl) ?_
          refine lv_dup hx hb dX10_measure_108 rfl ?_
          refine tp_get (cy := cy) (ci := 10) (v := .int x_45) (C := RX10) (T := TX10) (N := 18) hx hb hta inlX10 hown hK hP ho.1 hf_72 rfl 15 (by decide) (hta _ wk_884) (fun _ h9 => h9) rfl dX10_measure_109 ?_
          refine lv_iconst (v := 1) hx hb dX10_measure_112 (by decide) ?_
          refine lv_iadd hx hb dX10_measure_113 ?_
          refine lv_topi (fun z_81 ez_81 => ?_)
          try have iz_81 : z_81.toInt = x_45.toInt + (1 : Int) := by rw [ez_81]; exact tl_addN x_45 1 rfl rfl (by omega) (by omega)
          have hI9 : tp_I cy L K Γ (va_up f_71 o (.inr (10, [.ref x_30, .ref x_31, .ref x_32, .ref x_33, .ref x_34, .ref x_35, .ref x_36, .ref x_37, .ref x_38, .int x_39, .int x_40, .int x_41, .int x_42, .int x_43, .int x_44, .int z_81, .long x_46, .long x_47]))) := hI.set ho (show tp_o_VIEW L K (0) 0 (Γ (27, 0, 0)) _ from ⟨x_30, x_31, x_32, x_33, x_34, x_35, x_36, x_37, x_38, x_39, x_40, x_41, x_42, x_43, x_44, z_81, x_46, x_47, rfl, hx_30, hx_31, hx_32, hx_33, hx_34, hx_35, hx_36, hx_37, hx_38, (show 0 ≤ x_40.toInt ∧ x_40.toInt ≤ 9999 from by omega), (show 0 ≤ x_43.toInt ∧ x_43.toInt ≤ 42 from by omega)⟩)
          have hfr9 : ∀ b, (K b).1 ∉ ([27, 28] : List Nat) → va_up f_71 o (.inr (10, [.ref x_30, .ref x_31, .ref x_32, .ref x_33, .ref x_34, .ref x_35, .ref x_36, .ref x_37, .ref x_38, .int x_39, .int x_40, .int x_41, .int x_42, .int x_43, .int x_44, .int z_81, .long x_46, .long x_47])) b = f b := tp_fr hfr ho (by decide)
          refine tp_put (cy := cy) (ci := 10) (v := .int z_81) (ty := tyX10 15) (C := RX10) (T := TX10) (N := 18) hx hb hta inlX10 tyX10 tyX10_ok nmX10 hown hK hP hD hS ho.1 hf_72 rfl 15 (by decide) (hta _ wk_884) (fun _ h9 => h9) rfl (tyX10_ok 15 (by decide)) rfl rfl (Nat.le_of_ble_eq_true rfl) dX10_measure_114 (fun H locs hP hD hS => ?_)
          have hP : va_P D vwCl (va_pl L (va_up f_71 o (.inr (10, [.ref x_30, .ref x_31, .ref x_32, .ref x_33, .ref x_34, .ref x_35, .ref x_36, .ref x_37, .ref x_38, .int x_39, .int x_40, .int x_41, .int x_42, .int x_43, .int x_44, .int z_81, .long x_46, .long x_47])))) H := hP
          generalize hfe : va_up f_71 o (.inr (10, [.ref x_30, .ref x_31, .ref x_32, .ref x_33, .ref x_34, .ref x_35, .ref x_36, .ref x_37, .ref x_38, .int x_39, .int x_40, .int x_41, .int x_42, .int x_43, .int x_44, .int z_81, .long x_46, .long x_47])) = f_82 at hP hI9 hfr9
          have hD : va_D A (va_pl L f_82) := tp_D hL hAL
          have hf_83 : f_82 o = .inr (10, [.ref x_30, .ref x_31, .ref x_32, .ref x_33, .ref x_34, .ref x_35, .ref x_36, .ref x_37, .ref x_38, .int x_39, .int x_40, .int x_41, .int x_42, .int x_43, .int x_44, .int z_81, .long x_46, .long x_47]) := by rw [← hfe]; exact va_up_self _ _ _
          have hf_84 := (show f_82 x_32 = _ from by rw [← hfe, va_up_ne _ _ (tp_ne hx_32 ho (by decide))]).trans hf_74
          clear hfe
          have hI := hI9
          have hfr := hfr9
          clear hI9 hfr9
          refine lv_aload_n hx hb dX10_measure_117 rfl (lv_at hl 3 rfl) ?_
          refine lv_dup hx hb dX10_measure_118 rfl ?_
          refine tp_get (cy := cy) (ci := 10) (v := .long x_47) (C := RX10) (T := TX10) (N := 18) hx hb hta inlX10 hown hK hP ho.1 hf_83 rfl 17 (by decide) (hta _ wk_886) (fun _ h9 => h9) rfl dX10_measure_119 ?_
          refine lv_iload_n hx hb dX10_measure_122 rfl (lv_at hl 1 rfl) ?_
          refine va_mabs hx hb (by rw [hml]; exact hl.1.symm) hown (hta _ wk_887) (hta _ wk_888) (hta _ wk_83) (hta _ wk_889) (Nat.le_of_ble_eq_true rfl) (Nat.le_of_ble_eq_true rfl) (Nat.le_of_ble_eq_true rfl) (Nat.le_of_ble_eq_true rfl) dX10_measure_123 ?_
          refine lv_topi (fun z_85 ez_85 => ?_)
          have iz_85 : (z_85.toInt = z_59.toInt ∧ 0 ≤ z_59.toInt) ∨ (z_59.toInt < 0 ∧ (z_85.toInt = -z_59.toInt ∨ z_59.toInt = -2147483648)) := by rw [ez_85]; exact tl_absF
          refine lv_i2l (v := z_85.toInt64) hx hb dX10_measure_126 (by first | rfl | decide) ?_
          refine lv_ladd hx hb dX10_measure_127 ?_
          refine lv_topl (fun z_86 ez_86 => ?_)
          have hI9 : tp_I cy L K Γ (va_up f_82 o (.inr (10, [.ref x_30, .ref x_31, .ref x_32, .ref x_33, .ref x_34, .ref x_35, .ref x_36, .ref x_37, .ref x_38, .int x_39, .int x_40, .int x_41, .int x_42, .int x_43, .int x_44, .int z_81, .long x_46, .long z_86]))) := hI.set ho (show tp_o_VIEW L K (0) 0 (Γ (27, 0, 0)) _ from ⟨x_30, x_31, x_32, x_33, x_34, x_35, x_36, x_37, x_38, x_39, x_40, x_41, x_42, x_43, x_44, z_81, x_46, z_86, rfl, hx_30, hx_31, hx_32, hx_33, hx_34, hx_35, hx_36, hx_37, hx_38, (show 0 ≤ x_40.toInt ∧ x_40.toInt ≤ 9999 from by omega), (show 0 ≤ x_43.toInt ∧ x_43.toInt ≤ 42 from by omega)⟩)
          have hfr9 : ∀ b, (K b).1 ∉ ([27, 28] : List Nat) → va_up f_82 o (.inr (10, [.ref x_30, .ref x_31, .ref x_32, .ref x_33, .ref x_34, .ref x_35, .ref x_36, .ref x_37, .ref x_38, .int x_39, .int x_40, .int x_41, .int x_42, .int x_43, .int x_44, .int z_81, .long x_46, .long z_86])) b = f b := tp_fr hfr ho (by decide)
          refine tp_put (cy := cy) (ci := 10) (v := .long z_86) (ty := tyX10 17) (C := RX10) (T := TX10) (N := 18) hx hb hta inlX10 tyX10 tyX10_ok nmX10 hown hK hP hD hS ho.1 hf_83 rfl 17 (by decide) (hta _ wk_886) (fun _ h9 => h9) rfl (tyX10_ok 17 (by decide)) rfl rfl (Nat.le_of_ble_eq_true rfl) dX10_measure_128 (fun H locs hP hD hS => ?_)
          have hP : va_P D vwCl (va_pl L (va_up f_82 o (.inr (10, [.ref x_30, .ref x_31, .ref x_32, .ref x_33, .ref x_34, .ref x_35, .ref x_36, .ref x_37, .ref x_38, .int x_39, .int x_40, .int x_41, .int x_42, .int x_43, .int x_44, .int z_81, .long x_46, .long z_86])))) H := hP
          generalize hfe : va_up f_82 o (.inr (10, [.ref x_30, .ref x_31, .ref x_32, .ref x_33, .ref x_34, .ref x_35, .ref x_36, .ref x_37, .ref x_38, .int x_39, .int x_40, .int x_41, .int x_42, .int x_43, .int x_44, .int z_81, .long x_46, .long z_86])) = f_87 at hP hI9 hfr9
          have hD : va_D A (va_pl L f_87) := tp_D hL hAL
          have hf_88 : f_87 o = .inr (10, [.ref x_30, .ref x_31, .ref x_32, .ref x_33, .ref x_34, .ref x_35, .ref x_36, .ref x_37, .ref x_38, .int x_39, .int x_40, .int x_41, .int x_42, .int x_43, .int x_44, .int z_81, .long x_46, .long z_86]) := by rw [← hfe]; exact va_up_self _ _ _
          have hf_89 := (show f_87 x_32 = _ from by rw [← hfe, va_up_ne _ _ (tp_ne hx_32 ho (by decide))]).trans hf_84
          clear hfe
          have hI := hI9
          have hfr := hfr9
          clear hI9 hfr9
          refine lv_goto (tgt := 168) hx hb dX10_measure_131 (by decide) ?_
          obtain ⟨z_90, ez_90⟩ : ∃ y : Int32, y = v1 + 1 := ⟨_, rfl⟩
          refine lv_iinc (v := z_90) (lv' := [(1, .int z_90), (3, .int 0), (2, .int z_59), (0, .ref o)]) hx hb dX10_measure_168 hl (k := 2) rfl (by rw [ez_90]; rfl) (by decide) rfl (fun ls hl => ?_)
          try have iz_90 : z_90.toInt = v1.toInt + 1 := by rw [ez_90]; exact tl_addL v1 1 (by decide) (by omega) (by omega)
          refine lv_goto (tgt := 22) hx hb dX10_measure_171 (by decide) ?_
          exact ih22 (f_87, z_90) H locs ls (by show (300 - z_90.toInt).toNat < (300 - v1.toInt).toNat; omega) ⟨(show 0 ≤ z_90.toInt from (by omega)), (show z_90.toInt ≤ 300 from (by omega)), (show tv_gap (f o) → tv_gap (f_87 o) from (fun q => ⟨_, _, _, hf_88, rfl, rfl, hgx q⟩)), hP, hI, hfr, hS, lv_sub hl [0, 3] rfl⟩
      · have c_66 : ¬ z_65.toInt = (0 : Int) := tl_neq c_66
        refine lv_iload_n hx hb dX10_measure_79 rfl (lv_at hl 0 rfl) ?_
        refine lv_if_ne (tgt := 96) hx hb dX10_measure_80 (by decide) (fun c => absurd c (by decide)) (fun _ => ?_)
        refine lv_aload_n hx hb dX10_measure_83 rfl (lv_at hl 3 rfl) ?_
        refine tp_get (cy := cy) (ci := 10) (v := .ref x_31) (C := RX10) (T := TX10) (N := 18) hx hb hta inlX10 hown hK hP ho.1 hf_29 rfl 1 (by decide) (hta _ wk_132) (fun _ h9 => h9) rfl dX10_measure_84 ?_
        refine lv_iload_n hx hb dX10_measure_87 rfl (lv_at hl 2 rfl) ?_
        obtain ⟨g_92, hf_91⟩ := (show tp_az cy (300) (f_28 x_31) from hI.at hx_31)
        have hn_94 : vp_in v1 (300) := tl_in (by omega) (by omega)
        refine tp_zald (cy := cy) hx hb hK hP hx_31.1 hf_91 hn_94 dX10_measure_88 ?_
        refine lv_topi (fun z_95 ez_95 => ?_)
        refine lv_if_ne (tgt := 96) hx hb dX10_measure_89 (by decide) (fun c_96 => ?_) (fun c_96 => ?_)
        · have c_96 : ¬ z_95.toInt = (0 : Int) := tl_neq c_96
          refine lv_iconst (v := 0) hx hb dX10_measure_96 (by decide) ?_
          obtain ⟨g_98, hf_97⟩ := (show tp_az cy (300) (f_28 x_32) from hI.at hx_32)
          have hn_100 : vp_in v1 (300) := tl_in (by omega) (by omega)
          have hI9 : tp_I cy L K Γ (va_up f_28 x_32 (.inl (cy 2, 300, .inl (upd g_98 v1.toNatClampNeg (vp_nar .boolean 0))))) := hI.set hx_32 (show tp_az cy (300) _ from ⟨_, rfl⟩)
          have hfr9 : ∀ b, (K b).1 ∉ ([27, 28] : List Nat) → va_up f_28 x_32 (.inl (cy 2, 300, .inl (upd g_98 v1.toNatClampNeg (vp_nar .boolean 0)))) b = f b := tp_fr hfr hx_32 (by decide)
          refine tp_zast (cy := cy) hx hb hK hP hD hS hx_32.1 hf_97 hn_100 dX10_measure_97 (fun H locs hP hD hS => ?_)
          have hP : va_P D vwCl (va_pl L (va_up f_28 x_32 (.inl (cy 2, 300, .inl (upd g_98 v1.toNatClampNeg (vp_nar .boolean 0)))))) H := hP
          generalize hfe : va_up f_28 x_32 (.inl (cy 2, 300, .inl (upd g_98 v1.toNatClampNeg (vp_nar .boolean 0)))) = f_101 at hP hI9 hfr9
          have hD : va_D A (va_pl L f_101) := tp_D hL hAL
          have hf_102 := (show f_101 o = _ from by rw [← hfe, va_up_ne _ _ (tp_ne ho hx_32 (by decide))]).trans hf_29
          have hf_103 : f_101 x_32 = .inl (cy 2, 300, .inl (upd g_98 v1.toNatClampNeg (vp_nar .boolean 0))) := by rw [← hfe]; exact va_up_self _ _ _
          clear hfe
          have hI := hI9
          have hfr := hfr9
          clear hI9 hfr9
          refine lv_aload_n hx hb dX10_measure_98 rfl (lv_at hl 3 rfl) ?_
          refine tp_get (cy := cy) (ci := 10) (v := .ref x_32) (C := RX10) (T := TX10) (N := 18) hx hb hta inlX10 hown hK hP ho.1 hf_102 rfl 2 (by decide) (hta _ wk_133) (fun _ h9 => h9) rfl dX10_measure_99 ?_
          refine lv_iload_n hx hb dX10_measure_102 rfl (lv_at hl 2 rfl) ?_
          obtain ⟨g_105, hf_104⟩ := (show tp_az cy (300) (f_101 x_32) from hI.at hx_32)
          have hn_107 : vp_in v1 (300) := tl_in (by omega) (by omega)
          refine tp_zald (cy := cy) hx hb hK hP hx_32.1 hf_104 hn_107 dX10_measure_103 ?_
          refine lv_topi (fun z_108 ez_108 => ?_)
          refine lv_if_eq (tgt := 134) hx hb dX10_measure_104 (by decide) (fun c_109 => ?_) (fun c_109 => ?_)
          · have c_109 : z_108.toInt = (0 : Int) := tl_eq c_109
            refine lv_iload_n hx hb dX10_measure_134 rfl (lv_at hl 0 rfl) ?_
            refine lv_if_eq (tgt := 168) hx hb dX10_measure_135 (by decide) (fun _ => ?_) (fun c => absurd c (by decide))
            obtain ⟨z_110, ez_110⟩ : ∃ y : Int32, y = v1 + 1 := ⟨_, rfl⟩
            refine lv_iinc (v := z_110) (lv' := [(1, .int z_110), (3, .int 0), (2, .int z_59), (0, .ref o)]) hx hb dX10_measure_168 hl (k := 2) rfl (by rw [ez_110]; rfl) (by decide) rfl (fun ls hl => ?_)
            try have iz_110 : z_110.toInt = v1.toInt + 1 := by rw [ez_110]; exact tl_addL v1 1 (by decide) (by omega) (by omega)
            refine lv_goto (tgt := 22) hx hb dX10_measure_171 (by decide) ?_
            exact ih22 (f_101, z_110) H locs ls (by show (300 - z_110.toInt).toNat < (300 - v1.toInt).toNat; omega) ⟨(show 0 ≤ z_110.toInt from (by omega)), (show z_110.toInt ≤ 300 from (by omega)), (show tv_gap (f o) → tv_gap (f_101 o) from (fun q => ⟨_, _, _, hf_102, rfl, rfl, hgx q⟩)), hP, hI, hfr, hS, lv_sub hl [0, 3] rfl⟩
          · have c_109 : ¬ z_108.toInt = (0 : Int) := tl_neq c_109
            refine lv_aload_n hx hb dX10_measure_107 rfl (lv_at hl 3 rfl) ?_
            refine lv_dup hx hb dX10_measure_108 rfl ?_
            refine tp_get (cy := cy) (ci := 10) (v := .int x_45) (C := RX10) (T := TX10) (N := 18) hx hb hta inlX10 hown hK hP ho.1 hf_102 rfl 15 (by decide) (hta _ wk_884) (fun _ h9 => h9) rfl dX10_measure_109 ?_
            refine lv_iconst (v := 1) hx hb dX10_measure_112 (by decide) ?_
            refine lv_iadd hx hb dX10_measure_113 ?_
            refine lv_topi (fun z_111 ez_111 => ?_)
            try have iz_111 : z_111.toInt = x_45.toInt + (1 : Int) := by rw [ez_111]; exact tl_addN x_45 1 rfl rfl (by omega) (by omega)
            have hI9 : tp_I cy L K Γ (va_up f_101 o (.inr (10, [.ref x_30, .ref x_31, .ref x_32, .ref x_33, .ref x_34, .ref x_35, .ref x_36, .ref x_37, .ref x_38, .int x_39, .int x_40, .int x_41, .int x_42, .int x_43, .int x_44, .int z_111, .long x_46, .long x_47]))) := hI.set ho (show tp_o_VIEW L K (0) 0 (Γ (27, 0, 0)) _ from ⟨x_30, x_31, x_32, x_33, x_34, x_35, x_36, x_37, x_38, x_39, x_40, x_41, x_42, x_43, x_44, z_111, x_46, x_47, rfl, hx_30, hx_31, hx_32, hx_33, hx_34, hx_35, hx_36, hx_37, hx_38, (show 0 ≤ x_40.toInt ∧ x_40.toInt ≤ 9999 from by omega), (show 0 ≤ x_43.toInt ∧ x_43.toInt ≤ 42 from by omega)⟩)
            have hfr9 : ∀ b, (K b).1 ∉ ([27, 28] : List Nat) → va_up f_101 o (.inr (10, [.ref x_30, .ref x_31, .ref x_32, .ref x_33, .ref x_34, .ref x_35, .ref x_36, .ref x_37, .ref x_38, .int x_39, .int x_40, .int x_41, .int x_42, .int x_43, .int x_44, .int z_111, .long x_46, .long x_47])) b = f b := tp_fr hfr ho (by decide)
            refine tp_put (cy := cy) (ci := 10) (v := .int z_111) (ty := tyX10 15) (C := RX10) (T := TX10) (N := 18) hx hb hta inlX10 tyX10 tyX10_ok nmX10 hown hK hP hD hS ho.1 hf_102 rfl 15 (by decide) (hta _ wk_884) (fun _ h9 => h9) rfl (tyX10_ok 15 (by decide)) rfl rfl (Nat.le_of_ble_eq_true rfl) dX10_measure_114 (fun H locs hP hD hS => ?_)
            have hP : va_P D vwCl (va_pl L (va_up f_101 o (.inr (10, [.ref x_30, .ref x_31, .ref x_32, .ref x_33, .ref x_34, .ref x_35, .ref x_36, .ref x_37, .ref x_38, .int x_39, .int x_40, .int x_41, .int x_42, .int x_43, .int x_44, .int z_111, .long x_46, .long x_47])))) H := hP
            generalize hfe : va_up f_101 o (.inr (10, [.ref x_30, .ref x_31, .ref x_32, .ref x_33, .ref x_34, .ref x_35, .ref x_36, .ref x_37, .ref x_38, .int x_39, .int x_40, .int x_41, .int x_42, .int x_43, .int x_44, .int z_111, .long x_46, .long x_47])) = f_112 at hP hI9 hfr9
            have hD : va_D A (va_pl L f_112) := tp_D hL hAL
            have hf_113 : f_112 o = .inr (10, [.ref x_30, .ref x_31, .ref x_32, .ref x_33, .ref x_34, .ref x_35, .ref x_36, .ref x_37, .ref x_38, .int x_39, .int x_40, .int x_41, .int x_42, .int x_43, .int x_44, .int z_111, .long x_46, .long x_47]) := by rw [← hfe]; exact va_up_self _ _ _
            have hf_114 := (show f_112 x_32 = _ from by rw [← hfe, va_up_ne _ _ (tp_ne hx_32 ho (by decide))]).trans hf_104
            clear hfe
            have hI := hI9
            have hfr := hfr9
            clear hI9 hfr9
            refine lv_aload_n hx hb dX10_measure_117 rfl (lv_at hl 3 rfl) ?_
            refine lv_dup hx hb dX10_measure_118 rfl ?_
            refine tp_get (cy := cy) (ci := 10) (v := .long x_47) (C := RX10) (T := TX10) (N := 18) hx hb hta inlX10 hown hK hP ho.1 hf_113 rfl 17 (by decide) (hta _ wk_886) (fun _ h9 => h9) rfl dX10_measure_119 ?_
            refine lv_iload_n hx hb dX10_measure_122 rfl (lv_at hl 1 rfl) ?_
            refine va_mabs hx hb (by rw [hml]; exact hl.1.symm) hown (hta _ wk_887) (hta _ wk_888) (hta _ wk_83) (hta _ wk_889) (Nat.le_of_ble_eq_true rfl) (Nat.le_of_ble_eq_true rfl) (Nat.le_of_ble_eq_true rfl) (Nat.le_of_ble_eq_true rfl) dX10_measure_123 ?_
            refine lv_topi (fun z_115 ez_115 => ?_)
            have iz_115 : (z_115.toInt = z_59.toInt ∧ 0 ≤ z_59.toInt) ∨ (z_59.toInt < 0 ∧ (z_115.toInt = -z_59.toInt ∨ z_59.toInt = -2147483648)) := by rw [ez_115]; exact tl_absF
            refine lv_i2l (v := z_115.toInt64) hx hb dX10_measure_126 (by first | rfl | decide) ?_
            refine lv_ladd hx hb dX10_measure_127 ?_
            refine lv_topl (fun z_116 ez_116 => ?_)
            have hI9 : tp_I cy L K Γ (va_up f_112 o (.inr (10, [.ref x_30, .ref x_31, .ref x_32, .ref x_33, .ref x_34, .ref x_35, .ref x_36, .ref x_37, .ref x_38, .int x_39, .int x_40, .int x_41, .int x_42, .int x_43, .int x_44, .int z_111, .long x_46, .long z_116]))) := hI.set ho (show tp_o_VIEW L K (0) 0 (Γ (27, 0, 0)) _ from ⟨x_30, x_31, x_32, x_33, x_34, x_35, x_36, x_37, x_38, x_39, x_40, x_41, x_42, x_43, x_44, z_111, x_46, z_116, rfl, hx_30, hx_31, hx_32, hx_33, hx_34, hx_35, hx_36, hx_37, hx_38, (show 0 ≤ x_40.toInt ∧ x_40.toInt ≤ 9999 from by omega), (show 0 ≤ x_43.toInt ∧ x_43.toInt ≤ 42 from by omega)⟩)
            have hfr9 : ∀ b, (K b).1 ∉ ([27, 28] : List Nat) → va_up f_112 o (.inr (10, [.ref x_30, .ref x_31, .ref x_32, .ref x_33, .ref x_34, .ref x_35, .ref x_36, .ref x_37, .ref x_38, .int x_39, .int x_40, .int x_41, .int x_42, .int x_43, .int x_44, .int z_111, .long x_46, .long z_116])) b = f b := tp_fr hfr ho (by decide)
            refine tp_put (cy := cy) (ci := 10) (v := .long z_116) (ty := tyX10 17) (C := RX10) (T := TX10) (N := 18) hx hb hta inlX10 tyX10 tyX10_ok nmX10 hown hK hP hD hS ho.1 hf_113 rfl 17 (by decide) (hta _ wk_886) (fun _ h9 => h9) rfl (tyX10_ok 17 (by decide)) rfl rfl (Nat.le_of_ble_eq_true rfl) dX10_measure_128 (fun H locs hP hD hS => ?_)
            have hP : va_P D vwCl (va_pl L (va_up f_112 o (.inr (10, [.ref x_30, .ref x_31, .ref x_32, .ref x_33, .ref x_34, .ref x_35, .ref x_36, .ref x_37, .ref x_38, .int x_39, .int x_40, .int x_41, .int x_42, .int x_43, .int x_44, .int z_111, .long x_46, .long z_116])))) H := hP
            generalize hfe : va_up f_112 o (.inr (10, [.ref x_30, .ref x_31, .ref x_32, .ref x_33, .ref x_34, .ref x_35, .ref x_36, .ref x_37, .ref x_38, .int x_39, .int x_40, .int x_41, .int x_42, .int x_43, .int x_44, .int z_111, .long x_46, .long z_116])) = f_117 at hP hI9 hfr9
            have hD : va_D A (va_pl L f_117) := tp_D hL hAL
            have hf_118 : f_117 o = .inr (10, [.ref x_30, .ref x_31, .ref x_32, .ref x_33, .ref x_34, .ref x_35, .ref x_36, .ref x_37, .ref x_38, .int x_39, .int x_40, .int x_41, .int x_42, .int x_43, .int x_44, .int z_111, .long x_46, .long z_116]) := by rw [← hfe]; exact va_up_self _ _ _
            have hf_119 := (show f_117 x_32 = _ from by rw [← hfe, va_up_ne _ _ (tp_ne hx_32 ho (by decide))]).trans hf_114
            clear hfe
            have hI := hI9
            have hfr := hfr9
            clear hI9 hfr9
            refine lv_goto (tgt := 168) hx hb dX10_measure_131 (by decide) ?_
            obtain ⟨z_120, ez_120⟩ : ∃ y : Int32, y = v1 + 1 := ⟨_, rfl⟩
            refine lv_iinc (v := z_120) (lv' := [(1, .int z_120), (3, .int 0), (2, .int z_59), (0, .ref o)]) hx hb dX10_measure_168 hl (k := 2) rfl (by rw [ez_120]; rfl) (by decide) rfl (fun ls hl => ?_)
            try have iz_120 : z_120.toInt = v1.toInt + 1 := by rw [ez_120]; exact tl_addL v1 1 (by decide) (by omega) (by omega)
            refine lv_goto (tgt := 22) hx hb dX10_measure_171 (by decide) ?_
            exact ih22 (f_117, z_120) H locs ls (by show (300 - z_120.toInt).toNat < (300 - v1.toInt).toNat; omega) ⟨(show 0 ≤ z_120.toInt from (by omega)), (show z_120.toInt ≤ 300 from (by omega)), (show tv_gap (f o) → tv_gap (f_117 o) from (fun q => ⟨_, _, _, hf_118, rfl, rfl, hgx q⟩)), hP, hI, hfr, hS, lv_sub hl [0, 3] rfl⟩
        · have c_96 : z_95.toInt = (0 : Int) := tl_eq c_96
          refine lv_iconst (v := 1) hx hb dX10_measure_92 (by decide) ?_
          refine lv_goto (tgt := 97) hx hb dX10_measure_93 (by decide) ?_
          obtain ⟨g_122, hf_121⟩ := (show tp_az cy (300) (f_28 x_32) from hI.at hx_32)
          have hn_124 : vp_in v1 (300) := tl_in (by omega) (by omega)
          have hI9 : tp_I cy L K Γ (va_up f_28 x_32 (.inl (cy 2, 300, .inl (upd g_122 v1.toNatClampNeg (vp_nar .boolean 1))))) := hI.set hx_32 (show tp_az cy (300) _ from ⟨_, rfl⟩)
          have hfr9 : ∀ b, (K b).1 ∉ ([27, 28] : List Nat) → va_up f_28 x_32 (.inl (cy 2, 300, .inl (upd g_122 v1.toNatClampNeg (vp_nar .boolean 1)))) b = f b := tp_fr hfr hx_32 (by decide)
          refine tp_zast (cy := cy) hx hb hK hP hD hS hx_32.1 hf_121 hn_124 dX10_measure_97 (fun H locs hP hD hS => ?_)
          have hP : va_P D vwCl (va_pl L (va_up f_28 x_32 (.inl (cy 2, 300, .inl (upd g_122 v1.toNatClampNeg (vp_nar .boolean 1)))))) H := hP
          generalize hfe : va_up f_28 x_32 (.inl (cy 2, 300, .inl (upd g_122 v1.toNatClampNeg (vp_nar .boolean 1)))) = f_125 at hP hI9 hfr9
          have hD : va_D A (va_pl L f_125) := tp_D hL hAL
          have hf_126 := (show f_125 o = _ from by rw [← hfe, va_up_ne _ _ (tp_ne ho hx_32 (by decide))]).trans hf_29
          have hf_127 : f_125 x_32 = .inl (cy 2, 300, .inl (upd g_122 v1.toNatClampNeg (vp_nar .boolean 1))) := by rw [← hfe]; exact va_up_self _ _ _
          clear hfe
          have hI := hI9
          have hfr := hfr9
          clear hI9 hfr9
          refine lv_aload_n hx hb dX10_measure_98 rfl (lv_at hl 3 rfl) ?_
          refine tp_get (cy := cy) (ci := 10) (v := .ref x_32) (C := RX10) (T := TX10) (N := 18) hx hb hta inlX10 hown hK hP ho.1 hf_126 rfl 2 (by decide) (hta _ wk_133) (fun _ h9 => h9) rfl dX10_measure_99 ?_
          refine lv_iload_n hx hb dX10_measure_102 rfl (lv_at hl 2 rfl) ?_
          obtain ⟨g_129, hf_128⟩ := (show tp_az cy (300) (f_125 x_32) from hI.at hx_32)
          have hn_131 : vp_in v1 (300) := tl_in (by omega) (by omega)
          refine tp_zald (cy := cy) hx hb hK hP hx_32.1 hf_128 hn_131 dX10_measure_103 ?_
          refine lv_topi (fun z_132 ez_132 => ?_)
          refine lv_if_eq (tgt := 134) hx hb dX10_measure_104 (by decide) (fun c_133 => ?_) (fun c_133 => ?_)
          · have c_133 : z_132.toInt = (0 : Int) := tl_eq c_133
            refine lv_iload_n hx hb dX10_measure_134 rfl (lv_at hl 0 rfl) ?_
            refine lv_if_eq (tgt := 168) hx hb dX10_measure_135 (by decide) (fun _ => ?_) (fun c => absurd c (by decide))
            obtain ⟨z_134, ez_134⟩ : ∃ y : Int32, y = v1 + 1 := ⟨_, rfl⟩
            refine lv_iinc (v := z_134) (lv' := [(1, .int z_134), (3, .int 0), (2, .int z_59), (0, .ref o)]) hx hb dX10_measure_168 hl (k := 2) rfl (by rw [ez_134]; rfl) (by decide) rfl (fun ls hl => ?_)
            try have iz_134 : z_134.toInt = v1.toInt + 1 := by rw [ez_134]; exact tl_addL v1 1 (by decide) (by omega) (by omega)
            refine lv_goto (tgt := 22) hx hb dX10_measure_171 (by decide) ?_
            exact ih22 (f_125, z_134) H locs ls (by show (300 - z_134.toInt).toNat < (300 - v1.toInt).toNat; omega) ⟨(show 0 ≤ z_134.toInt from (by omega)), (show z_134.toInt ≤ 300 from (by omega)), (show tv_gap (f o) → tv_gap (f_125 o) from (fun q => ⟨_, _, _, hf_126, rfl, rfl, hgx q⟩)), hP, hI, hfr, hS, lv_sub hl [0, 3] rfl⟩
          · have c_133 : ¬ z_132.toInt = (0 : Int) := tl_neq c_133
            refine lv_aload_n hx hb dX10_measure_107 rfl (lv_at hl 3 rfl) ?_
            refine lv_dup hx hb dX10_measure_108 rfl ?_
            refine tp_get (cy := cy) (ci := 10) (v := .int x_45) (C := RX10) (T := TX10) (N := 18) hx hb hta inlX10 hown hK hP ho.1 hf_126 rfl 15 (by decide) (hta _ wk_884) (fun _ h9 => h9) rfl dX10_measure_109 ?_
            refine lv_iconst (v := 1) hx hb dX10_measure_112 (by decide) ?_
            refine lv_iadd hx hb dX10_measure_113 ?_
            refine lv_topi (fun z_135 ez_135 => ?_)
            try have iz_135 : z_135.toInt = x_45.toInt + (1 : Int) := by rw [ez_135]; exact tl_addN x_45 1 rfl rfl (by omega) (by omega)
            have hI9 : tp_I cy L K Γ (va_up f_125 o (.inr (10, [.ref x_30, .ref x_31, .ref x_32, .ref x_33, .ref x_34, .ref x_35, .ref x_36, .ref x_37, .ref x_38, .int x_39, .int x_40, .int x_41, .int x_42, .int x_43, .int x_44, .int z_135, .long x_46, .long x_47]))) := hI.set ho (show tp_o_VIEW L K (0) 0 (Γ (27, 0, 0)) _ from ⟨x_30, x_31, x_32, x_33, x_34, x_35, x_36, x_37, x_38, x_39, x_40, x_41, x_42, x_43, x_44, z_135, x_46, x_47, rfl, hx_30, hx_31, hx_32, hx_33, hx_34, hx_35, hx_36, hx_37, hx_38, (show 0 ≤ x_40.toInt ∧ x_40.toInt ≤ 9999 from by omega), (show 0 ≤ x_43.toInt ∧ x_43.toInt ≤ 42 from by omega)⟩)
            have hfr9 : ∀ b, (K b).1 ∉ ([27, 28] : List Nat) → va_up f_125 o (.inr (10, [.ref x_30, .ref x_31, .ref x_32, .ref x_33, .ref x_34, .ref x_35, .ref x_36, .ref x_37, .ref x_38, .int x_39, .int x_40, .int x_41, .int x_42, .int x_43, .int x_44, .int z_135, .long x_46, .long x_47])) b = f b := tp_fr hfr ho (by decide)
            refine tp_put (cy := cy) (ci := 10) (v := .int z_135) (ty := tyX10 15) (C := RX10) (T := TX10) (N := 18) hx hb hta inlX10 tyX10 tyX10_ok nmX10 hown hK hP hD hS ho.1 hf_126 rfl 15 (by decide) (hta _ wk_884) (fun _ h9 => h9) rfl (tyX10_ok 15 (by decide)) rfl rfl (Nat.le_of_ble_eq_true rfl) dX10_measure_114 (fun H locs hP hD hS => ?_)
            have hP : va_P D vwCl (va_pl L (va_up f_125 o (.inr (10, [.ref x_30, .ref x_31, .ref x_32, .ref x_33, .ref x_34, .ref x_35, .ref x_36, .ref x_37, .ref x_38, .int x_39, .int x_40, .int x_41, .int x_42, .int x_43, .int x_44, .int z_135, .long x_46, .long x_47])))) H := hP
            generalize hfe : va_up f_125 o (.inr (10, [.ref x_30, .ref x_31, .ref x_32, .ref x_33, .ref x_34, .ref x_35, .ref x_36, .ref x_37, .ref x_38, .int x_39, .int x_40, .int x_41, .int x_42, .int x_43, .int x_44, .int z_135, .long x_46, .long x_47])) = f_136 at hP hI9 hfr9
            have hD : va_D A (va_pl L f_136) := tp_D hL hAL
            have hf_137 : f_136 o = .inr (10, [.ref x_30, .ref x_31, .ref x_32, .ref x_33, .ref x_34, .ref x_35, .ref x_36, .ref x_37, .ref x_38, .int x_39, .int x_40, .int x_41, .int x_42, .int x_43, .int x_44, .int z_135, .long x_46, .long x_47]) := by rw [← hfe]; exact va_up_self _ _ _
            have hf_138 := (show f_136 x_32 = _ from by rw [← hfe, va_up_ne _ _ (tp_ne hx_32 ho (by decide))]).trans hf_128
            clear hfe
            have hI := hI9
            have hfr := hfr9
            clear hI9 hfr9
            refine lv_aload_n hx hb dX10_measure_117 rfl (lv_at hl 3 rfl) ?_
            refine lv_dup hx hb dX10_measure_118 rfl ?_
            refine tp_get (cy := cy) (ci := 10) (v := .long x_47) (C := RX10) (T := TX10) (N := 18) hx hb hta inlX10 hown hK hP ho.1 hf_137 rfl 17 (by decide) (hta _ wk_886) (fun _ h9 => h9) rfl dX10_measure_119 ?_
            refine lv_iload_n hx hb dX10_measure_122 rfl (lv_at hl 1 rfl) ?_
            refine va_mabs hx hb (by rw [hml]; exact hl.1.symm) hown (hta _ wk_887) (hta _ wk_888) (hta _ wk_83) (hta _ wk_889) (Nat.le_of_ble_eq_true rfl) (Nat.le_of_ble_eq_true rfl) (Nat.le_of_ble_eq_true rfl) (Nat.le_of_ble_eq_true rfl) dX10_measure_123 ?_
            refine lv_topi (fun z_139 ez_139 => ?_)
            have iz_139 : (z_139.toInt = z_59.toInt ∧ 0 ≤ z_59.toInt) ∨ (z_59.toInt < 0 ∧ (z_139.toInt = -z_59.toInt ∨ z_59.toInt = -2147483648)) := by rw [ez_139]; exact tl_absF
            refine lv_i2l (v := z_139.toInt64) hx hb dX10_measure_126 (by first | rfl | decide) ?_
            refine lv_ladd hx hb dX10_measure_127 ?_
            refine lv_topl (fun z_140 ez_140 => ?_)
            have hI9 : tp_I cy L K Γ (va_up f_136 o (.inr (10, [.ref x_30, .ref x_31, .ref x_32, .ref x_33, .ref x_34, .ref x_35, .ref x_36, .ref x_37, .ref x_38, .int x_39, .int x_40, .int x_41, .int x_42, .int x_43, .int x_44, .int z_135, .long x_46, .long z_140]))) := hI.set ho (show tp_o_VIEW L K (0) 0 (Γ (27, 0, 0)) _ from ⟨x_30, x_31, x_32, x_33, x_34, x_35, x_36, x_37, x_38, x_39, x_40, x_41, x_42, x_43, x_44, z_135, x_46, z_140, rfl, hx_30, hx_31, hx_32, hx_33, hx_34, hx_35, hx_36, hx_37, hx_38, (show 0 ≤ x_40.toInt ∧ x_40.toInt ≤ 9999 from by omega), (show 0 ≤ x_43.toInt ∧ x_43.toInt ≤ 42 from by omega)⟩)
            have hfr9 : ∀ b, (K b).1 ∉ ([27, 28] : List Nat) → va_up f_136 o (.inr (10, [.ref x_30, .ref x_31, .ref x_32, .ref x_33, .ref x_34, .ref x_35, .ref x_36, .ref x_37, .ref x_38, .int x_39, .int x_40, .int x_41, .int x_42, .int x_43, .int x_44, .int z_135, .long x_46, .long z_140])) b = f b := tp_fr hfr ho (by decide)
            refine tp_put (cy := cy) (ci := 10) (v := .long z_140) (ty := tyX10 17) (C := RX10) (T := TX10) (N := 18) hx hb hta inlX10 tyX10 tyX10_ok nmX10 hown hK hP hD hS ho.1 hf_137 rfl 17 (by decide) (hta _ wk_886) (fun _ h9 => h9) rfl (tyX10_ok 17 (by decide)) rfl rfl (Nat.le_of_ble_eq_true rfl) dX10_measure_128 (fun H locs hP hD hS => ?_)
            have hP : va_P D vwCl (va_pl L (va_up f_136 o (.inr (10, [.ref x_30, .ref x_31, .ref x_32, .ref x_33, .ref x_34, .ref x_35, .ref x_36, .ref x_37, .ref x_38, .int x_39, .int x_40, .int x_41, .int x_42, .int x_43, .int x_44, .int z_135, .long x_46, .long z_140])))) H := hP
            generalize hfe : va_up f_136 o (.inr (10, [.ref x_30, .ref x_31, .ref x_32, .ref x_33, .ref x_34, .ref x_35, .ref x_36, .ref x_37, .ref x_38, .int x_39, .int x_40, .int x_41, .int x_42, .int x_43, .int x_44, .int z_135, .long x_46, .long z_140])) = f_141 at hP hI9 hfr9
            have hD : va_D A (va_pl L f_141) := tp_D hL hAL
            have hf_142 : f_141 o = .inr (10, [.ref x_30, .ref x_31, .ref x_32, .ref x_33, .ref x_34, .ref x_35, .ref x_36, .ref x_37, .ref x_38, .int x_39, .int x_40, .int x_41, .int x_42, .int x_43, .int x_44, .int z_135, .long x_46, .long z_140]) := by rw [← hfe]; exact va_up_self _ _ _
            have hf_143 := (show f_141 x_32 = _ from by rw [← hfe, va_up_ne _ _ (tp_ne hx_32 ho (by decide))]).trans hf_138
            clear hfe
            have hI := hI9
            have hfr := hfr9
            clear hI9 hfr9
            refine lv_goto (tgt := 168) hx hb dX10_measure_131 (by decide) ?_
            obtain ⟨z_144, ez_144⟩ : ∃ y : Int32, y = v1 + 1 := ⟨_, rfl⟩
            refine lv_iinc (v := z_144) (lv' := [(1, .int z_144), (3, .int 0), (2, .int z_59), (0, .ref o)]) hx hb dX10_measure_168 hl (k := 2) rfl (by rw [ez_144]; rfl) (by decide) rfl (fun ls hl => ?_)
            try have iz_144 : z_144.toInt = v1.toInt + 1 := by rw [ez_144]; exact tl_addL v1 1 (by decide) (by omega) (by omega)
            refine lv_goto (tgt := 22) hx hb dX10_measure_171 (by decide) ?_
            exact ih22 (f_141, z_144) H locs ls (by show (300 - z_144.toInt).toNat < (300 - v1.toInt).toNat; omega) ⟨(show 0 ≤ z_144.toInt from (by omega)), (show z_144.toInt ≤ 300 from (by omega)), (show tv_gap (f o) → tv_gap (f_141 o) from (fun q => ⟨_, _, _, hf_142, rfl, rfl, hgx q⟩)), hP, hI, hfr, hS, lv_sub hl [0, 3] rfl⟩
    · have c_60 : x_41.toInt ≤ v1.toInt := tl_nlt c_60
      refine lv_iload_n hx hb dX10_measure_51 rfl (lv_at hl 1 rfl) ?_
      refine lv_aload_n hx hb dX10_measure_52 rfl (lv_at hl 2 rfl) ?_
      refine tp_get (cy := cy) (ci := 10) (v := .int x_42) (C := RX10) (T := TX10) (N := 18) hx hb hta inlX10 hown hK hP ho.1 hf_29 rfl 12 (by decide) (hta _ wk_849) (fun _ h9 => h9) rfl dX10_measure_53 ?_
      refine lv_icmp_gt (tgt := 63) hx hb dX10_measure_56 (by decide) (fun c_145 => ?_) (fun c_145 => ?_)
      · have c_145 : x_42.toInt < v1.toInt := tl_lt c_145
        refine lv_iconst (v := 0) hx hb dX10_measure_63 (by decide) ?_
        refine lv_istore_n (lv' := [(3, .int 0), (2, .int z_59), (1, .int v1), (0, .ref o)]) hx hb dX10_measure_64 rfl hl (by decide) rfl (fun ls hl => ?_)
        refine lv_aload_n hx hb dX10_measure_65 rfl (lv_at hl 3 rfl) ?_
        refine tp_get (cy := cy) (ci := 10) (v := .ref x_32) (C := RX10) (T := TX10) (N := 18) hx hb hta inlX10 hown hK hP ho.1 hf_29 rfl 2 (by decide) (hta _ wk_133) (fun _ h9 => h9) rfl dX10_measure_66 ?_
        refine lv_iload_n hx hb dX10_measure_69 rfl (lv_at hl 2 rfl) ?_
        refine lv_aload_n hx hb dX10_measure_70 rfl (lv_at hl 3 rfl) ?_
        refine tp_get (cy := cy) (ci := 10) (v := .ref x_30) (C := RX10) (T := TX10) (N := 18) hx hb hta inlX10 hown hK hP ho.1 hf_29 rfl 0 (by decide) (hta _ wk_131) (fun _ h9 => h9) rfl dX10_measure_71 ?_
        refine lv_iload_n hx hb dX10_measure_74 rfl (lv_at hl 2 rfl) ?_
        obtain ⟨g_147, hf_146⟩ := (show tp_az cy (300) (f_28 x_30) from hI.at hx_30)
        have hn_149 : vp_in v1 (300) := tl_in (by omega) (by omega)
        refine tp_zald (cy := cy) hx hb hK hP hx_30.1 hf_146 hn_149 dX10_measure_75 ?_
        refine lv_topi (fun z_150 ez_150 => ?_)
        refine lv_if_eq (tgt := 96) hx hb dX10_measure_76 (by decide) (fun c_151 => ?_) (fun c_151 => ?_)
        · have c_151 : z_150.toInt = (0 : Int) := tl_eq c_151
          refine lv_iconst (v := 0) hx hb dX10_measure_96 (by decide) ?_
          obtain ⟨g_153, hf_152⟩ := (show tp_az cy (300) (f_28 x_32) from hI.at hx_32)
          have hn_155 : vp_in v1 (300) := tl_in (by omega) (by omega)
          have hI9 : tp_I cy L K Γ (va_up f_28 x_32 (.inl (cy 2, 300, .inl (upd g_153 v1.toNatClampNeg (vp_nar .boolean 0))))) := hI.set hx_32 (show tp_az cy (300) _ from ⟨_, rfl⟩)
          have hfr9 : ∀ b, (K b).1 ∉ ([27, 28] : List Nat) → va_up f_28 x_32 (.inl (cy 2, 300, .inl (upd g_153 v1.toNatClampNeg (vp_nar .boolean 0)))) b = f b := tp_fr hfr hx_32 (by decide)
          refine tp_zast (cy := cy) hx hb hK hP hD hS hx_32.1 hf_152 hn_155 dX10_measure_97 (fun H locs hP hD hS => ?_)
          have hP : va_P D vwCl (va_pl L (va_up f_28 x_32 (.inl (cy 2, 300, .inl (upd g_153 v1.toNatClampNeg (vp_nar .boolean 0)))))) H := hP
          generalize hfe : va_up f_28 x_32 (.inl (cy 2, 300, .inl (upd g_153 v1.toNatClampNeg (vp_nar .boolean 0)))) = f_156 at hP hI9 hfr9
          have hD : va_D A (va_pl L f_156) := tp_D hL hAL
          have hf_157 := (show f_156 o = _ from by rw [← hfe, va_up_ne _ _ (tp_ne ho hx_32 (by decide))]).trans hf_29
          have hf_158 : f_156 x_32 = .inl (cy 2, 300, .inl (upd g_153 v1.toNatClampNeg (vp_nar .boolean 0))) := by rw [← hfe]; exact va_up_self _ _ _
          clear hfe
          have hI := hI9
          have hfr := hfr9
          clear hI9 hfr9
          refine lv_aload_n hx hb dX10_measure_98 rfl (lv_at hl 3 rfl) ?_
          refine tp_get (cy := cy) (ci := 10) (v := .ref x_32) (C := RX10) (T := TX10) (N := 18) hx hb hta inlX10 hown hK hP ho.1 hf_157 rfl 2 (by decide) (hta _ wk_133) (fun _ h9 => h9) rfl dX10_measure_99 ?_
          refine lv_iload_n hx hb dX10_measure_102 rfl (lv_at hl 2 rfl) ?_
          obtain ⟨g_160, hf_159⟩ := (show tp_az cy (300) (f_156 x_32) from hI.at hx_32)
          have hn_162 : vp_in v1 (300) := tl_in (by omega) (by omega)
          refine tp_zald (cy := cy) hx hb hK hP hx_32.1 hf_159 hn_162 dX10_measure_103 ?_
          refine lv_topi (fun z_163 ez_163 => ?_)
          refine lv_if_eq (tgt := 134) hx hb dX10_measure_104 (by decide) (fun c_164 => ?_) (fun c_164 => ?_)
          · have c_164 : z_163.toInt = (0 : Int) := tl_eq c_164
            refine lv_iload_n hx hb dX10_measure_134 rfl (lv_at hl 0 rfl) ?_
            refine lv_if_eq (tgt := 168) hx hb dX10_measure_135 (by decide) (fun _ => ?_) (fun c => absurd c (by decide))
            obtain ⟨z_165, ez_165⟩ : ∃ y : Int32, y = v1 + 1 := ⟨_, rfl⟩
            refine lv_iinc (v := z_165) (lv' := [(1, .int z_165), (3, .int 0), (2, .int z_59), (0, .ref o)]) hx hb dX10_measure_168 hl (k := 2) rfl (by rw [ez_165]; rfl) (by decide) rfl (fun ls hl => ?_)
            try have iz_165 : z_165.toInt = v1.toInt + 1 := by rw [ez_165]; exact tl_addL v1 1 (by decide) (by omega) (by omega)
            refine lv_goto (tgt := 22) hx hb dX10_measure_171 (by decide) ?_
            exact ih22 (f_156, z_165) H locs ls (by show (300 - z_165.toInt).toNat < (300 - v1.toInt).toNat; omega) ⟨(show 0 ≤ z_165.toInt from (by omega)), (show z_165.toInt ≤ 300 from (by omega)), (show tv_gap (f o) → tv_gap (f_156 o) from (fun q => ⟨_, _, _, hf_157, rfl, rfl, hgx q⟩)), hP, hI, hfr, hS, lv_sub hl [0, 3] rfl⟩
          · have c_164 : ¬ z_163.toInt = (0 : Int) := tl_neq c_164
            refine lv_aload_n hx hb dX10_measure_107 rfl (lv_at hl 3 rfl) ?_
            refine lv_dup hx hb dX10_measure_108 rfl ?_
            refine tp_get (cy := cy) (ci := 10) (v := .int x_45) (C := RX10) (T := TX10) (N := 18) hx hb hta inlX10 hown hK hP ho.1 hf_157 rfl 15 (by decide) (hta _ wk_884) (fun _ h9 => h9) rfl dX10_measure_109 ?_
            refine lv_iconst (v := 1) hx hb dX10_measure_112 (by decide) ?_
            refine lv_iadd hx hb dX10_measure_113 ?_
            refine lv_topi (fun z_166 ez_166 => ?_)
            try have iz_166 : z_166.toInt = x_45.toInt + (1 : Int) := by rw [ez_166]; exact tl_addN x_45 1 rfl rfl (by omega) (by omega)
            have hI9 : tp_I cy L K Γ (va_up f_156 o (.inr (10, [.ref x_30, .ref x_31, .ref x_32, .ref x_33, .ref x_34, .ref x_35, .ref x_36, .ref x_37, .ref x_38, .int x_39, .int x_40, .int x_41, .int x_42, .int x_43, .int x_44, .int z_166, .long x_46, .long x_47]))) := hI.set ho (show tp_o_VIEW L K (0) 0 (Γ (27, 0, 0)) _ from ⟨x_30, x_31, x_32, x_33, x_34, x_35, x_36, x_37, x_38, x_39, x_40, x_41, x_42, x_43, x_44, z_166, x_46, x_47, rfl, hx_30, hx_31, hx_32, hx_33, hx_34, hx_35, hx_36, hx_37, hx_38, (show 0 ≤ x_40.toInt ∧ x_40.toInt ≤ 9999 from by omega), (show 0 ≤ x_43.toInt ∧ x_43.toInt ≤ 42 from by omega)⟩)
            have hfr9 : ∀ b, (K b).1 ∉ ([27, 28] : List Nat) → va_up f_156 o (.inr (10, [.ref x_30, .ref x_31, .ref x_32, .ref x_33, .ref x_34, .ref x_35, .ref x_36, .ref x_37, .ref x_38, .int x_39, .int x_40, .int x_41, .int x_42, .int x_43, .int x_44, .int z_166, .long x_46, .long x_47])) b = f b := tp_fr hfr ho (by decide)
            refine tp_put (cy := cy) (ci := 10) (v := .int z_166) (ty := tyX10 15) (C := RX10) (T := TX10) (N := 18) hx hb hta inlX10 tyX10 tyX10_ok nmX10 hown hK hP hD hS ho.1 hf_157 rfl 15 (by decide) (hta _ wk_884) (fun _ h9 => h9) rfl (tyX10_ok 15 (by decide)) rfl rfl (Nat.le_of_ble_eq_true rfl) dX10_measure_114 (fun H locs hP hD hS => ?_)
            have hP : va_P D vwCl (va_pl L (va_up f_156 o (.inr (10, [.ref x_30, .ref x_31, .ref x_32, .ref x_33, .ref x_34, .ref x_35, .ref x_36, .ref x_37, .ref x_38, .int x_39, .int x_40, .int x_41, .int x_42, .int x_43, .int x_44, .int z_166, .long x_46, .long x_47])))) H := hP
            generalize hfe : va_up f_156 o (.inr (10, [.ref x_30, .ref x_31, .ref x_32, .ref x_33, .ref x_34, .ref x_35, .ref x_36, .ref x_37, .ref x_38, .int x_39, .int x_40, .int x_41, .int x_42, .int x_43, .int x_44, .int z_166, .long x_46, .long x_47])) = f_167 at hP hI9 hfr9
            have hD : va_D A (va_pl L f_167) := tp_D hL hAL
            have hf_168 : f_167 o = .inr (10, [.ref x_30, .ref x_31, .ref x_32, .ref x_33, .ref x_34, .ref x_35, .ref x_36, .ref x_37, .ref x_38, .int x_39, .int x_40, .int x_41, .int x_42, .int x_43, .int x_44, .int z_166, .long x_46, .long x_47]) := by rw [← hfe]; exact va_up_self _ _ _
            have hf_169 := (show f_167 x_32 = _ from by rw [← hfe, va_up_ne _ _ (tp_ne hx_32 ho (by decide))]).trans hf_159
            clear hfe
            have hI := hI9
            have hfr := hfr9
            clear hI9 hfr9
            refine lv_aload_n hx hb dX10_measure_117 rfl (lv_at hl 3 rfl) ?_
            refine lv_dup hx hb dX10_measure_118 rfl ?_
            refine tp_get (cy := cy) (ci := 10) (v := .long x_47) (C := RX10) (T := TX10) (N := 18) hx hb hta inlX10 hown hK hP ho.1 hf_168 rfl 17 (by decide) (hta _ wk_886) (fun _ h9 => h9) rfl dX10_measure_119 ?_
            refine lv_iload_n hx hb dX10_measure_122 rfl (lv_at hl 1 rfl) ?_
            refine va_mabs hx hb (by rw [hml]; exact hl.1.symm) hown (hta _ wk_887) (hta _ wk_888) (hta _ wk_83) (hta _ wk_889) (Nat.le_of_ble_eq_true rfl) (Nat.le_of_ble_eq_true rfl) (Nat.le_of_ble_eq_true rfl) (Nat.le_of_ble_eq_true rfl) dX10_measure_123 ?_
            refine lv_topi (fun z_170 ez_170 => ?_)
            have iz_170 : (z_170.toInt = z_59.toInt ∧ 0 ≤ z_59.toInt) ∨ (z_59.toInt < 0 ∧ (z_170.toInt = -z_59.toInt ∨ z_59.toInt = -2147483648)) := by rw [ez_170]; exact tl_absF
            refine lv_i2l (v := z_170.toInt64) hx hb dX10_measure_126 (by first | rfl | decide) ?_
            refine lv_ladd hx hb dX10_measure_127 ?_
            refine lv_topl (fun z_171 ez_171 => ?_)
            have hI9 : tp_I cy L K Γ (va_up f_167 o (.inr (10, [.ref x_30, .ref x_31, .ref x_32, .ref x_33, .ref x_34, .ref x_35, .ref x_36, .ref x_37, .ref x_38, .int x_39, .int x_40, .int x_41, .int x_42, .int x_43, .int x_44, .int z_166, .long x_46, .long z_171]))) := hI.set ho (show tp_o_VIEW L K (0) 0 (Γ (27, 0, 0)) _ from ⟨x_30, x_31, x_32, x_33, x_34, x_35, x_36, x_37, x_38, x_39, x_40, x_41, x_42, x_43, x_44, z_166, x_46, z_171, rfl, hx_30, hx_31, hx_32, hx_33, hx_34, hx_35, hx_36, hx_37, hx_38, (show 0 ≤ x_40.toInt ∧ x_40.toInt ≤ 9999 from by omega), (show 0 ≤ x_43.toInt ∧ x_43.toInt ≤ 42 from by omega)⟩)
            have hfr9 : ∀ b, (K b).1 ∉ ([27, 28] : List Nat) → va_up f_167 o (.inr (10, [.ref x_30, .ref x_31, .ref x_32, .ref x_33, .ref x_34, .ref x_35, .ref x_36, .ref x_37, .ref x_38, .int x_39, .int x_40, .int x_41, .int x_42, .int x_43, .int x_44, .int z_166, .long x_46, .long z_171])) b = f b := tp_fr hfr ho (by decide)
            refine tp_put (cy := cy) (ci := 10) (v := .long z_171) (ty := tyX10 17) (C := RX10) (T := TX10) (N := 18) hx hb hta inlX10 tyX10 tyX10_ok nmX10 hown hK hP hD hS ho.1 hf_168 rfl 17 (by decide) (hta _ wk_886) (fun _ h9 => h9) rfl (tyX10_ok 17 (by decide)) rfl rfl (Nat.le_of_ble_eq_true rfl) dX10_measure_128 (fun H locs hP hD hS => ?_)
            have hP : va_P D vwCl (va_pl L (va_up f_167 o (.inr (10, [.ref x_30, .ref x_31, .ref x_32, .ref x_33, .ref x_34, .ref x_35, .ref x_36, .ref x_37, .ref x_38, .int x_39, .int x_40, .int x_41, .int x_42, .int x_43, .int x_44, .int z_166, .long x_46, .long z_171])))) H := hP
            generalize hfe : va_up f_167 o (.inr (10, [.ref x_30, .ref x_31, .ref x_32, .ref x_33, .ref x_34, .ref x_35, .ref x_36, .ref x_37, .ref x_38, .int x_39, .int x_40, .int x_41, .int x_42, .int x_43, .int x_44, .int z_166, .long x_46, .long z_171])) = f_172 at hP hI9 hfr9
            have hD : va_D A (va_pl L f_172) := tp_D hL hAL
            have hf_173 : f_172 o = .inr (10, [.ref x_30, .ref x_31, .ref x_32, .ref x_33, .ref x_34, .ref x_35, .ref x_36, .ref x_37, .ref x_38, .int x_39, .int x_40, .int x_41, .int x_42, .int x_43, .int x_44, .int z_166, .long x_46, .long z_171]) := by rw [← hfe]; exact va_up_self _ _ _
            have hf_174 := (show f_172 x_32 = _ from by rw [← hfe, va_up_ne _ _ (tp_ne hx_32 ho (by decide))]).trans hf_169
            clear hfe
            have hI := hI9
            have hfr := hfr9
            clear hI9 hfr9
            refine lv_goto (tgt := 168) hx hb dX10_measure_131 (by decide) ?_
            obtain ⟨z_175, ez_175⟩ : ∃ y : Int32, y = v1 + 1 := ⟨_, rfl⟩
            refine lv_iinc (v := z_175) (lv' := [(1, .int z_175), (3, .int 0), (2, .int z_59), (0, .ref o)]) hx hb dX10_measure_168 hl (k := 2) rfl (by rw [ez_175]; rfl) (by decide) rfl (fun ls hl => ?_)
            try have iz_175 : z_175.toInt = v1.toInt + 1 := by rw [ez_175]; exact tl_addL v1 1 (by decide) (by omega) (by omega)
            refine lv_goto (tgt := 22) hx hb dX10_measure_171 (by decide) ?_
            exact ih22 (f_172, z_175) H locs ls (by show (300 - z_175.toInt).toNat < (300 - v1.toInt).toNat; omega) ⟨(show 0 ≤ z_175.toInt from (by omega)), (show z_175.toInt ≤ 300 from (by omega)), (show tv_gap (f o) → tv_gap (f_172 o) from (fun q => ⟨_, _, _, hf_173, rfl, rfl, hgx q⟩)), hP, hI, hfr, hS, lv_sub hl [0, 3] rfl⟩
        · have c_151 : ¬ z_150.toInt = (0 : Int) := tl_neq c_151
          refine lv_iload_n hx hb dX10_measure_79 rfl (lv_at hl 0 rfl) ?_
          refine lv_if_ne (tgt := 96) hx hb dX10_measure_80 (by decide) (fun c => absurd c (by decide)) (fun _ => ?_)
          refine lv_aload_n hx hb dX10_measure_83 rfl (lv_at hl 3 rfl) ?_
          refine tp_get (cy := cy) (ci := 10) (v := .ref x_31) (C := RX10) (T := TX10) (N := 18) hx hb hta inlX10 hown hK hP ho.1 hf_29 rfl 1 (by decide) (hta _ wk_132) (fun _ h9 => h9) rfl dX10_measure_84 ?_
          refine lv_iload_n hx hb dX10_measure_87 rfl (lv_at hl 2 rfl) ?_
          obtain ⟨g_177, hf_176⟩ := (show tp_az cy (300) (f_28 x_31) from hI.at hx_31)
          have hn_179 : vp_in v1 (300) := tl_in (by omega) (by omega)
          refine tp_zald (cy := cy) hx hb hK hP hx_31.1 hf_176 hn_179 dX10_measure_88 ?_
          refine lv_topi (fun z_180 ez_180 => ?_)
          refine lv_if_ne (tgt := 96) hx hb dX10_measure_89 (by decide) (fun c_181 => ?_) (fun c_181 => ?_)
          · have c_181 : ¬ z_180.toInt = (0 : Int) := tl_neq c_181
            refine lv_iconst (v := 0) hx hb dX10_measure_96 (by decide) ?_
            obtain ⟨g_183, hf_182⟩ := (show tp_az cy (300) (f_28 x_32) from hI.at hx_32)
            have hn_185 : vp_in v1 (300) := tl_in (by omega) (by omega)
            have hI9 : tp_I cy L K Γ (va_up f_28 x_32 (.inl (cy 2, 300, .inl (upd g_183 v1.toNatClampNeg (vp_nar .boolean 0))))) := hI.set hx_32 (show tp_az cy (300) _ from ⟨_, rfl⟩)
            have hfr9 : ∀ b, (K b).1 ∉ ([27, 28] : List Nat) → va_up f_28 x_32 (.inl (cy 2, 300, .inl (upd g_183 v1.toNatClampNeg (vp_nar .boolean 0)))) b = f b := tp_fr hfr hx_32 (by decide)
            refine tp_zast (cy := cy) hx hb hK hP hD hS hx_32.1 hf_182 hn_185 dX10_measure_97 (fun H locs hP hD hS => ?_)
            have hP : va_P D vwCl (va_pl L (va_up f_28 x_32 (.inl (cy 2, 300, .inl (upd g_183 v1.toNatClampNeg (vp_nar .boolean 0)))))) H := hP
            generalize hfe : va_up f_28 x_32 (.inl (cy 2, 300, .inl (upd g_183 v1.toNatClampNeg (vp_nar .boolean 0)))) = f_186 at hP hI9 hfr9
            have hD : va_D A (va_pl L f_186) := tp_D hL hAL
            have hf_187 := (show f_186 o = _ from by rw [← hfe, va_up_ne _ _ (tp_ne ho hx_32 (by decide))]).trans hf_29
            have hf_188 : f_186 x_32 = .inl (cy 2, 300, .inl (upd g_183 v1.toNatClampNeg (vp_nar .boolean 0))) := by rw [← hfe]; exact va_up_self _ _ _
            clear hfe
            have hI := hI9
            have hfr := hfr9
            clear hI9 hfr9
            refine lv_aload_n hx hb dX10_measure_98 rfl (lv_at hl 3 rfl) ?_
            refine tp_get (cy := cy) (ci := 10) (v := .ref x_32) (C := RX10) (T := TX10) (N := 18) hx hb hta inlX10 hown hK hP ho.1 hf_187 rfl 2 (by decide) (hta _ wk_133) (fun _ h9 => h9) rfl dX10_measure_99 ?_
            refine lv_iload_n hx hb dX10_measure_102 rfl (lv_at hl 2 rfl) ?_
            obtain ⟨g_190, hf_189⟩ := (show tp_az cy (300) (f_186 x_32) from hI.at hx_32)
            have hn_192 : vp_in v1 (300) := tl_in (by omega) (by omega)
            refine tp_zald (cy := cy) hx hb hK hP hx_32.1 hf_189 hn_192 dX10_measure_103 ?_
            refine lv_topi (fun z_193 ez_193 => ?_)
            refine lv_if_eq (tgt := 134) hx hb dX10_measure_104 (by decide) (fun c_194 => ?_) (fun c_194 => ?_)
            · have c_194 : z_193.toInt = (0 : Int) := tl_eq c_194
              refine lv_iload_n hx hb dX10_measure_134 rfl (lv_at hl 0 rfl) ?_
              refine lv_if_eq (tgt := 168) hx hb dX10_measure_135 (by decide) (fun _ => ?_) (fun c => absurd c (by decide))
              obtain ⟨z_195, ez_195⟩ : ∃ y : Int32, y = v1 + 1 := ⟨_, rfl⟩
              refine lv_iinc (v := z_195) (lv' := [(1, .int z_195), (3, .int 0), (2, .int z_59), (0, .ref o)]) hx hb dX10_measure_168 hl (k := 2) rfl (by rw [ez_195]; rfl) (by decide) rfl (fun ls hl => ?_)
              try have iz_195 : z_195.toInt = v1.toInt + 1 := by rw [ez_195]; exact tl_addL v1 1 (by decide) (by omega) (by omega)
              refine lv_goto (tgt := 22) hx hb dX10_measure_171 (by decide) ?_
              exact ih22 (f_186, z_195) H locs ls (by show (300 - z_195.toInt).toNat < (300 - v1.toInt).toNat; omega) ⟨(show 0 ≤ z_195.toInt from (by omega)), (show z_195.toInt ≤ 300 from (by omega)), (show tv_gap (f o) → tv_gap (f_186 o) from (fun q => ⟨_, _, _, hf_187, rfl, rfl, hgx q⟩)), hP, hI, hfr, hS, lv_sub hl [0, 3] rfl⟩
            · have c_194 : ¬ z_193.toInt = (0 : Int) := tl_neq c_194
              refine lv_aload_n hx hb dX10_measure_107 rfl (lv_at hl 3 rfl) ?_
              refine lv_dup hx hb dX10_measure_108 rfl ?_
              refine tp_get (cy := cy) (ci := 10) (v := .int x_45) (C := RX10) (T := TX10) (N := 18) hx hb hta inlX10 hown hK hP ho.1 hf_187 rfl 15 (by decide) (hta _ wk_884) (fun _ h9 => h9) rfl dX10_measure_109 ?_
              refine lv_iconst (v := 1) hx hb dX10_measure_112 (by decide) ?_
              refine lv_iadd hx hb dX10_measure_113 ?_
              refine lv_topi (fun z_196 ez_196 => ?_)
              try have iz_196 : z_196.toInt = x_45.toInt + (1 : Int) := by rw [ez_196]; exact tl_addN x_45 1 rfl rfl (by omega) (by omega)
              have hI9 : tp_I cy L K Γ (va_up f_186 o (.inr (10, [.ref x_30, .ref x_31, .ref x_32, .ref x_33, .ref x_34, .ref x_35, .ref x_36, .ref x_37, .ref x_38, .int x_39, .int x_40, .int x_41, .int x_42, .int x_43, .int x_44, .int z_196, .long x_46, .long x_47]))) := hI.set ho (show tp_o_VIEW L K (0) 0 (Γ (27, 0, 0)) _ from ⟨x_30, x_31, x_32, x_33, x_34, x_35, x_36, x_37, x_38, x_39, x_40, x_41, x_42, x_43, x_44, z_196, x_46, x_47, rfl, hx_30, hx_31, hx_32, hx_33, hx_34, hx_35, hx_36, hx_37, hx_38, (show 0 ≤ x_40.toInt ∧ x_40.toInt ≤ 9999 from by omega), (show 0 ≤ x_43.toInt ∧ x_43.toInt ≤ 42 from by omega)⟩)
              have hfr9 : ∀ b, (K b).1 ∉ ([27, 28] : List Nat) → va_up f_186 o (.inr (10, [.ref x_30, .ref x_31, .ref x_32, .ref x_33, .ref x_34, .ref x_35, .ref x_36, .ref x_37, .ref x_38, .int x_39, .int x_40, .int x_41, .int x_42, .int x_43, .int x_44, .int z_196, .long x_46, .long x_47])) b = f b := tp_fr hfr ho (by decide)
              refine tp_put (cy := cy) (ci := 10) (v := .int z_196) (ty := tyX10 15) (C := RX10) (T := TX10) (N := 18) hx hb hta inlX10 tyX10 tyX10_ok nmX10 hown hK hP hD hS ho.1 hf_187 rfl 15 (by decide) (hta _ wk_884) (fun _ h9 => h9) rfl (tyX10_ok 15 (by decide)) rfl rfl (Nat.le_of_ble_eq_true rfl) dX10_measure_114 (fun H locs hP hD hS => ?_)
              have hP : va_P D vwCl (va_pl L (va_up f_186 o (.inr (10, [.ref x_30, .ref x_31, .ref x_32, .ref x_33, .ref x_34, .ref x_35, .ref x_36, .ref x_37, .ref x_38, .int x_39, .int x_40, .int x_41, .int x_42, .int x_43, .int x_44, .int z_196, .long x_46, .long x_47])))) H := hP
              generalize hfe : va_up f_186 o (.inr (10, [.ref x_30, .ref x_31, .ref x_32, .ref x_33, .ref x_34, .ref x_35, .ref x_36, .ref x_37, .ref x_38, .int x_39, .int x_40, .int x_41, .int x_42, .int x_43, .int x_44, .int z_196, .long x_46, .long x_47])) = f_197 at hP hI9 hfr9
              have hD : va_D A (va_pl L f_197) := tp_D hL hAL
              have hf_198 : f_197 o = .inr (10, [.ref x_30, .ref x_31, .ref x_32, .ref x_33, .ref x_34, .ref x_35, .ref x_36, .ref x_37, .ref x_38, .int x_39, .int x_40, .int x_41, .int x_42, .int x_43, .int x_44, .int z_196, .long x_46, .long x_47]) := by rw [← hfe]; exact va_up_self _ _ _
              have hf_199 := (show f_197 x_32 = _ from by rw [← hfe, va_up_ne _ _ (tp_ne hx_32 ho (by decide))]).trans hf_189
              clear hfe
              have hI := hI9
              have hfr := hfr9
              clear hI9 hfr9
              refine lv_aload_n hx hb dX10_measure_117 rfl (lv_at hl 3 rfl) ?_
              refine lv_dup hx hb dX10_measure_118 rfl ?_
              refine tp_get (cy := cy) (ci := 10) (v := .long x_47) (C := RX10) (T := TX10) (N := 18) hx hb hta inlX10 hown hK hP ho.1 hf_198 rfl 17 (by decide) (hta _ wk_886) (fun _ h9 => h9) rfl dX10_measure_119 ?_
              refine lv_iload_n hx hb dX10_measure_122 rfl (lv_at hl 1 rfl) ?_
              refine va_mabs hx hb (by rw [hml]; exact hl.1.symm) hown (hta _ wk_887) (hta _ wk_888) (hta _ wk_83) (hta _ wk_889) (Nat.le_of_ble_eq_true rfl) (Nat.le_of_ble_eq_true rfl) (Nat.le_of_ble_eq_true rfl) (Nat.le_of_ble_eq_true rfl) dX10_measure_123 ?_
              refine lv_topi (fun z_200 ez_200 => ?_)
              have iz_200 : (z_200.toInt = z_59.toInt ∧ 0 ≤ z_59.toInt) ∨ (z_59.toInt < 0 ∧ (z_200.toInt = -z_59.toInt ∨ z_59.toInt = -2147483648)) := by rw [ez_200]; exact tl_absF
              refine lv_i2l (v := z_200.toInt64) hx hb dX10_measure_126 (by first | rfl | decide) ?_
              refine lv_ladd hx hb dX10_measure_127 ?_
              refine lv_topl (fun z_201 ez_201 => ?_)
              have hI9 : tp_I cy L K Γ (va_up f_197 o (.inr (10, [.ref x_30, .ref x_31, .ref x_32, .ref x_33, .ref x_34, .ref x_35, .ref x_36, .ref x_37, .ref x_38, .int x_39, .int x_40, .int x_41, .int x_42, .int x_43, .int x_44, .int z_196, .long x_46, .long z_201]))) := hI.set ho (show tp_o_VIEW L K (0) 0 (Γ (27, 0, 0)) _ from ⟨x_30, x_31, x_32, x_33, x_34, x_35, x_36, x_37, x_38, x_39, x_40, x_41, x_42, x_43, x_44, z_196, x_46, z_201, rfl, hx_30, hx_31, hx_32, hx_33, hx_34, hx_35, hx_36, hx_37, hx_38, (show 0 ≤ x_40.toInt ∧ x_40.toInt ≤ 9999 from by omega), (show 0 ≤ x_43.toInt ∧ x_43.toInt ≤ 42 from by omega)⟩)
              have hfr9 : ∀ b, (K b).1 ∉ ([27, 28] : List Nat) → va_up f_197 o (.inr (10, [.ref x_30, .ref x_31, .ref x_32, .ref x_33, .ref x_34, .ref x_35, .ref x_36, .ref x_37, .ref x_38, .int x_39, .int x_40, .int x_41, .int x_42, .int x_43, .int x_44, .int z_196, .long x_46, .long z_201])) b = f b := tp_fr hfr ho (by decide)
              refine tp_put (cy := cy) (ci := 10) (v := .long z_201) (ty := tyX10 17) (C := RX10) (T := TX10) (N := 18) hx hb hta inlX10 tyX10 tyX10_ok nmX10 hown hK hP hD hS ho.1 hf_198 rfl 17 (by decide) (hta _ wk_886) (fun _ h9 => h9) rfl (tyX10_ok 17 (by decide)) rfl rfl (Nat.le_of_ble_eq_true rfl) dX10_measure_128 (fun H locs hP hD hS => ?_)
              have hP : va_P D vwCl (va_pl L (va_up f_197 o (.inr (10, [.ref x_30, .ref x_31, .ref x_32, .ref x_33, .ref x_34, .ref x_35, .ref x_36, .ref x_37, .ref x_38, .int x_39, .int x_40, .int x_41, .int x_42, .int x_43, .int x_44, .int z_196, .long x_46, .long z_201])))) H := hP
              generalize hfe : va_up f_197 o (.inr (10, [.ref x_30, .ref x_31, .ref x_32, .ref x_33, .ref x_34, .ref x_35, .ref x_36, .ref x_37, .ref x_38, .int x_39, .int x_40, .int x_41, .int x_42, .int x_43, .int x_44, .int z_196, .long x_46, .long z_201])) = f_202 at hP hI9 hfr9
              have hD : va_D A (va_pl L f_202) := tp_D hL hAL
              have hf_203 : f_202 o = .inr (10, [.ref x_30, .ref x_31, .ref x_32, .ref x_33, .ref x_34, .ref x_35, .ref x_36, .ref x_37, .ref x_38, .int x_39, .int x_40, .int x_41, .int x_42, .int x_43, .int x_44, .int z_196, .long x_46, .long z_201]) := by rw [← hfe]; exact va_up_self _ _ _
              have hf_204 := (show f_202 x_32 = _ from by rw [← hfe, va_up_ne _ _ (tp_ne hx_32 ho (by decide))]).trans hf_199
              clear hfe
              have hI := hI9
              have hfr := hfr9
              clear hI9 hfr9
              refine lv_goto (tgt := 168) hx hb dX10_measure_131 (by decide) ?_
              obtain ⟨z_205, ez_205⟩ : ∃ y : Int32, y = v1 + 1 := ⟨_, rfl⟩
              refine lv_iinc (v := z_205) (lv' := [(1, .int z_205), (3, .int 0), (2, .int z_59), (0, .ref o)]) hx hb dX10_measure_168 hl (k := 2) rfl (by rw [ez_205]; rfl) (by decide) rfl (fun ls hl => ?_)
              try have iz_205 : z_205.toInt = v1.toInt + 1 := by rw [ez_205]; exact tl_addL v1 1 (by decide) (by omega) (by omega)
              refine lv_goto (tgt := 22) hx hb dX10_measure_171 (by decide) ?_
              exact ih22 (f_202, z_205) H locs ls (by show (300 - z_205.toInt).toNat < (300 - v1.toInt).toNat; omega) ⟨(show 0 ≤ z_205.toInt from (by omega)), (show z_205.toInt ≤ 300 from (by omega)), (show tv_gap (f o) → tv_gap (f_202 o) from (fun q => ⟨_, _, _, hf_203, rfl, rfl, hgx q⟩)), hP, hI, hfr, hS, lv_sub hl [0, 3] rfl⟩
          · have c_181 : z_180.toInt = (0 : Int) := tl_eq c_181
            refine lv_iconst (v := 1) hx hb dX10_measure_92 (by decide) ?_
            refine lv_goto (tgt := 97) hx hb dX10_measure_93 (by decide) ?_
            obtain ⟨g_207, hf_206⟩ := (show tp_az cy (300) (f_28 x_32) from hI.at hx_32)
            have hn_209 : vp_in v1 (300) := tl_in (by omega) (by omega)
            have hI9 : tp_I cy L K Γ (va_up f_28 x_32 (.inl (cy 2, 300, .inl (upd g_207 v1.toNatClampNeg (vp_nar .boolean 1))))) := hI.set hx_32 (show tp_az cy (300) _ from ⟨_, rfl⟩)
            have hfr9 : ∀ b, (K b).1 ∉ ([27, 28] : List Nat) → va_up f_28 x_32 (.inl (cy 2, 300, .inl (upd g_207 v1.toNatClampNeg (vp_nar .boolean 1)))) b = f b := tp_fr hfr hx_32 (by decide)
            refine tp_zast (cy := cy) hx hb hK hP hD hS hx_32.1 hf_206 hn_209 dX10_measure_97 (fun H locs hP hD hS => ?_)
            have hP : va_P D vwCl (va_pl L (va_up f_28 x_32 (.inl (cy 2, 300, .inl (upd g_207 v1.toNatClampNeg (vp_nar .boolean 1)))))) H := hP
            generalize hfe : va_up f_28 x_32 (.inl (cy 2, 300, .inl (upd g_207 v1.toNatClampNeg (vp_nar .boolean 1)))) = f_210 at hP hI9 hfr9
            have hD : va_D A (va_pl L f_210) := tp_D hL hAL
            have hf_211 := (show f_210 o = _ from by rw [← hfe, va_up_ne _ _ (tp_ne ho hx_32 (by decide))]).trans hf_29
            have hf_212 : f_210 x_32 = .inl (cy 2, 300, .inl (upd g_207 v1.toNatClampNeg (vp_nar .boolean 1))) := by rw [← hfe]; exact va_up_self _ _ _
            clear hfe
            have hI := hI9
            have hfr := hfr9
            clear hI9 hfr9
            refine lv_aload_n hx hb dX10_measure_98 rfl (lv_at hl 3 rfl) ?_
            refine tp_get (cy := cy) (ci := 10) (v := .ref x_32) (C := RX10) (T := TX10) (N := 18) hx hb hta inlX10 hown hK hP ho.1 hf_211 rfl 2 (by decide) (hta _ wk_133) (fun _ h9 => h9) rfl dX10_measure_99 ?_
            refine lv_iload_n hx hb dX10_measure_102 rfl (lv_at hl 2 rfl) ?_
            obtain ⟨g_214, hf_213⟩ := (show tp_az cy (300) (f_210 x_32) from hI.at hx_32)
            have hn_216 : vp_in v1 (300) := tl_in (by omega) (by omega)
            refine tp_zald (cy := cy) hx hb hK hP hx_32.1 hf_213 hn_216 dX10_measure_103 ?_
            refine lv_topi (fun z_217 ez_217 => ?_)
            refine lv_if_eq (tgt := 134) hx hb dX10_measure_104 (by decide) (fun c_218 => ?_) (fun c_218 => ?_)
            · have c_218 : z_217.toInt = (0 : Int) := tl_eq c_218
              refine lv_iload_n hx hb dX10_measure_134 rfl (lv_at hl 0 rfl) ?_
              refine lv_if_eq (tgt := 168) hx hb dX10_measure_135 (by decide) (fun _ => ?_) (fun c => absurd c (by decide))
              obtain ⟨z_219, ez_219⟩ : ∃ y : Int32, y = v1 + 1 := ⟨_, rfl⟩
              refine lv_iinc (v := z_219) (lv' := [(1, .int z_219), (3, .int 0), (2, .int z_59), (0, .ref o)]) hx hb dX10_measure_168 hl (k := 2) rfl (by rw [ez_219]; rfl) (by decide) rfl (fun ls hl => ?_)
              try have iz_219 : z_219.toInt = v1.toInt + 1 := by rw [ez_219]; exact tl_addL v1 1 (by decide) (by omega) (by omega)
              refine lv_goto (tgt := 22) hx hb dX10_measure_171 (by decide) ?_
              exact ih22 (f_210, z_219) H locs ls (by show (300 - z_219.toInt).toNat < (300 - v1.toInt).toNat; omega) ⟨(show 0 ≤ z_219.toInt from (by omega)), (show z_219.toInt ≤ 300 from (by omega)), (show tv_gap (f o) → tv_gap (f_210 o) from (fun q => ⟨_, _, _, hf_211, rfl, rfl, hgx q⟩)), hP, hI, hfr, hS, lv_sub hl [0, 3] rfl⟩
            · have c_218 : ¬ z_217.toInt = (0 : Int) := tl_neq c_218
              refine lv_aload_n hx hb dX10_measure_107 rfl (lv_at hl 3 rfl) ?_
              refine lv_dup hx hb dX10_measure_108 rfl ?_
              refine tp_get (cy := cy) (ci := 10) (v := .int x_45) (C := RX10) (T := TX10) (N := 18) hx hb hta inlX10 hown hK hP ho.1 hf_211 rfl 15 (by decide) (hta _ wk_884) (fun _ h9 => h9) rfl dX10_measure_109 ?_
              refine lv_iconst (v := 1) hx hb dX10_measure_112 (by decide) ?_
              refine lv_iadd hx hb dX10_measure_113 ?_
              refine lv_topi (fun z_220 ez_220 => ?_)
              try have iz_220 : z_220.toInt = x_45.toInt + (1 : Int) := by rw [ez_220]; exact tl_addN x_45 1 rfl rfl (by omega) (by omega)
              have hI9 : tp_I cy L K Γ (va_up f_210 o (.inr (10, [.ref x_30, .ref x_31, .ref x_32, .ref x_33, .ref x_34, .ref x_35, .ref x_36, .ref x_37, .ref x_38, .int x_39, .int x_40, .int x_41, .int x_42, .int x_43, .int x_44, .int z_220, .long x_46, .long x_47]))) := hI.set ho (show tp_o_VIEW L K (0) 0 (Γ (27, 0, 0)) _ from ⟨x_30, x_31, x_32, x_33, x_34, x_35, x_36, x_37, x_38, x_39, x_40, x_41, x_42, x_43, x_44, z_220, x_46, x_47, rfl, hx_30, hx_31, hx_32, hx_33, hx_34, hx_35, hx_36, hx_37, hx_38, (show 0 ≤ x_40.toInt ∧ x_40.toInt ≤ 9999 from by omega), (show 0 ≤ x_43.toInt ∧ x_43.toInt ≤ 42 from by omega)⟩)
              have hfr9 : ∀ b, (K b).1 ∉ ([27, 28] : List Nat) → va_up f_210 o (.inr (10, [.ref x_30, .ref x_31, .ref x_32, .ref x_33, .ref x_34, .ref x_35, .ref x_36, .ref x_37, .ref x_38, .int x_39, .int x_40, .int x_41, .int x_42, .int x_43, .int x_44, .int z_220, .long x_46, .long x_47])) b = f b := tp_fr hfr ho (by decide)
              refine tp_put (cy := cy) (ci := 10) (v := .int z_220) (ty := tyX10 15) (C := RX10) (T := TX10) (N := 18) hx hb hta inlX10 tyX10 tyX10_ok nmX10 hown hK hP hD hS ho.1 hf_211 rfl 15 (by decide) (hta _ wk_884) (fun _ h9 => h9) rfl (tyX10_ok 15 (by decide)) rfl rfl (Nat.le_of_ble_eq_true rfl) dX10_measure_114 (fun H locs hP hD hS => ?_)
              have hP : va_P D vwCl (va_pl L (va_up f_210 o (.inr (10, [.ref x_30, .ref x_31, .ref x_32, .ref x_33, .ref x_34, .ref x_35, .ref x_36, .ref x_37, .ref x_38, .int x_39, .int x_40, .int x_41, .int x_42, .int x_43, .int x_44, .int z_220, .long x_46, .long x_47])))) H := hP
              generalize hfe : va_up f_210 o (.inr (10, [.ref x_30, .ref x_31, .ref x_32, .ref x_33, .ref x_34, .ref x_35, .ref x_36, .ref x_37, .ref x_38, .int x_39, .int x_40, .int x_41, .int x_42, .int x_43, .int x_44, .int z_220, .long x_46, .long x_47])) = f_221 at hP hI9 hfr9
              have hD : va_D A (va_pl L f_221) := tp_D hL hAL
              have hf_222 : f_221 o = .inr (10, [.ref x_30, .ref x_31, .ref x_32, .ref x_33, .ref x_34, .ref x_35, .ref x_36, .ref x_37, .ref x_38, .int x_39, .int x_40, .int x_41, .int x_42, .int x_43, .int x_44, .int z_220, .long x_46, .long x_47]) := by rw [← hfe]; exact va_up_self _ _ _
              have hf_223 := (show f_221 x_32 = _ from by rw [← hfe, va_up_ne _ _ (tp_ne hx_32 ho (by decide))]).trans hf_213
              clear hfe
              have hI := hI9
              have hfr := hfr9
              clear hI9 hfr9
              refine lv_aload_n hx hb dX10_measure_117 rfl (lv_at hl 3 rfl) ?_
              refine lv_dup hx hb dX10_measure_118 rfl ?_
              refine tp_get (cy := cy) (ci := 10) (v := .long x_47) (C := RX10) (T := TX10) (N := 18) hx hb hta inlX10 hown hK hP ho.1 hf_222 rfl 17 (by decide) (hta _ wk_886) (fun _ h9 => h9) rfl dX10_measure_119 ?_
              refine lv_iload_n hx hb dX10_measure_122 rfl (lv_at hl 1 rfl) ?_
              refine va_mabs hx hb (by rw [hml]; exact hl.1.symm) hown (hta _ wk_887) (hta _ wk_888) (hta _ wk_83) (hta _ wk_889) (Nat.le_of_ble_eq_true rfl) (Nat.le_of_ble_eq_true rfl) (Nat.le_of_ble_eq_true rfl) (Nat.le_of_ble_eq_true rfl) dX10_measure_123 ?_
              refine lv_topi (fun z_224 ez_224 => ?_)
              have iz_224 : (z_224.toInt = z_59.toInt ∧ 0 ≤ z_59.toInt) ∨ (z_59.toInt < 0 ∧ (z_224.toInt = -z_59.toInt ∨ z_59.toInt = -2147483648)) := by rw [ez_224]; exact tl_absF
              refine lv_i2l (v := z_224.toInt64) hx hb dX10_measure_126 (by first | rfl | decide) ?_
              refine lv_ladd hx hb dX10_measure_127 ?_
              refine lv_topl (fun z_225 ez_225 => ?_)
              have hI9 : tp_I cy L K Γ (va_up f_221 o (.inr (10, [.ref x_30, .ref x_31, .ref x_32, .ref x_33, .ref x_34, .ref x_35, .ref x_36, .ref x_37, .ref x_38, .int x_39, .int x_40, .int x_41, .int x_42, .int x_43, .int x_44, .int z_220, .long x_46, .long z_225]))) := hI.set ho (show tp_o_VIEW L K (0) 0 (Γ (27, 0, 0)) _ from ⟨x_30, x_31, x_32, x_33, x_34, x_35, x_36, x_37, x_38, x_39, x_40, x_41, x_42, x_43, x_44, z_220, x_46, z_225, rfl, hx_30, hx_31, hx_32, hx_33, hx_34, hx_35, hx_36, hx_37, hx_38, (show 0 ≤ x_40.toInt ∧ x_40.toInt ≤ 9999 from by omega), (show 0 ≤ x_43.toInt ∧ x_43.toInt ≤ 42 from by omega)⟩)
              have hfr9 : ∀ b, (K b).1 ∉ ([27, 28] : List Nat) → va_up f_221 o (.inr (10, [.ref x_30, .ref x_31, .ref x_32, .ref x_33, .ref x_34, .ref x_35, .ref x_36, .ref x_37, .ref x_38, .int x_39, .int x_40, .int x_41, .int x_42, .int x_43, .int x_44, .int z_220, .long x_46, .long z_225])) b = f b := tp_fr hfr ho (by decide)
              refine tp_put (cy := cy) (ci := 10) (v := .long z_225) (ty := tyX10 17) (C := RX10) (T := TX10) (N := 18) hx hb hta inlX10 tyX10 tyX10_ok nmX10 hown hK hP hD hS ho.1 hf_222 rfl 17 (by decide) (hta _ wk_886) (fun _ h9 => h9) rfl (tyX10_ok 17 (by decide)) rfl rfl (Nat.le_of_ble_eq_true rfl) dX10_measure_128 (fun H locs hP hD hS => ?_)
              have hP : va_P D vwCl (va_pl L (va_up f_221 o (.inr (10, [.ref x_30, .ref x_31, .ref x_32, .ref x_33, .ref x_34, .ref x_35, .ref x_36, .ref x_37, .ref x_38, .int x_39, .int x_40, .int x_41, .int x_42, .int x_43, .int x_44, .int z_220, .long x_46, .long z_225])))) H := hP
              generalize hfe : va_up f_221 o (.inr (10, [.ref x_30, .ref x_31, .ref x_32, .ref x_33, .ref x_34, .ref x_35, .ref x_36, .ref x_37, .ref x_38, .int x_39, .int x_40, .int x_41, .int x_42, .int x_43, .int x_44, .int z_220, .long x_46, .long z_225])) = f_226 at hP hI9 hfr9
              have hD : va_D A (va_pl L f_226) := tp_D hL hAL
              have hf_227 : f_226 o = .inr (10, [.ref x_30, .ref x_31, .ref x_32, .ref x_33, .ref x_34, .ref x_35, .ref x_36, .ref x_37, .ref x_38, .int x_39, .int x_40, .int x_41, .int x_42, .int x_43, .int x_44, .int z_220, .long x_46, .long z_225]) := by rw [← hfe]; exact va_up_self _ _ _
              have hf_228 := (show f_226 x_32 = _ from by rw [← hfe, va_up_ne _ _ (tp_ne hx_32 ho (by decide))]).trans hf_223
              clear hfe
              have hI := hI9
              have hfr := hfr9
              clear hI9 hfr9
              refine lv_goto (tgt := 168) hx hb dX10_measure_131 (by decide) ?_
              obtain ⟨z_229, ez_229⟩ : ∃ y : Int32, y = v1 + 1 := ⟨_, rfl⟩
              refine lv_iinc (v := z_229) (lv' := [(1, .int z_229), (3, .int 0), (2, .int z_59), (0, .ref o)]) hx hb dX10_measure_168 hl (k := 2) rfl (by rw [ez_229]; rfl) (by decide) rfl (fun ls hl => ?_)
              try have iz_229 : z_229.toInt = v1.toInt + 1 := by rw [ez_229]; exact tl_addL v1 1 (by decide) (by omega) (by omega)
              refine lv_goto (tgt := 22) hx hb dX10_measure_171 (by decide) ?_
              exact ih22 (f_226, z_229) H locs ls (by show (300 - z_229.toInt).toNat < (300 - v1.toInt).toNat; omega) ⟨(show 0 ≤ z_229.toInt from (by omega)), (show z_229.toInt ≤ 300 from (by omega)), (show tv_gap (f o) → tv_gap (f_226 o) from (fun q => ⟨_, _, _, hf_227, rfl, rfl, hgx q⟩)), hP, hI, hfr, hS, lv_sub hl [0, 3] rfl⟩
      · have c_145 : v1.toInt ≤ x_42.toInt := tl_nlt c_145
        refine lv_iconst (v := 1) hx hb dX10_measure_59 (by decide) ?_
        refine lv_goto (tgt := 64) hx hb dX10_measure_60 (by decide) ?_
        refine lv_istore_n (lv' := [(3, .int 1), (2, .int z_59), (1, .int v1), (0, .ref o)]) hx hb dX10_measure_64 rfl hl (by decide) rfl (fun ls hl => ?_)
        refine lv_aload_n hx hb dX10_measure_65 rfl (lv_at hl 3 rfl) ?_
        refine tp_get (cy := cy) (ci := 10) (v := .ref x_32) (C := RX10) (T := TX10) (N := 18) hx hb hta inlX10 hown hK hP ho.1 hf_29 rfl 2 (by decide) (hta _ wk_133) (fun _ h9 => h9) rfl dX10_measure_66 ?_
        refine lv_iload_n hx hb dX10_measure_69 rfl (lv_at hl 2 rfl) ?_
        refine lv_aload_n hx hb dX10_measure_70 rfl (lv_at hl 3 rfl) ?_
        refine tp_get (cy := cy) (ci := 10) (v := .ref x_30) (C := RX10) (T := TX10) (N := 18) hx hb hta inlX10 hown hK hP ho.1 hf_29 rfl 0 (by decide) (hta _ wk_131) (fun _ h9 => h9) rfl dX10_measure_71 ?_
        refine lv_iload_n hx hb dX10_measure_74 rfl (lv_at hl 2 rfl) ?_
        obtain ⟨g_231, hf_230⟩ := (show tp_az cy (300) (f_28 x_30) from hI.at hx_30)
        have hn_233 : vp_in v1 (300) := tl_in (by omega) (by omega)
        refine tp_zald (cy := cy) hx hb hK hP hx_30.1 hf_230 hn_233 dX10_measure_75 ?_
        refine lv_topi (fun z_234 ez_234 => ?_)
        refine lv_if_eq (tgt := 96) hx hb dX10_measure_76 (by decide) (fun c_235 => ?_) (fun c_235 => ?_)
        · have c_235 : z_234.toInt = (0 : Int) := tl_eq c_235
          refine lv_iconst (v := 0) hx hb dX10_measure_96 (by decide) ?_
          obtain ⟨g_237, hf_236⟩ := (show tp_az cy (300) (f_28 x_32) from hI.at hx_32)
          have hn_239 : vp_in v1 (300) := tl_in (by omega) (by omega)
          have hI9 : tp_I cy L K Γ (va_up f_28 x_32 (.inl (cy 2, 300, .inl (upd g_237 v1.toNatClampNeg (vp_nar .boolean 0))))) := hI.set hx_32 (show tp_az cy (300) _ from ⟨_, rfl⟩)
          have hfr9 : ∀ b, (K b).1 ∉ ([27, 28] : List Nat) → va_up f_28 x_32 (.inl (cy 2, 300, .inl (upd g_237 v1.toNatClampNeg (vp_nar .boolean 0)))) b = f b := tp_fr hfr hx_32 (by decide)
          refine tp_zast (cy := cy) hx hb hK hP hD hS hx_32.1 hf_236 hn_239 dX10_measure_97 (fun H locs hP hD hS => ?_)
          have hP : va_P D vwCl (va_pl L (va_up f_28 x_32 (.inl (cy 2, 300, .inl (upd g_237 v1.toNatClampNeg (vp_nar .boolean 0)))))) H := hP
          generalize hfe : va_up f_28 x_32 (.inl (cy 2, 300, .inl (upd g_237 v1.toNatClampNeg (vp_nar .boolean 0)))) = f_240 at hP hI9 hfr9
          have hD : va_D A (va_pl L f_240) := tp_D hL hAL
          have hf_241 := (show f_240 o = _ from by rw [← hfe, va_up_ne _ _ (tp_ne ho hx_32 (by decide))]).trans hf_29
          have hf_242 : f_240 x_32 = .inl (cy 2, 300, .inl (upd g_237 v1.toNatClampNeg (vp_nar .boolean 0))) := by rw [← hfe]; exact va_up_self _ _ _
          clear hfe
          have hI := hI9
          have hfr := hfr9
          clear hI9 hfr9
          refine lv_aload_n hx hb dX10_measure_98 rfl (lv_at hl 3 rfl) ?_
          refine tp_get (cy := cy) (ci := 10) (v := .ref x_32) (C := RX10) (T := TX10) (N := 18) hx hb hta inlX10 hown hK hP ho.1 hf_241 rfl 2 (by decide) (hta _ wk_133) (fun _ h9 => h9) rfl dX10_measure_99 ?_
          refine lv_iload_n hx hb dX10_measure_102 rfl (lv_at hl 2 rfl) ?_
          obtain ⟨g_244, hf_243⟩ := (show tp_az cy (300) (f_240 x_32) from hI.at hx_32)
          have hn_246 : vp_in v1 (300) := tl_in (by omega) (by omega)
          refine tp_zald (cy := cy) hx hb hK hP hx_32.1 hf_243 hn_246 dX10_measure_103 ?_
          refine lv_topi (fun z_247 ez_247 => ?_)
          refine lv_if_eq (tgt := 134) hx hb dX10_measure_104 (by decide) (fun c_248 => ?_) (fun c_248 => ?_)
          · have c_248 : z_247.toInt = (0 : Int) := tl_eq c_248
            refine lv_iload_n hx hb dX10_measure_134 rfl (lv_at hl 0 rfl) ?_
            refine lv_if_eq (tgt := 168) hx hb dX10_measure_135 (by decide) (fun c => absurd c (by decide)) (fun _ => ?_)
            refine lv_aload_n hx hb dX10_measure_138 rfl (lv_at hl 3 rfl) ?_
            refine tp_get (cy := cy) (ci := 10) (v := .ref x_30) (C := RX10) (T := TX10) (N := 18) hx hb hta inlX10 hown hK hP ho.1 hf_241 rfl 0 (by decide) (hta _ wk_131) (fun _ h9 => h9) rfl dX10_measure_139 ?_
            refine lv_iload_n hx hb dX10_measure_142 rfl (lv_at hl 2 rfl) ?_
            obtain ⟨g_250, hf_249⟩ := (show tp_az cy (300) (f_240 x_30) from hI.at hx_30)
            have hn_252 : vp_in v1 (300) := tl_in (by omega) (by omega)
            refine tp_zald (cy := cy) hx hb hK hP hx_30.1 hf_249 hn_252 dX10_measure_143 ?_
            refine lv_topi (fun z_253 ez_253 => ?_)
            refine lv_if_eq (tgt := 168) hx hb dX10_measure_144 (by decide) (fun c_254 => ?_) (fun c_254 => ?_)
            · have c_254 : z_253.toInt = (0 : Int) := tl_eq c_254
              obtain ⟨z_255, ez_255⟩ : ∃ y : Int32, y = v1 + 1 := ⟨_, rfl⟩
              refine lv_iinc (v := z_255) (lv' := [(1, .int z_255), (3, .int 1), (2, .int z_59), (0, .ref o)]) hx hb dX10_measure_168 hl (k := 2) rfl (by rw [ez_255]; rfl) (by decide) rfl (fun ls hl => ?_)
              try have iz_255 : z_255.toInt = v1.toInt + 1 := by rw [ez_255]; exact tl_addL v1 1 (by decide) (by omega) (by omega)
              refine lv_goto (tgt := 22) hx hb dX10_measure_171 (by decide) ?_
              exact ih22 (f_240, z_255) H locs ls (by show (300 - z_255.toInt).toNat < (300 - v1.toInt).toNat; omega) ⟨(show 0 ≤ z_255.toInt from (by omega)), (show z_255.toInt ≤ 300 from (by omega)), (show tv_gap (f o) → tv_gap (f_240 o) from (fun q => ⟨_, _, _, hf_241, rfl, rfl, hgx q⟩)), hP, hI, hfr, hS, lv_sub hl [0, 3] rfl⟩
            · have c_254 : ¬ z_253.toInt = (0 : Int) := tl_neq c_254
              refine lv_aload_n hx hb dX10_measure_147 rfl (lv_at hl 3 rfl) ?_
              refine lv_dup hx hb dX10_measure_148 rfl ?_
              refine tp_get (cy := cy) (ci := 10) (v := .int x_44) (C := RX10) (T := TX10) (N := 18) hx hb hta inlX10 hown hK hP ho.1 hf_241 rfl 14 (by decide) (hta _ wk_883) (fun _ h9 => h9) rfl dX10_measure_149 ?_
              refine lv_iconst (v := 1) hx hb dX10_measure_152 (by decide) ?_
              refine lv_iadd hx hb dX10_measure_153 ?_
              refine lv_topi (fun z_256 ez_256 => ?_)
              try have iz_256 : z_256.toInt = x_44.toInt + (1 : Int) := by rw [ez_256]; exact tl_addN x_44 1 rfl rfl (by omega) (by omega)
              have hI9 : tp_I cy L K Γ (va_up f_240 o (.inr (10, [.ref x_30, .ref x_31, .ref x_32, .ref x_33, .ref x_34, .ref x_35, .ref x_36, .ref x_37, .ref x_38, .int x_39, .int x_40, .int x_41, .int x_42, .int x_43, .int z_256, .int x_45, .long x_46, .long x_47]))) := hI.set ho (show tp_o_VIEW L K (0) 0 (Γ (27, 0, 0)) _ from ⟨x_30, x_31, x_32, x_33, x_34, x_35, x_36, x_37, x_38, x_39, x_40, x_41, x_42, x_43, z_256, x_45, x_46, x_47, rfl, hx_30, hx_31, hx_32, hx_33, hx_34, hx_35, hx_36, hx_37, hx_38, (show 0 ≤ x_40.toInt ∧ x_40.toInt ≤ 9999 from by omega), (show 0 ≤ x_43.toInt ∧ x_43.toInt ≤ 42 from by omega)⟩)
              have hfr9 : ∀ b, (K b).1 ∉ ([27, 28] : List Nat) → va_up f_240 o (.inr (10, [.ref x_30, .ref x_31, .ref x_32, .ref x_33, .ref x_34, .ref x_35, .ref x_36, .ref x_37, .ref x_38, .int x_39, .int x_40, .int x_41, .int x_42, .int x_43, .int z_256, .int x_45, .long x_46, .long x_47])) b = f b := tp_fr hfr ho (by decide)
              refine tp_put (cy := cy) (ci := 10) (v := .int z_256) (ty := tyX10 14) (C := RX10) (T := TX10) (N := 18) hx hb hta inlX10 tyX10 tyX10_ok nmX10 hown hK hP hD hS ho.1 hf_241 rfl 14 (by decide) (hta _ wk_883) (fun _ h9 => h9) rfl (tyX10_ok 14 (by decide)) rfl rfl (Nat.le_of_ble_eq_true rfl) dX10_measure_154 (fun H locs hP hD hS => ?_)
              have hP : va_P D vwCl (va_pl L (va_up f_240 o (.inr (10, [.ref x_30, .ref x_31, .ref x_32, .ref x_33, .ref x_34, .ref x_35, .ref x_36, .ref x_37, .ref x_38, .int x_39, .int x_40, .int x_41, .int x_42, .int x_43, .int z_256, .int x_45, .long x_46, .long x_47])))) H := hP
              generalize hfe : va_up f_240 o (.inr (10, [.ref x_30, .ref x_31, .ref x_32, .ref x_33, .ref x_34, .ref x_35, .ref x_36, .ref x_37, .ref x_38, .int x_39, .int x_40, .int x_41, .int x_42, .int x_43, .int z_256, .int x_45, .long x_46, .long x_47])) = f_257 at hP hI9 hfr9
              have hD : va_D A (va_pl L f_257) := tp_D hL hAL
              have hf_258 : f_257 o = .inr (10, [.ref x_30, .ref x_31, .ref x_32, .ref x_33, .ref x_34, .ref x_35, .ref x_36, .ref x_37, .ref x_38, .int x_39, .int x_40, .int x_41, .int x_42, .int x_43, .int z_256, .int x_45, .long x_46, .long x_47]) := by rw [← hfe]; exact va_up_self _ _ _
              have hf_259 := (show f_257 x_32 = _ from by rw [← hfe, va_up_ne _ _ (tp_ne hx_32 ho (by decide))]).trans hf_243
              have hf_260 := (show f_257 x_30 = _ from by rw [← hfe, va_up_ne _ _ (tp_ne hx_30 ho (by decide))]).trans hf_249
              clear hfe
              have hI := hI9
              have hfr := hfr9
              clear hI9 hfr9
              refine lv_aload_n hx hb dX10_measure_157 rfl (lv_at hl 3 rfl) ?_
              refine lv_dup hx hb dX10_measure_158 rfl ?_
              refine tp_get (cy := cy) (ci := 10) (v := .long x_46) (C := RX10) (T := TX10) (N := 18) hx hb hta inlX10 hown hK hP ho.1 hf_258 rfl 16 (by decide) (hta _ wk_885) (fun _ h9 => h9) rfl dX10_measure_159 ?_
              refine lv_iload_n hx hb dX10_measure_162 rfl (lv_at hl 1 rfl) ?_
              refine lv_i2l (v := z_59.toInt64) hx hb dX10_measure_163 (by first | rfl | decide) ?_
              refine lv_ladd hx hb dX10_measure_164 ?_
              refine lv_topl (fun z_261 ez_261 => ?_)
              have hI9 : tp_I cy L K Γ (va_up f_257 o (.inr (10, [.ref x_30, .ref x_31, .ref x_32, .ref x_33, .ref x_34, .ref x_35, .ref x_36, .ref x_37, .ref x_38, .int x_39, .int x_40, .int x_41, .int x_42, .int x_43, .int z_256, .int x_45, .long z_261, .long x_47]))) := hI.set ho (show tp_o_VIEW L K (0) 0 (Γ (27, 0, 0)) _ from ⟨x_30, x_31, x_32, x_33, x_34, x_35, x_36, x_37, x_38, x_39, x_40, x_41, x_42, x_43, z_256, x_45, z_261, x_47, rfl, hx_30, hx_31, hx_32, hx_33, hx_34, hx_35, hx_36, hx_37, hx_38, (show 0 ≤ x_40.toInt ∧ x_40.toInt ≤ 9999 from by omega), (show 0 ≤ x_43.toInt ∧ x_43.toInt ≤ 42 from by omega)⟩)
              have hfr9 : ∀ b, (K b).1 ∉ ([27, 28] : List Nat) → va_up f_257 o (.inr (10, [.ref x_30, .ref x_31, .ref x_32, .ref x_33, .ref x_34, .ref x_35, .ref x_36, .ref x_37, .ref x_38, .int x_39, .int x_40, .int x_41, .int x_42, .int x_43, .int z_256, .int x_45, .long z_261, .long x_47])) b = f b := tp_fr hfr ho (by decide)
              refine tp_put (cy := cy) (ci := 10) (v := .long z_261) (ty := tyX10 16) (C := RX10) (T := TX10) (N := 18) hx hb hta inlX10 tyX10 tyX10_ok nmX10 hown hK hP hD hS ho.1 hf_258 rfl 16 (by decide) (hta _ wk_885) (fun _ h9 => h9) rfl (tyX10_ok 16 (by decide)) rfl rfl (Nat.le_of_ble_eq_true rfl) dX10_measure_165 (fun H locs hP hD hS => ?_)
              have hP : va_P D vwCl (va_pl L (va_up f_257 o (.inr (10, [.ref x_30, .ref x_31, .ref x_32, .ref x_33, .ref x_34, .ref x_35, .ref x_36, .ref x_37, .ref x_38, .int x_39, .int x_40, .int x_41, .int x_42, .int x_43, .int z_256, .int x_45, .long z_261, .long x_47])))) H := hP
              generalize hfe : va_up f_257 o (.inr (10, [.ref x_30, .ref x_31, .ref x_32, .ref x_33, .ref x_34, .ref x_35, .ref x_36, .ref x_37, .ref x_38, .int x_39, .int x_40, .int x_41, .int x_42, .int x_43, .int z_256, .int x_45, .long z_261, .long x_47])) = f_262 at hP hI9 hfr9
              have hD : va_D A (va_pl L f_262) := tp_D hL hAL
              have hf_263 : f_262 o = .inr (10, [.ref x_30, .ref x_31, .ref x_32, .ref x_33, .ref x_34, .ref x_35, .ref x_36, .ref x_37, .ref x_38, .int x_39, .int x_40, .int x_41, .int x_42, .int x_43, .int z_256, .int x_45, .long z_261, .long x_47]) := by rw [← hfe]; exact va_up_self _ _ _
              have hf_264 := (show f_262 x_32 = _ from by rw [← hfe, va_up_ne _ _ (tp_ne hx_32 ho (by decide))]).trans hf_259
              have hf_265 := (show f_262 x_30 = _ from by rw [← hfe, va_up_ne _ _ (tp_ne hx_30 ho (by decide))]).trans hf_260
              clear hfe
              have hI := hI9
              have hfr := hfr9
              clear hI9 hfr9
              obtain ⟨z_266, ez_266⟩ : ∃ y : Int32, y = v1 + 1 := ⟨_, rfl⟩
              refine lv_iinc (v := z_266) (lv' := [(1, .int z_266), (3, .int 1), (2, .int z_59), (0, .ref o)]) hx hb dX10_measure_168 hl (k := 2) rfl (by rw [ez_266]; rfl) (by decide) rfl (fun ls hl => ?_)
              try have iz_266 : z_266.toInt = v1.toInt + 1 := by rw [ez_266]; exact tl_addL v1 1 (by decide) (by omega) (by omega)
              refine lv_goto (tgt := 22) hx hb dX10_measure_171 (by decide) ?_
              exact ih22 (f_262, z_266) H locs ls (by show (300 - z_266.toInt).toNat < (300 - v1.toInt).toNat; omega) ⟨(show 0 ≤ z_266.toInt from (by omega)), (show z_266.toInt ≤ 300 from (by omega)), (show tv_gap (f o) → tv_gap (f_262 o) from (fun q => ⟨_, _, _, hf_263, rfl, rfl, hgx q⟩)), hP, hI, hfr, hS, lv_sub hl [0, 3] rfl⟩
          · have c_248 : ¬ z_247.toInt = (0 : Int) := tl_neq c_248
            refine lv_aload_n hx hb dX10_measure_107 rfl (lv_at hl 3 rfl) ?_
            refine lv_dup hx hb dX10_measure_108 rfl ?_
            refine tp_get (cy := cy) (ci := 10) (v := .int x_45) (C := RX10) (T := TX10) (N := 18) hx hb hta inlX10 hown hK hP ho.1 hf_241 rfl 15 (by decide) (hta _ wk_884) (fun _ h9 => h9) rfl dX10_measure_109 ?_
            refine lv_iconst (v := 1) hx hb dX10_measure_112 (by decide) ?_
            refine lv_iadd hx hb dX10_measure_113 ?_
            refine lv_topi (fun z_267 ez_267 => ?_)
            try have iz_267 : z_267.toInt = x_45.toInt + (1 : Int) := by rw [ez_267]; exact tl_addN x_45 1 rfl rfl (by omega) (by omega)
            have hI9 : tp_I cy L K Γ (va_up f_240 o (.inr (10, [.ref x_30, .ref x_31, .ref x_32, .ref x_33, .ref x_34, .ref x_35, .ref x_36, .ref x_37, .ref x_38, .int x_39, .int x_40, .int x_41, .int x_42, .int x_43, .int x_44, .int z_267, .long x_46, .long x_47]))) := hI.set ho (show tp_o_VIEW L K (0) 0 (Γ (27, 0, 0)) _ from ⟨x_30, x_31, x_32, x_33, x_34, x_35, x_36, x_37, x_38, x_39, x_40, x_41, x_42, x_43, x_44, z_267, x_46, x_47, rfl, hx_30, hx_31, hx_32, hx_33, hx_34, hx_35, hx_36, hx_37, hx_38, (show 0 ≤ x_40.toInt ∧ x_40.toInt ≤ 9999 from by omega), (show 0 ≤ x_43.toInt ∧ x_43.toInt ≤ 42 from by omega)⟩)
            have hfr9 : ∀ b, (K b).1 ∉ ([27, 28] : List Nat) → va_up f_240 o (.inr (10, [.ref x_30, .ref x_31, .ref x_32, .ref x_33, .ref x_34, .ref x_35, .ref x_36, .ref x_37, .ref x_38, .int x_39, .int x_40, .int x_41, .int x_42, .int x_43, .int x_44, .int z_267, .long x_46, .long x_47])) b = f b := tp_fr hfr ho (by decide)
            refine tp_put (cy := cy) (ci := 10) (v := .int z_267) (ty := tyX10 15) (C := RX10) (T := TX10) (N := 18) hx hb hta inlX10 tyX10 tyX10_ok nmX10 hown hK hP hD hS ho.1 hf_241 rfl 15 (by decide) (hta _ wk_884) (fun _ h9 => h9) rfl (tyX10_ok 15 (by decide)) rfl rfl (Nat.le_of_ble_eq_true rfl) dX10_measure_114 (fun H locs hP hD hS => ?_)
            have hP : va_P D vwCl (va_pl L (va_up f_240 o (.inr (10, [.ref x_30, .ref x_31, .ref x_32, .ref x_33, .ref x_34, .ref x_35, .ref x_36, .ref x_37, .ref x_38, .int x_39, .int x_40, .int x_41, .int x_42, .int x_43, .int x_44, .int z_267, .long x_46, .long x_47])))) H := hP
            generalize hfe : va_up f_240 o (.inr (10, [.ref x_30, .ref x_31, .ref x_32, .ref x_33, .ref x_34, .ref x_35, .ref x_36, .ref x_37, .ref x_38, .int x_39, .int x_40, .int x_41, .int x_42, .int x_43, .int x_44, .int z_267, .long x_46, .long x_47])) = f_268 at hP hI9 hfr9
            have hD : va_D A (va_pl L f_268) := tp_D hL hAL
            have hf_269 : f_268 o = .inr (10, [.ref x_30, .ref x_31, .ref x_32, .ref x_33, .ref x_34, .ref x_35, .ref x_36, .ref x_37, .ref x_38, .int x_39, .int x_40, .int x_41, .int x_42, .int x_43, .int x_44, .int z_267, .long x_46, .long x_47]) := by rw [← hfe]; exact va_up_self _ _ _
            have hf_270 := (show f_268 x_32 = _ from by rw [← hfe, va_up_ne _ _ (tp_ne hx_32 ho (by decide))]).trans hf_243
            clear hfe
            have hI := hI9
            have hfr := hfr9
            clear hI9 hfr9
            refine lv_aload_n hx hb dX10_measure_117 rfl (lv_at hl 3 rfl) ?_
            refine lv_dup hx hb dX10_measure_118 rfl ?_
            refine tp_get (cy := cy) (ci := 10) (v := .long x_47) (C := RX10) (T := TX10) (N := 18) hx hb hta inlX10 hown hK hP ho.1 hf_269 rfl 17 (by decide) (hta _ wk_886) (fun _ h9 => h9) rfl dX10_measure_119 ?_
            refine lv_iload_n hx hb dX10_measure_122 rfl (lv_at hl 1 rfl) ?_
            refine va_mabs hx hb (by rw [hml]; exact hl.1.symm) hown (hta _ wk_887) (hta _ wk_888) (hta _ wk_83) (hta _ wk_889) (Nat.le_of_ble_eq_true rfl) (Nat.le_of_ble_eq_true rfl) (Nat.le_of_ble_eq_true rfl) (Nat.le_of_ble_eq_true rfl) dX10_measure_123 ?_
            refine lv_topi (fun z_271 ez_271 => ?_)
            have iz_271 : (z_271.toInt = z_59.toInt ∧ 0 ≤ z_59.toInt) ∨ (z_59.toInt < 0 ∧ (z_271.toInt = -z_59.toInt ∨ z_59.toInt = -2147483648)) := by rw [ez_271]; exact tl_absF
            refine lv_i2l (v := z_271.toInt64) hx hb dX10_measure_126 (by first | rfl | decide) ?_
            refine lv_ladd hx hb dX10_measure_127 ?_
            refine lv_topl (fun z_272 ez_272 => ?_)
            have hI9 : tp_I cy L K Γ (va_up f_268 o (.inr (10, [.ref x_30, .ref x_31, .ref x_32, .ref x_33, .ref x_34, .ref x_35, .ref x_36, .ref x_37, .ref x_38, .int x_39, .int x_40, .int x_41, .int x_42, .int x_43, .int x_44, .int z_267, .long x_46, .long z_272]))) := hI.set ho (show tp_o_VIEW L K (0) 0 (Γ (27, 0, 0)) _ from ⟨x_30, x_31, x_32, x_33, x_34, x_35, x_36, x_37, x_38, x_39, x_40, x_41, x_42, x_43, x_44, z_267, x_46, z_272, rfl, hx_30, hx_31, hx_32, hx_33, hx_34, hx_35, hx_36, hx_37, hx_38, (show 0 ≤ x_40.toInt ∧ x_40.toInt ≤ 9999 from by omega), (show 0 ≤ x_43.toInt ∧ x_43.toInt ≤ 42 from by omega)⟩)
            have hfr9 : ∀ b, (K b).1 ∉ ([27, 28] : List Nat) → va_up f_268 o (.inr (10, [.ref x_30, .ref x_31, .ref x_32, .ref x_33, .ref x_34, .ref x_35, .ref x_36, .ref x_37, .ref x_38, .int x_39, .int x_40, .int x_41, .int x_42, .int x_43, .int x_44, .int z_267, .long x_46, .long z_272])) b = f b := tp_fr hfr ho (by decide)
            refine tp_put (cy := cy) (ci := 10) (v := .long z_272) (ty := tyX10 17) (C := RX10) (T := TX10) (N := 18) hx hb hta inlX10 tyX10 tyX10_ok nmX10 hown hK hP hD hS ho.1 hf_269 rfl 17 (by decide) (hta _ wk_886) (fun _ h9 => h9) rfl (tyX10_ok 17 (by decide)) rfl rfl (Nat.le_of_ble_eq_true rfl) dX10_measure_128 (fun H locs hP hD hS => ?_)
            have hP : va_P D vwCl (va_pl L (va_up f_268 o (.inr (10, [.ref x_30, .ref x_31, .ref x_32, .ref x_33, .ref x_34, .ref x_35, .ref x_36, .ref x_37, .ref x_38, .int x_39, .int x_40, .int x_41, .int x_42, .int x_43, .int x_44, .int z_267, .long x_46, .long z_272])))) H := hP
            generalize hfe : va_up f_268 o (.inr (10, [.ref x_30, .ref x_31, .ref x_32, .ref x_33, .ref x_34, .ref x_35, .ref x_36, .ref x_37, .ref x_38, .int x_39, .int x_40, .int x_41, .int x_42, .int x_43, .int x_44, .int z_267, .long x_46, .long z_272])) = f_273 at hP hI9 hfr9
            have hD : va_D A (va_pl L f_273) := tp_D hL hAL
            have hf_274 : f_273 o = .inr (10, [.ref x_30, .ref x_31, .ref x_32, .ref x_33, .ref x_34, .ref x_35, .ref x_36, .ref x_37, .ref x_38, .int x_39, .int x_40, .int x_41, .int x_42, .int x_43, .int x_44, .int z_267, .long x_46, .long z_272]) := by rw [← hfe]; exact va_up_self _ _ _
            have hf_275 := (show f_273 x_32 = _ from by rw [← hfe, va_up_ne _ _ (tp_ne hx_32 ho (by decide))]).trans hf_270
            clear hfe
            have hI := hI9
            have hfr := hfr9
            clear hI9 hfr9
            refine lv_goto (tgt := 168) hx hb dX10_measure_131 (by decide) ?_
            obtain ⟨z_276, ez_276⟩ : ∃ y : Int32, y = v1 + 1 := ⟨_, rfl⟩
            refine lv_iinc (v := z_276) (lv' := [(1, .int z_276), (3, .int 1), (2, .int z_59), (0, .ref o)]) hx hb dX10_measure_168 hl (k := 2) rfl (by rw [ez_276]; rfl) (by decide) rfl (fun ls hl => ?_)
            try have iz_276 : z_276.toInt = v1.toInt + 1 := by rw [ez_276]; exact tl_addL v1 1 (by decide) (by omega) (by omega)
            refine lv_goto (tgt := 22) hx hb dX10_measure_171 (by decide) ?_
            exact ih22 (f_273, z_276) H locs ls (by show (300 - z_276.toInt).toNat < (300 - v1.toInt).toNat; omega) ⟨(show 0 ≤ z_276.toInt from (by omega)), (show z_276.toInt ≤ 300 from (by omega)), (show tv_gap (f o) → tv_gap (f_273 o) from (fun q => ⟨_, _, _, hf_274, rfl, rfl, hgx q⟩)), hP, hI, hfr, hS, lv_sub hl [0, 3] rfl⟩
        · have c_235 : ¬ z_234.toInt = (0 : Int) := tl_neq c_235
          refine lv_iload_n hx hb dX10_measure_79 rfl (lv_at hl 0 rfl) ?_
          refine lv_if_ne (tgt := 96) hx hb dX10_measure_80 (by decide) (fun _ => ?_) (fun c => absurd c (by decide))
          refine lv_iconst (v := 0) hx hb dX10_measure_96 (by decide) ?_
          obtain ⟨g_278, hf_277⟩ := (show tp_az cy (300) (f_28 x_32) from hI.at hx_32)
          have hn_280 : vp_in v1 (300) := tl_in (by omega) (by omega)
          have hI9 : tp_I cy L K Γ (va_up f_28 x_32 (.inl (cy 2, 300, .inl (upd g_278 v1.toNatClampNeg (vp_nar .boolean 0))))) := hI.set hx_32 (show tp_az cy (300) _ from ⟨_, rfl⟩)
          have hfr9 : ∀ b, (K b).1 ∉ ([27, 28] : List Nat) → va_up f_28 x_32 (.inl (cy 2, 300, .inl (upd g_278 v1.toNatClampNeg (vp_nar .boolean 0)))) b = f b := tp_fr hfr hx_32 (by decide)
          refine tp_zast (cy := cy) hx hb hK hP hD hS hx_32.1 hf_277 hn_280 dX10_measure_97 (fun H locs hP hD hS => ?_)
          have hP : va_P D vwCl (va_pl L (va_up f_28 x_32 (.inl (cy 2, 300, .inl (upd g_278 v1.toNatClampNeg (vp_nar .boolean 0)))))) H := hP
          generalize hfe : va_up f_28 x_32 (.inl (cy 2, 300, .inl (upd g_278 v1.toNatClampNeg (vp_nar .boolean 0)))) = f_281 at hP hI9 hfr9
          have hD : va_D A (va_pl L f_281) := tp_D hL hAL
          have hf_282 := (show f_281 o = _ from by rw [← hfe, va_up_ne _ _ (tp_ne ho hx_32 (by decide))]).trans hf_29
          have hf_283 : f_281 x_32 = .inl (cy 2, 300, .inl (upd g_278 v1.toNatClampNeg (vp_nar .boolean 0))) := by rw [← hfe]; exact va_up_self _ _ _
          clear hfe
          have hI := hI9
          have hfr := hfr9
          clear hI9 hfr9
          refine lv_aload_n hx hb dX10_measure_98 rfl (lv_at hl 3 rfl) ?_
          refine tp_get (cy := cy) (ci := 10) (v := .ref x_32) (C := RX10) (T := TX10) (N := 18) hx hb hta inlX10 hown hK hP ho.1 hf_282 rfl 2 (by decide) (hta _ wk_133) (fun _ h9 => h9) rfl dX10_measure_99 ?_
          refine lv_iload_n hx hb dX10_measure_102 rfl (lv_at hl 2 rfl) ?_
          obtain ⟨g_285, hf_284⟩ := (show tp_az cy (300) (f_281 x_32) from hI.at hx_32)
          have hn_287 : vp_in v1 (300) := tl_in (by omega) (by omega)
          refine tp_zald (cy := cy) hx hb hK hP hx_32.1 hf_284 hn_287 dX10_measure_103 ?_
          refine lv_topi (fun z_288 ez_288 => ?_)
          refine lv_if_eq (tgt := 134) hx hb dX10_measure_104 (by decide) (fun c_289 => ?_) (fun c_289 => ?_)
          · have c_289 : z_288.toInt = (0 : Int) := tl_eq c_289
            refine lv_iload_n hx hb dX10_measure_134 rfl (lv_at hl 0 rfl) ?_
            refine lv_if_eq (tgt := 168) hx hb dX10_measure_135 (by decide) (fun c => absurd c (by decide)) (fun _ => ?_)
            refine lv_aload_n hx hb dX10_measure_138 rfl (lv_at hl 3 rfl) ?_
            refine tp_get (cy := cy) (ci := 10) (v := .ref x_30) (C := RX10) (T := TX10) (N := 18) hx hb hta inlX10 hown hK hP ho.1 hf_282 rfl 0 (by decide) (hta _ wk_131) (fun _ h9 => h9) rfl dX10_measure_139 ?_
            refine lv_iload_n hx hb dX10_measure_142 rfl (lv_at hl 2 rfl) ?_
            obtain ⟨g_291, hf_290⟩ := (show tp_az cy (300) (f_281 x_30) from hI.at hx_30)
            have hn_293 : vp_in v1 (300) := tl_in (by omega) (by omega)
            refine tp_zald (cy := cy) hx hb hK hP hx_30.1 hf_290 hn_293 dX10_measure_143 ?_
            refine lv_topi (fun z_294 ez_294 => ?_)
            refine lv_if_eq (tgt := 168) hx hb dX10_measure_144 (by decide) (fun c_295 => ?_) (fun c_295 => ?_)
            · have c_295 : z_294.toInt = (0 : Int) := tl_eq c_295
              obtain ⟨z_296, ez_296⟩ : ∃ y : Int32, y = v1 + 1 := ⟨_, rfl⟩
              refine lv_iinc (v := z_296) (lv' := [(1, .int z_296), (3, .int 1), (2, .int z_59), (0, .ref o)]) hx hb dX10_measure_168 hl (k := 2) rfl (by rw [ez_296]; rfl) (by decide) rfl (fun ls hl => ?_)
              try have iz_296 : z_296.toInt = v1.toInt + 1 := by rw [ez_296]; exact tl_addL v1 1 (by decide) (by omega) (by omega)
              refine lv_goto (tgt := 22) hx hb dX10_measure_171 (by decide) ?_
              exact ih22 (f_281, z_296) H locs ls (by show (300 - z_296.toInt).toNat < (300 - v1.toInt).toNat; omega) ⟨(show 0 ≤ z_296.toInt from (by omega)), (show z_296.toInt ≤ 300 from (by omega)), (show tv_gap (f o) → tv_gap (f_281 o) from (fun q => ⟨_, _, _, hf_282, rfl, rfl, hgx q⟩)), hP, hI, hfr, hS, lv_sub hl [0, 3] rfl⟩
            · have c_295 : ¬ z_294.toInt = (0 : Int) := tl_neq c_295
              refine lv_aload_n hx hb dX10_measure_147 rfl (lv_at hl 3 rfl) ?_
              refine lv_dup hx hb dX10_measure_148 rfl ?_
              refine tp_get (cy := cy) (ci := 10) (v := .int x_44) (C := RX10) (T := TX10) (N := 18) hx hb hta inlX10 hown hK hP ho.1 hf_282 rfl 14 (by decide) (hta _ wk_883) (fun _ h9 => h9) rfl dX10_measure_149 ?_
              refine lv_iconst (v := 1) hx hb dX10_measure_152 (by decide) ?_
              refine lv_iadd hx hb dX10_measure_153 ?_
              refine lv_topi (fun z_297 ez_297 => ?_)
              try have iz_297 : z_297.toInt = x_44.toInt + (1 : Int) := by rw [ez_297]; exact tl_addN x_44 1 rfl rfl (by omega) (by omega)
              have hI9 : tp_I cy L K Γ (va_up f_281 o (.inr (10, [.ref x_30, .ref x_31, .ref x_32, .ref x_33, .ref x_34, .ref x_35, .ref x_36, .ref x_37, .ref x_38, .int x_39, .int x_40, .int x_41, .int x_42, .int x_43, .int z_297, .int x_45, .long x_46, .long x_47]))) := hI.set ho (show tp_o_VIEW L K (0) 0 (Γ (27, 0, 0)) _ from ⟨x_30, x_31, x_32, x_33, x_34, x_35, x_36, x_37, x_38, x_39, x_40, x_41, x_42, x_43, z_297, x_45, x_46, x_47, rfl, hx_30, hx_31, hx_32, hx_33, hx_34, hx_35, hx_36, hx_37, hx_38, (show 0 ≤ x_40.toInt ∧ x_40.toInt ≤ 9999 from by omega), (show 0 ≤ x_43.toInt ∧ x_43.toInt ≤ 42 from by omega)⟩)
              have hfr9 : ∀ b, (K b).1 ∉ ([27, 28] : List Nat) → va_up f_281 o (.inr (10, [.ref x_30, .ref x_31, .ref x_32, .ref x_33, .ref x_34, .ref x_35, .ref x_36, .ref x_37, .ref x_38, .int x_39, .int x_40, .int x_41, .int x_42, .int x_43, .int z_297, .int x_45, .long x_46, .long x_47])) b = f b := tp_fr hfr ho (by decide)
              refine tp_put (cy := cy) (ci := 10) (v := .int z_297) (ty := tyX10 14) (C := RX10) (T := TX10) (N := 18) hx hb hta inlX10 tyX10 tyX10_ok nmX10 hown hK hP hD hS ho.1 hf_282 rfl 14 (by decide) (hta _ wk_883) (fun _ h9 => h9) rfl (tyX10_ok 14 (by decide)) rfl rfl (Nat.le_of_ble_eq_true rfl) dX10_measure_154 (fun H locs hP hD hS => ?_)
              have hP : va_P D vwCl (va_pl L (va_up f_281 o (.inr (10, [.ref x_30, .ref x_31, .ref x_32, .ref x_33, .ref x_34, .ref x_35, .ref x_36, .ref x_37, .ref x_38, .int x_39, .int x_40, .int x_41, .int x_42, .int x_43, .int z_297, .int x_45, .long x_46, .long x_47])))) H := hP
              generalize hfe : va_up f_281 o (.inr (10, [.ref x_30, .ref x_31, .ref x_32, .ref x_33, .ref x_34, .ref x_35, .ref x_36, .ref x_37, .ref x_38, .int x_39, .int x_40, .int x_41, .int x_42, .int x_43, .int z_297, .int x_45, .long x_46, .long x_47])) = f_298 at hP hI9 hfr9
              have hD : va_D A (va_pl L f_298) := tp_D hL hAL
              have hf_299 : f_298 o = .inr (10, [.ref x_30, .ref x_31, .ref x_32, .ref x_33, .ref x_34, .ref x_35, .ref x_36, .ref x_37, .ref x_38, .int x_39, .int x_40, .int x_41, .int x_42, .int x_43, .int z_297, .int x_45, .long x_46, .long x_47]) := by rw [← hfe]; exact va_up_self _ _ _
              have hf_300 := (show f_298 x_32 = _ from by rw [← hfe, va_up_ne _ _ (tp_ne hx_32 ho (by decide))]).trans hf_284
              have hf_301 := (show f_298 x_30 = _ from by rw [← hfe, va_up_ne _ _ (tp_ne hx_30 ho (by decide))]).trans hf_290
              clear hfe
              have hI := hI9
              have hfr := hfr9
              clear hI9 hfr9
              refine lv_aload_n hx hb dX10_measure_157 rfl (lv_at hl 3 rfl) ?_
              refine lv_dup hx hb dX10_measure_158 rfl ?_
              refine tp_get (cy := cy) (ci := 10) (v := .long x_46) (C := RX10) (T := TX10) (N := 18) hx hb hta inlX10 hown hK hP ho.1 hf_299 rfl 16 (by decide) (hta _ wk_885) (fun _ h9 => h9) rfl dX10_measure_159 ?_
              refine lv_iload_n hx hb dX10_measure_162 rfl (lv_at hl 1 rfl) ?_
              refine lv_i2l (v := z_59.toInt64) hx hb dX10_measure_163 (by first | rfl | decide) ?_
              refine lv_ladd hx hb dX10_measure_164 ?_
              refine lv_topl (fun z_302 ez_302 => ?_)
              have hI9 : tp_I cy L K Γ (va_up f_298 o (.inr (10, [.ref x_30, .ref x_31, .ref x_32, .ref x_33, .ref x_34, .ref x_35, .ref x_36, .ref x_37, .ref x_38, .int x_39, .int x_40, .int x_41, .int x_42, .int x_43, .int z_297, .int x_45, .long z_302, .long x_47]))) := hI.set ho (show tp_o_VIEW L K (0) 0 (Γ (27, 0, 0)) _ from ⟨x_30, x_31, x_32, x_33, x_34, x_35, x_36, x_37, x_38, x_39, x_40, x_41, x_42, x_43, z_297, x_45, z_302, x_47, rfl, hx_30, hx_31, hx_32, hx_33, hx_34, hx_35, hx_36, hx_37, hx_38, (show 0 ≤ x_40.toInt ∧ x_40.toInt ≤ 9999 from by omega), (show 0 ≤ x_43.toInt ∧ x_43.toInt ≤ 42 from by omega)⟩)
              have hfr9 : ∀ b, (K b).1 ∉ ([27, 28] : List Nat) → va_up f_298 o (.inr (10, [.ref x_30, .ref x_31, .ref x_32, .ref x_33, .ref x_34, .ref x_35, .ref x_36, .ref x_37, .ref x_38, .int x_39, .int x_40, .int x_41, .int x_42, .int x_43, .int z_297, .int x_45, .long z_302, .long x_47])) b = f b := tp_fr hfr ho (by decide)
              refine tp_put (cy := cy) (ci := 10) (v := .long z_302) (ty := tyX10 16) (C := RX10) (T := TX10) (N := 18) hx hb hta inlX10 tyX10 tyX10_ok nmX10 hown hK hP hD hS ho.1 hf_299 rfl 16 (by decide) (hta _ wk_885) (fun _ h9 => h9) rfl (tyX10_ok 16 (by decide)) rfl rfl (Nat.le_of_ble_eq_true rfl) dX10_measure_165 (fun H locs hP hD hS => ?_)
              have hP : va_P D vwCl (va_pl L (va_up f_298 o (.inr (10, [.ref x_30, .ref x_31, .ref x_32, .ref x_33, .ref x_34, .ref x_35, .ref x_36, .ref x_37, .ref x_38, .int x_39, .int x_40, .int x_41, .int x_42, .int x_43, .int z_297, .int x_45, .long z_302, .long x_47])))) H := hP
              generalize hfe : va_up f_298 o (.inr (10, [.ref x_30, .ref x_31, .ref x_32, .ref x_33, .ref x_34, .ref x_35, .ref x_36, .ref x_37, .ref x_38, .int x_39, .int x_40, .int x_41, .int x_42, .int x_43, .int z_297, .int x_45, .long z_302, .long x_47])) = f_303 at hP hI9 hfr9
              have hD : va_D A (va_pl L f_303) := tp_D hL hAL
              have hf_304 : f_303 o = .inr (10, [.ref x_30, .ref x_31, .ref x_32, .ref x_33, .ref x_34, .ref x_35, .ref x_36, .ref x_37, .ref x_38, .int x_39, .int x_40, .int x_41, .int x_42, .int x_43, .int z_297, .int x_45, .long z_302, .long x_47]) := by rw [← hfe]; exact va_up_self _ _ _
              have hf_305 := (show f_303 x_32 = _ from by rw [← hfe, va_up_ne _ _ (tp_ne hx_32 ho (by decide))]).trans hf_300
              have hf_306 := (show f_303 x_30 = _ from by rw [← hfe, va_up_ne _ _ (tp_ne hx_30 ho (by decide))]).trans hf_301
              clear hfe
              have hI := hI9
              have hfr := hfr9
              clear hI9 hfr9
              obtain ⟨z_307, ez_307⟩ : ∃ y : Int32, y = v1 + 1 := ⟨_, rfl⟩
              refine lv_iinc (v := z_307) (lv' := [(1, .int z_307), (3, .int 1), (2, .int z_59), (0, .ref o)]) hx hb dX10_measure_168 hl (k := 2) rfl (by rw [ez_307]; rfl) (by decide) rfl (fun ls hl => ?_)
              try have iz_307 : z_307.toInt = v1.toInt + 1 := by rw [ez_307]; exact tl_addL v1 1 (by decide) (by omega) (by omega)
              refine lv_goto (tgt := 22) hx hb dX10_measure_171 (by decide) ?_
              exact ih22 (f_303, z_307) H locs ls (by show (300 - z_307.toInt).toNat < (300 - v1.toInt).toNat; omega) ⟨(show 0 ≤ z_307.toInt from (by omega)), (show z_307.toInt ≤ 300 from (by omega)), (show tv_gap (f o) → tv_gap (f_303 o) from (fun q => ⟨_, _, _, hf_304, rfl, rfl, hgx q⟩)), hP, hI, hfr, hS, lv_sub hl [0, 3] rfl⟩
          · have c_289 : ¬ z_288.toInt = (0 : Int) := tl_neq c_289
            refine lv_aload_n hx hb dX10_measure_107 rfl (lv_at hl 3 rfl) ?_
            refine lv_dup hx hb dX10_measure_108 rfl ?_
            refine tp_get (cy := cy) (ci := 10) (v := .int x_45) (C := RX10) (T := TX10) (N := 18) hx hb hta inlX10 hown hK hP ho.1 hf_282 rfl 15 (by decide) (hta _ wk_884) (fun _ h9 => h9) rfl dX10_measure_109 ?_
            refine lv_iconst (v := 1) hx hb dX10_measure_112 (by decide) ?_
            refine lv_iadd hx hb dX10_measure_113 ?_
            refine lv_topi (fun z_308 ez_308 => ?_)
            try have iz_308 : z_308.toInt = x_45.toInt + (1 : Int) := by rw [ez_308]; exact tl_addN x_45 1 rfl rfl (by omega) (by omega)
            have hI9 : tp_I cy L K Γ (va_up f_281 o (.inr (10, [.ref x_30, .ref x_31, .ref x_32, .ref x_33, .ref x_34, .ref x_35, .ref x_36, .ref x_37, .ref x_38, .int x_39, .int x_40, .int x_41, .int x_42, .int x_43, .int x_44, .int z_308, .long x_46, .long x_47]))) := hI.set ho (show tp_o_VIEW L K (0) 0 (Γ (27, 0, 0)) _ from ⟨x_30, x_31, x_32, x_33, x_34, x_35, x_36, x_37, x_38, x_39, x_40, x_41, x_42, x_43, x_44, z_308, x_46, x_47, rfl, hx_30, hx_31, hx_32, hx_33, hx_34, hx_35, hx_36, hx_37, hx_38, (show 0 ≤ x_40.toInt ∧ x_40.toInt ≤ 9999 from by omega), (show 0 ≤ x_43.toInt ∧ x_43.toInt ≤ 42 from by omega)⟩)
            have hfr9 : ∀ b, (K b).1 ∉ ([27, 28] : List Nat) → va_up f_281 o (.inr (10, [.ref x_30, .ref x_31, .ref x_32, .ref x_33, .ref x_34, .ref x_35, .ref x_36, .ref x_37, .ref x_38, .int x_39, .int x_40, .int x_41, .int x_42, .int x_43, .int x_44, .int z_308, .long x_46, .long x_47])) b = f b := tp_fr hfr ho (by decide)
            refine tp_put (cy := cy) (ci := 10) (v := .int z_308) (ty := tyX10 15) (C := RX10) (T := TX10) (N := 18) hx hb hta inlX10 tyX10 tyX10_ok nmX10 hown hK hP hD hS ho.1 hf_282 rfl 15 (by decide) (hta _ wk_884) (fun _ h9 => h9) rfl (tyX10_ok 15 (by decide)) rfl rfl (Nat.le_of_ble_eq_true rfl) dX10_measure_114 (fun H locs hP hD hS => ?_)
            have hP : va_P D vwCl (va_pl L (va_up f_281 o (.inr (10, [.ref x_30, .ref x_31, .ref x_32, .ref x_33, .ref x_34, .ref x_35, .ref x_36, .ref x_37, .ref x_38, .int x_39, .int x_40, .int x_41, .int x_42, .int x_43, .int x_44, .int z_308, .long x_46, .long x_47])))) H := hP
            generalize hfe : va_up f_281 o (.inr (10, [.ref x_30, .ref x_31, .ref x_32, .ref x_33, .ref x_34, .ref x_35, .ref x_36, .ref x_37, .ref x_38, .int x_39, .int x_40, .int x_41, .int x_42, .int x_43, .int x_44, .int z_308, .long x_46, .long x_47])) = f_309 at hP hI9 hfr9
            have hD : va_D A (va_pl L f_309) := tp_D hL hAL
            have hf_310 : f_309 o = .inr (10, [.ref x_30, .ref x_31, .ref x_32, .ref x_33, .ref x_34, .ref x_35, .ref x_36, .ref x_37, .ref x_38, .int x_39, .int x_40, .int x_41, .int x_42, .int x_43, .int x_44, .int z_308, .long x_46, .long x_47]) := by rw [← hfe]; exact va_up_self _ _ _
            have hf_311 := (show f_309 x_32 = _ from by rw [← hfe, va_up_ne _ _ (tp_ne hx_32 ho (by decide))]).trans hf_284
            clear hfe
            have hI := hI9
            have hfr := hfr9
            clear hI9 hfr9
            refine lv_aload_n hx hb dX10_measure_117 rfl (lv_at hl 3 rfl) ?_
            refine lv_dup hx hb dX10_measure_118 rfl ?_
            refine tp_get (cy := cy) (ci := 10) (v := .long x_47) (C := RX10) (T := TX10) (N := 18) hx hb hta inlX10 hown hK hP ho.1 hf_310 rfl 17 (by decide) (hta _ wk_886) (fun _ h9 => h9) rfl dX10_measure_119 ?_
            refine lv_iload_n hx hb dX10_measure_122 rfl (lv_at hl 1 rfl) ?_
            refine va_mabs hx hb (by rw [hml]; exact hl.1.symm) hown (hta _ wk_887) (hta _ wk_888) (hta _ wk_83) (hta _ wk_889) (Nat.le_of_ble_eq_true rfl) (Nat.le_of_ble_eq_true rfl) (Nat.le_of_ble_eq_true rfl) (Nat.le_of_ble_eq_true rfl) dX10_measure_123 ?_
            refine lv_topi (fun z_312 ez_312 => ?_)
            have iz_312 : (z_312.toInt = z_59.toInt ∧ 0 ≤ z_59.toInt) ∨ (z_59.toInt < 0 ∧ (z_312.toInt = -z_59.toInt ∨ z_59.toInt = -2147483648)) := by rw [ez_312]; exact tl_absF
            refine lv_i2l (v := z_312.toInt64) hx hb dX10_measure_126 (by first | rfl | decide) ?_
            refine lv_ladd hx hb dX10_measure_127 ?_
            refine lv_topl (fun z_313 ez_313 => ?_)
            have hI9 : tp_I cy L K Γ (va_up f_309 o (.inr (10, [.ref x_30, .ref x_31, .ref x_32, .ref x_33, .ref x_34, .ref x_35, .ref x_36, .ref x_37, .ref x_38, .int x_39, .int x_40, .int x_41, .int x_42, .int x_43, .int x_44, .int z_308, .long x_46, .long z_313]))) := hI.set ho (show tp_o_VIEW L K (0) 0 (Γ (27, 0, 0)) _ from ⟨x_30, x_31, x_32, x_33, x_34, x_35, x_36, x_37, x_38, x_39, x_40, x_41, x_42, x_43, x_44, z_308, x_46, z_313, rfl, hx_30, hx_31, hx_32, hx_33, hx_34, hx_35, hx_36, hx_37, hx_38, (show 0 ≤ x_40.toInt ∧ x_40.toInt ≤ 9999 from by omega), (show 0 ≤ x_43.toInt ∧ x_43.toInt ≤ 42 from by omega)⟩)
            have hfr9 : ∀ b, (K b).1 ∉ ([27, 28] : List Nat) → va_up f_309 o (.inr (10, [.ref x_30, .ref x_31, .ref x_32, .ref x_33, .ref x_34, .ref x_35, .ref x_36, .ref x_37, .ref x_38, .int x_39, .int x_40, .int x_41, .int x_42, .int x_43, .int x_44, .int z_308, .long x_46, .long z_313])) b = f b := tp_fr hfr ho (by decide)
            refine tp_put (cy := cy) (ci := 10) (v := .long z_313) (ty := tyX10 17) (C := RX10) (T := TX10) (N := 18) hx hb hta inlX10 tyX10 tyX10_ok nmX10 hown hK hP hD hS ho.1 hf_310 rfl 17 (by decide) (hta _ wk_886) (fun _ h9 => h9) rfl (tyX10_ok 17 (by decide)) rfl rfl (Nat.le_of_ble_eq_true rfl) dX10_measure_128 (fun H locs hP hD hS => ?_)
            have hP : va_P D vwCl (va_pl L (va_up f_309 o (.inr (10, [.ref x_30, .ref x_31, .ref x_32, .ref x_33, .ref x_34, .ref x_35, .ref x_36, .ref x_37, .ref x_38, .int x_39, .int x_40, .int x_41, .int x_42, .int x_43, .int x_44, .int z_308, .long x_46, .long z_313])))) H := hP
            generalize hfe : va_up f_309 o (.inr (10, [.ref x_30, .ref x_31, .ref x_32, .ref x_33, .ref x_34, .ref x_35, .ref x_36, .ref x_37, .ref x_38, .int x_39, .int x_40, .int x_41, .int x_42, .int x_43, .int x_44, .int z_308, .long x_46, .long z_313])) = f_314 at hP hI9 hfr9
            have hD : va_D A (va_pl L f_314) := tp_D hL hAL
            have hf_315 : f_314 o = .inr (10, [.ref x_30, .ref x_31, .ref x_32, .ref x_33, .ref x_34, .ref x_35, .ref x_36, .ref x_37, .ref x_38, .int x_39, .int x_40, .int x_41, .int x_42, .int x_43, .int x_44, .int z_308, .long x_46, .long z_313]) := by rw [← hfe]; exact va_up_self _ _ _
            have hf_316 := (show f_314 x_32 = _ from by rw [← hfe, va_up_ne _ _ (tp_ne hx_32 ho (by decide))]).trans hf_311
            clear hfe
            have hI := hI9
            have hfr := hfr9
            clear hI9 hfr9
            refine lv_goto (tgt := 168) hx hb dX10_measure_131 (by decide) ?_
            obtain ⟨z_317, ez_317⟩ : ∃ y : Int32, y = v1 + 1 := ⟨_, rfl⟩
            refine lv_iinc (v := z_317) (lv' := [(1, .int z_317), (3, .int 1), (2, .int z_59), (0, .ref o)]) hx hb dX10_measure_168 hl (k := 2) rfl (by rw [ez_317]; rfl) (by decide) rfl (fun ls hl => ?_)
            try have iz_317 : z_317.toInt = v1.toInt + 1 := by rw [ez_317]; exact tl_addL v1 1 (by decide) (by omega) (by omega)
            refine lv_goto (tgt := 22) hx hb dX10_measure_171 (by decide) ?_
            exact ih22 (f_314, z_317) H locs ls (by show (300 - z_317.toInt).toNat < (300 - v1.toInt).toNat; omega) ⟨(show 0 ≤ z_317.toInt from (by omega)), (show z_317.toInt ≤ 300 from (by omega)), (show tv_gap (f o) → tv_gap (f_314 o) from (fun q => ⟨_, _, _, hf_315, rfl, rfl, hgx q⟩)), hP, hI, hfr, hS, lv_sub hl [0, 3] rfl⟩
set_option maxHeartbeats 4000000 in
set_option maxRecDepth 100000 in
theorem t_X10_lay (l : Launch) (D : va_G) (cy : Nat → ClassId) (sz : Nat) (L : List Nat) (K : Nat → tk_K) (Γ : tk_G) (f : Nat → va_E) (o : Nat) (ho : tp_r L K 27 (0) 0 o) : Met l yX10_lay (tl_w yX10_lay cX10_lay 1 none) ({ frames := 3, cells := 0, slots := 0, locals := 69 }) (va_Pc [.ref o] (tp_P D cy L K Γ f sz)) (va_Qv (fun (u : Nat → va_E) => tv_gap (f o) → tv_gap (u o)) (tp_B D cy L K Γ f [27, 31, 32, 29, 28]) (tp_A L sz)) 0 0 (tp_A L sz) := by
  refine Met.ofW (cc := cX10_lay) (maxL := 1) (ret := none) (by decide) rfl ?_
  intro p e s m args below meth c s₁ B hml hv
  obtain ⟨rfl, hsz, hP, hK, hL, hI, hN, hU⟩ := hv
  have hx := B.exec
  have hb := B.bytes
  have hr := B.returns
  have hta := tl_hta (atoms_spec (ws := tl_w yX10_lay cX10_lay 1 none) B.pre)
  have hown : s.vm.findClass RX10 = some m.cls := findClass_of_methodNamed B.named
  have hlocks := B.notSynchronized
  subst hsz
  have hI0 := hI
  generalize hAe : tp_A L s.heap.size = A
  have hA : ∀ q : Nat, s.heap.size ≤ q → A q := fun q h => by rw [← hAe]; exact Or.inr h
  have hAL : ∀ q ∈ L, A q := fun q h => by rw [← hAe]; exact Or.inl h
  have hAf : ∀ (H : Heap), s.heap.size ≤ H.size → ∀ q, tp_A L H.size q → A q := fun H h q hq => hq.elim (hAL q) (fun h2 => hA q (Nat.le_trans h h2))
  have hS : va_S A s.heap s.heap [] := va_S.rf
  have hD : va_D A (va_pl L f) := tp_D hL hAL
  have hfr : ∀ b, (K b).1 ∉ ([27, 31, 32, 29, 28] : List Nat) → f b = f b := fun _ _ => rfl
  have hl := lv_entry ([.ref o]) (n := 1) (Nat.le_of_ble_eq_true rfl)
  rw [lg_entry_eq]
  generalize (lg_sl ([.ref o]) ++ List.replicate (1 - (lg_sl ([.ref o])).length) Slot.unset).toArray = ls at hl ⊢
  have hl : lv_has ls 1 [(0, .ref o)] := hl
  refine lv_aload_n hx hb dX10_lay_0 rfl (lv_at hl 0 rfl) ?_
  obtain ⟨x_2, x_3, x_4, x_5, x_6, x_7, x_8, x_9, x_10, x_11, x_12, x_13, x_14, x_15, x_16, x_17, x_18, x_19, hf_1, hx_2, hx_3, hx_4, hx_5, hx_6, hx_7, hx_8, hx_9, hx_10, hx_12, hx_15⟩ := (show tp_o_VIEW L K (0) 0 (Γ (27, 0, 0)) (f o) from hI.at ho)
  refine tq_cv hS (hAf _ hS.1) (tq_rV (As := []) (rest := []) ⟨hx, hb, hml, hown, hta⟩ (tp_P.pre hK hN hL hU hI hP) (tp_recv hK hP ho.1 hf_1 rfl) lk_X10_91 (t_X10_layKnots l D cy s.heap.size L K Γ f o ho) rfl rfl ⟨Nat.le_of_ble_eq_true rfl, Nat.le_of_ble_eq_true rfl⟩ rfl hl.1 rfl (Nat.le_of_ble_eq_true rfl) dX10_lay_1 ⟨Nat.le_of_ble_eq_true rfl, Nat.le_of_ble_eq_true rfl⟩) (fun f_22 H locs hw_20 hP hI hc_23 hS => ?_)
  have hD : va_D A (va_pl L f_22) := tp_D hL hAL
  have hfr := tp_fr2 hfr hc_23 (by decide)
  have hw_20 : tv_gap (f o) → tv_gap (f_22 o) := hw_20
  have hq1 : tv_gap (f o) → tv_gap (f_22 o) := hw_20
  refine lv_aload_n hx hb dX10_lay_4 rfl (lv_at hl 0 rfl) ?_
  obtain ⟨x_25, x_26, x_27, x_28, x_29, x_30, x_31, x_32, x_33, x_34, x_35, x_36, x_37, x_38, x_39, x_40, x_41, x_42, hf_24, hx_25, hx_26, hx_27, hx_28, hx_29, hx_30, hx_31, hx_32, hx_33, hx_35, hx_38⟩ := (show tp_o_VIEW L K (0) 0 (Γ (27, 0, 0)) (f_22 o) from hI.at ho)
  refine tq_cv hS (hAf _ hS.1) (tq_rV (As := []) (rest := []) ⟨hx, hb, hml, hown, hta⟩ (tp_P.pre hK hN hL hU hI hP) (tp_recv hK hP ho.1 hf_24 rfl) lk_X10_94 (t_X10_layHeights l D cy H.size L K Γ f_22 o ho) rfl rfl ⟨Nat.le_of_ble_eq_true rfl, Nat.le_of_ble_eq_true rfl⟩ rfl hl.1 rfl (Nat.le_of_ble_eq_true rfl) dX10_lay_5 ⟨Nat.le_of_ble_eq_true rfl, Nat.le_of_ble_eq_true rfl⟩) (fun f_45 H locs hw_43 hP hI hc_46 hS => ?_)
  have hD : va_D A (va_pl L f_45) := tp_D hL hAL
  have hfr := tp_fr2 hfr hc_46 (by decide)
  have hf_47 := (tp_un hc_46 ho (by decide)).trans hf_24
  have hq2 : f_45 o = f_22 o := tp_un hc_46 ho (by decide)
  refine lv_aload_n hx hb dX10_lay_8 rfl (lv_at hl 0 rfl) ?_
  refine tq_cv hS (hAf _ hS.1) (tq_rV (As := []) (rest := []) ⟨hx, hb, hml, hown, hta⟩ (tp_P.pre hK hN hL hU hI hP) (tp_recv hK hP ho.1 hf_47 rfl) lk_X10_97 (t_X10_measure l D cy H.size L K Γ f_45 o ho) rfl rfl ⟨Nat.le_of_ble_eq_true rfl, Nat.le_of_ble_eq_true rfl⟩ rfl hl.1 rfl (Nat.le_of_ble_eq_true rfl) dX10_lay_9 ⟨Nat.le_of_ble_eq_true rfl, Nat.le_of_ble_eq_true rfl⟩) (fun f_50 H locs hw_48 hP hI hc_51 hS => ?_)
  have hD : va_D A (va_pl L f_50) := tp_D hL hAL
  have hfr := tp_fr2 hfr hc_51 (by decide)
  have hw_48 : tv_gap (f_45 o) → tv_gap (f_50 o) := hw_48
  have hq3 : tv_gap (f o) → tv_gap (f_50 o) := fun q => hw_48 (by rw [hq2]; exact hq1 q)
  exact W.vret hx hb hr (fun t ht hW => ⟨⟨f_50, rfl, hq3, by rw [ht]; exact hP, hI, hfr⟩, hS.F ht⟩) hS.2.2 dX10_lay_12
set_option maxHeartbeats 4000000 in
set_option maxRecDepth 100000 in
theorem t_X10_moveTo (l : Launch) (D : va_G) (cy : Nat → ClassId) (sz : Nat) (L : List Nat) (K : Nat → tk_K) (Γ : tk_G) (f : Nat → va_E) (o : Nat) (p0 : Int32) (ho : tp_r L K 27 (0) 0 o) : Met l yX10_moveTo (tl_w yX10_moveTo cX10_moveTo 2 none) ({ frames := 4, cells := 0, slots := 0, locals := 89 }) (va_Pc [.ref o, .int p0] (tp_P D cy L K Γ f sz)) (va_Qv (fun (u : Nat → va_E) => True) (tp_B D cy L K Γ f [27, 31, 32, 29, 28]) (tp_A L sz)) 0 0 (tp_A L sz) := by
  refine Met.ofW (cc := cX10_moveTo) (maxL := 2) (ret := none) (by decide) rfl ?_
  intro p e s m args below meth c s₁ B hml hv
  obtain ⟨rfl, hsz, hP, hK, hL, hI, hN, hU⟩ := hv
  have hx := B.exec
  have hb := B.bytes
  have hr := B.returns
  have hta := tl_hta (atoms_spec (ws := tl_w yX10_moveTo cX10_moveTo 2 none) B.pre)
  have hown : s.vm.findClass RX10 = some m.cls := findClass_of_methodNamed B.named
  have hlocks := B.notSynchronized
  subst hsz
  have hI0 := hI
  generalize hAe : tp_A L s.heap.size = A
  have hA : ∀ q : Nat, s.heap.size ≤ q → A q := fun q h => by rw [← hAe]; exact Or.inr h
  have hAL : ∀ q ∈ L, A q := fun q h => by rw [← hAe]; exact Or.inl h
  have hAf : ∀ (H : Heap), s.heap.size ≤ H.size → ∀ q, tp_A L H.size q → A q := fun H h q hq => hq.elim (hAL q) (fun h2 => hA q (Nat.le_trans h h2))
  have hS : va_S A s.heap s.heap [] := va_S.rf
  have hD : va_D A (va_pl L f) := tp_D hL hAL
  have hfr : ∀ b, (K b).1 ∉ ([27, 31, 32, 29, 28] : List Nat) → f b = f b := fun _ _ => rfl
  have hl := lv_entry ([.ref o, .int p0]) (n := 2) (Nat.le_of_ble_eq_true rfl)
  rw [lg_entry_eq]
  generalize (lg_sl ([.ref o, .int p0]) ++ List.replicate (2 - (lg_sl ([.ref o, .int p0])).length) Slot.unset).toArray = ls at hl ⊢
  have hl : lv_has ls 2 [(0, .ref o), (1, .int p0)] := hl
  refine lv_aload_n hx hb dX10_moveTo_0 rfl (lv_at hl 0 rfl) ?_
  refine lv_iload_n hx hb dX10_moveTo_1 rfl (lv_at hl 1 rfl) ?_
  refine lv_aload_n hx hb dX10_moveTo_2 rfl (lv_at hl 0 rfl) ?_
  obtain ⟨x_2, x_3, x_4, x_5, x_6, x_7, x_8, x_9, x_10, x_11, x_12, x_13, x_14, x_15, x_16, x_17, x_18, x_19, hf_1, hx_2, hx_3, hx_4, hx_5, hx_6, hx_7, hx_8, hx_9, hx_10, hx_12, hx_15⟩ := (show tp_o_VIEW L K (0) 0 (Γ (27, 0, 0)) (f o) from hI.at ho)
  refine tp_get (cy := cy) (ci := 10) (v := .int x_14) (C := RX10) (T := TX10) (N := 18) hx hb hta inlX10 hown hK hP ho.1 hf_1 rfl 12 (by decide) (hta _ wk_849) (fun _ h9 => h9) rfl dX10_moveTo_3 ?_
  refine lv_iadd hx hb dX10_moveTo_6 ?_
  refine lv_topi (fun z_20 ez_20 => ?_)
  try have iz_20 : z_20.toInt = p0.toInt + x_14.toInt := by rw [ez_20]; exact tl_addN p0 x_14 rfl rfl (by omega) (by omega)
  refine lv_aload_n hx hb dX10_moveTo_7 rfl (lv_at hl 0 rfl) ?_
  refine tp_get (cy := cy) (ci := 10) (v := .int x_13) (C := RX10) (T := TX10) (N := 18) hx hb hta inlX10 hown hK hP ho.1 hf_1 rfl 11 (by decide) (hta _ wk_848) (fun _ h9 => h9) rfl dX10_moveTo_8 ?_
  refine lv_isub hx hb dX10_moveTo_11 ?_
  refine lv_topi (fun z_21 ez_21 => ?_)
  try have iz_21 : z_21.toInt = z_20.toInt - x_13.toInt := by rw [ez_21]; exact tl_subN z_20 x_13 rfl rfl (by omega) (by omega)
  have hI9 : tp_I cy L K Γ (va_up f o (.inr (10, [.ref x_2, .ref x_3, .ref x_4, .ref x_5, .ref x_6, .ref x_7, .ref x_8, .ref x_9, .ref x_10, .int x_11, .int x_12, .int x_13, .int z_21, .int x_15, .int x_16, .int x_17, .long x_18, .long x_19]))) := hI.set ho (show tp_o_VIEW L K (0) 0 (Γ (27, 0, 0)) _ from ⟨x_2, x_3, x_4, x_5, x_6, x_7, x_8, x_9, x_10, x_11, x_12, x_13, z_21, x_15, x_16, x_17, x_18, x_19, rfl, hx_2, hx_3, hx_4, hx_5, hx_6, hx_7, hx_8, hx_9, hx_10, (show 0 ≤ x_12.toInt ∧ x_12.toInt ≤ 9999 from by omega), (show 0 ≤ x_15.toInt ∧ x_15.toInt ≤ 42 from by omega)⟩)
  have hfr9 : ∀ b, (K b).1 ∉ ([27, 31, 32, 29, 28] : List Nat) → va_up f o (.inr (10, [.ref x_2, .ref x_3, .ref x_4, .ref x_5, .ref x_6, .ref x_7, .ref x_8, .ref x_9, .ref x_10, .int x_11, .int x_12, .int x_13, .int z_21, .int x_15, .int x_16, .int x_17, .long x_18, .long x_19])) b = f b := tp_fr hfr ho (by decide)
  refine tp_put (cy := cy) (ci := 10) (v := .int z_21) (ty := tyX10 12) (C := RX10) (T := TX10) (N := 18) hx hb hta inlX10 tyX10 tyX10_ok nmX10 hown hK hP hD hS ho.1 hf_1 rfl 12 (by decide) (hta _ wk_849) (fun _ h9 => h9) rfl (tyX10_ok 12 (by decide)) rfl rfl (Nat.le_of_ble_eq_true rfl) dX10_moveTo_12 (fun H locs hP hD hS => ?_)
  have hP : va_P D vwCl (va_pl L (va_up f o (.inr (10, [.ref x_2, .ref x_3, .ref x_4, .ref x_5, .ref x_6, .ref x_7, .ref x_8, .ref x_9, .ref x_10, .int x_11, .int x_12, .int x_13, .int z_21, .int x_15, .int x_16, .int x_17, .long x_18, .long x_19])))) H := hP
  generalize hfe : va_up f o (.inr (10, [.ref x_2, .ref x_3, .ref x_4, .ref x_5, .ref x_6, .ref x_7, .ref x_8, .ref x_9, .ref x_10, .int x_11, .int x_12, .int x_13, .int z_21, .int x_15, .int x_16, .int x_17, .long x_18, .long x_19])) = f_22 at hP hI9 hfr9
  have hD : va_D A (va_pl L f_22) := tp_D hL hAL
  have hf_23 : f_22 o = .inr (10, [.ref x_2, .ref x_3, .ref x_4, .ref x_5, .ref x_6, .ref x_7, .ref x_8, .ref x_9, .ref x_10, .int x_11, .int x_12, .int x_13, .int z_21, .int x_15, .int x_16, .int x_17, .long x_18, .long x_19]) := by rw [← hfe]; exact va_up_self _ _ _
  clear hfe
  have hI := hI9
  have hfr := hfr9
  clear hI9 hfr9
  refine lv_aload_n hx hb dX10_moveTo_15 rfl (lv_at hl 0 rfl) ?_
  refine lv_iload_n hx hb dX10_moveTo_16 rfl (lv_at hl 1 rfl) ?_
  have hI9 : tp_I cy L K Γ (va_up f_22 o (.inr (10, [.ref x_2, .ref x_3, .ref x_4, .ref x_5, .ref x_6, .ref x_7, .ref x_8, .ref x_9, .ref x_10, .int x_11, .int x_12, .int p0, .int z_21, .int x_15, .int x_16, .int x_17, .long x_18, .long x_19]))) := hI.set ho (show tp_o_VIEW L K (0) 0 (Γ (27, 0, 0)) _ from ⟨x_2, x_3, x_4, x_5, x_6, x_7, x_8, x_9, x_10, x_11, x_12, p0, z_21, x_15, x_16, x_17, x_18, x_19, rfl, hx_2, hx_3, hx_4, hx_5, hx_6, hx_7, hx_8, hx_9, hx_10, (show 0 ≤ x_12.toInt ∧ x_12.toInt ≤ 9999 from by omega), (show 0 ≤ x_15.toInt ∧ x_15.toInt ≤ 42 from by omega)⟩)
  have hfr9 : ∀ b, (K b).1 ∉ ([27, 31, 32, 29, 28] : List Nat) → va_up f_22 o (.inr (10, [.ref x_2, .ref x_3, .ref x_4, .ref x_5, .ref x_6, .ref x_7, .ref x_8, .ref x_9, .ref x_10, .int x_11, .int x_12, .int p0, .int z_21, .int x_15, .int x_16, .int x_17, .long x_18, .long x_19])) b = f b := tp_fr hfr ho (by decide)
  refine tp_put (cy := cy) (ci := 10) (v := .int p0) (ty := tyX10 11) (C := RX10) (T := TX10) (N := 18) hx hb hta inlX10 tyX10 tyX10_ok nmX10 hown hK hP hD hS ho.1 hf_23 rfl 11 (by decide) (hta _ wk_848) (fun _ h9 => h9) rfl (tyX10_ok 11 (by decide)) rfl rfl (Nat.le_of_ble_eq_true rfl) dX10_moveTo_17 (fun H locs hP hD hS => ?_)
  have hP : va_P D vwCl (va_pl L (va_up f_22 o (.inr (10, [.ref x_2, .ref x_3, .ref x_4, .ref x_5, .ref x_6, .ref x_7, .ref x_8, .ref x_9, .ref x_10, .int x_11, .int x_12, .int p0, .int z_21, .int x_15, .int x_16, .int x_17, .long x_18, .long x_19])))) H := hP
  generalize hfe : va_up f_22 o (.inr (10, [.ref x_2, .ref x_3, .ref x_4, .ref x_5, .ref x_6, .ref x_7, .ref x_8, .ref x_9, .ref x_10, .int x_11, .int x_12, .int p0, .int z_21, .int x_15, .int x_16, .int x_17, .long x_18, .long x_19])) = f_24 at hP hI9 hfr9
  have hD : va_D A (va_pl L f_24) := tp_D hL hAL
  have hf_25 : f_24 o = .inr (10, [.ref x_2, .ref x_3, .ref x_4, .ref x_5, .ref x_6, .ref x_7, .ref x_8, .ref x_9, .ref x_10, .int x_11, .int x_12, .int p0, .int z_21, .int x_15, .int x_16, .int x_17, .long x_18, .long x_19]) := by rw [← hfe]; exact va_up_self _ _ _
  clear hfe
  have hI := hI9
  have hfr := hfr9
  clear hI9 hfr9
  refine lv_aload_n hx hb dX10_moveTo_20 rfl (lv_at hl 0 rfl) ?_
  refine tq_cv hS (hAf _ hS.1) (tq_rV (As := []) (rest := []) ⟨hx, hb, hml, hown, hta⟩ (tp_P.pre hK hN hL hU hI hP) (tp_recv hK hP ho.1 hf_25 rfl) lk_X10_88 (t_X10_lay l D cy H.size L K Γ f_24 o ho) rfl rfl ⟨Nat.le_of_ble_eq_true rfl, Nat.le_of_ble_eq_true rfl⟩ rfl hl.1 rfl (Nat.le_of_ble_eq_true rfl) dX10_moveTo_21 ⟨Nat.le_of_ble_eq_true rfl, Nat.le_of_ble_eq_true rfl⟩) (fun f_28 H locs hw_26 hP hI hc_29 hS => ?_)
  have hD : va_D A (va_pl L f_28) := tp_D hL hAL
  have hfr := tp_fr2 hfr hc_29 (by decide)
  have hw_26 : tv_gap (f_24 o) → tv_gap (f_28 o) := hw_26
  exact W.vret hx hb hr (fun t ht hW => ⟨⟨f_28, rfl, trivial, by rw [ht]; exact hP, hI, hfr⟩, hS.F ht⟩) hS.2.2 dX10_moveTo_24
set_option maxHeartbeats 4000000 in
set_option maxRecDepth 100000 in
theorem t_X10_bendTo (l : Launch) (D : va_G) (cy : Nat → ClassId) (sz : Nat) (L : List Nat) (K : Nat → tk_K) (Γ : tk_G) (f : Nat → va_E) (o : Nat) (p0 : Int32) (ho : tp_r L K 27 (0) 0 o) : Met l yX10_bendTo (tl_w yX10_bendTo cX10_bendTo 2 none) ({ frames := 4, cells := 0, slots := 0, locals := 89 }) (va_Pc [.ref o, .int p0] (tp_P D cy L K Γ f sz)) (va_Qv (fun (u : Nat → va_E) => True) (tp_B D cy L K Γ f [27, 31, 32, 29, 28]) (tp_A L sz)) 0 0 (tp_A L sz) := by
  refine Met.ofW (cc := cX10_bendTo) (maxL := 2) (ret := none) (by decide) rfl ?_
  intro p e s m args below meth c s₁ B hml hv
  obtain ⟨rfl, hsz, hP, hK, hL, hI, hN, hU⟩ := hv
  have hx := B.exec
  have hb := B.bytes
  have hr := B.returns
  have hta := tl_hta (atoms_spec (ws := tl_w yX10_bendTo cX10_bendTo 2 none) B.pre)
  have hown : s.vm.findClass RX10 = some m.cls := findClass_of_methodNamed B.named
  have hlocks := B.notSynchronized
  subst hsz
  have hI0 := hI
  generalize hAe : tp_A L s.heap.size = A
  have hA : ∀ q : Nat, s.heap.size ≤ q → A q := fun q h => by rw [← hAe]; exact Or.inr h
  have hAL : ∀ q ∈ L, A q := fun q h => by rw [← hAe]; exact Or.inl h
  have hAf : ∀ (H : Heap), s.heap.size ≤ H.size → ∀ q, tp_A L H.size q → A q := fun H h q hq => hq.elim (hAL q) (fun h2 => hA q (Nat.le_trans h h2))
  have hS : va_S A s.heap s.heap [] := va_S.rf
  have hD : va_D A (va_pl L f) := tp_D hL hAL
  have hfr : ∀ b, (K b).1 ∉ ([27, 31, 32, 29, 28] : List Nat) → f b = f b := fun _ _ => rfl
  have hl := lv_entry ([.ref o, .int p0]) (n := 2) (Nat.le_of_ble_eq_true rfl)
  rw [lg_entry_eq]
  generalize (lg_sl ([.ref o, .int p0]) ++ List.replicate (2 - (lg_sl ([.ref o, .int p0])).length) Slot.unset).toArray = ls at hl ⊢
  have hl : lv_has ls 2 [(0, .ref o), (1, .int p0)] := hl
  refine lv_aload_n hx hb dX10_bendTo_0 rfl (lv_at hl 0 rfl) ?_
  refine lv_iload_n hx hb dX10_bendTo_1 rfl (lv_at hl 1 rfl) ?_
  obtain ⟨x_2, x_3, x_4, x_5, x_6, x_7, x_8, x_9, x_10, x_11, x_12, x_13, x_14, x_15, x_16, x_17, x_18, x_19, hf_1, hx_2, hx_3, hx_4, hx_5, hx_6, hx_7, hx_8, hx_9, hx_10, hx_12, hx_15⟩ := (show tp_o_VIEW L K (0) 0 (Γ (27, 0, 0)) (f o) from hI.at ho)
  have hI9 : tp_I cy L K Γ (va_up f o (.inr (10, [.ref x_2, .ref x_3, .ref x_4, .ref x_5, .ref x_6, .ref x_7, .ref x_8, .ref x_9, .ref x_10, .int p0, .int x_12, .int x_13, .int x_14, .int x_15, .int x_16, .int x_17, .long x_18, .long x_19]))) := hI.set ho (show tp_o_VIEW L K (0) 0 (Γ (27, 0, 0)) _ from ⟨x_2, x_3, x_4, x_5, x_6, x_7, x_8, x_9, x_10, p0, x_12, x_13, x_14, x_15, x_16, x_17, x_18, x_19, rfl, hx_2, hx_3, hx_4, hx_5, hx_6, hx_7, hx_8, hx_9, hx_10, (show 0 ≤ x_12.toInt ∧ x_12.toInt ≤ 9999 from by omega), (show 0 ≤ x_15.toInt ∧ x_15.toInt ≤ 42 from by omega)⟩)
  have hfr9 : ∀ b, (K b).1 ∉ ([27, 31, 32, 29, 28] : List Nat) → va_up f o (.inr (10, [.ref x_2, .ref x_3, .ref x_4, .ref x_5, .ref x_6, .ref x_7, .ref x_8, .ref x_9, .ref x_10, .int p0, .int x_12, .int x_13, .int x_14, .int x_15, .int x_16, .int x_17, .long x_18, .long x_19])) b = f b := tp_fr hfr ho (by decide)
  refine tp_put (cy := cy) (ci := 10) (v := .int p0) (ty := tyX10 9) (C := RX10) (T := TX10) (N := 18) hx hb hta inlX10 tyX10 tyX10_ok nmX10 hown hK hP hD hS ho.1 hf_1 rfl 9 (by decide) (hta _ wk_846) (fun _ h9 => h9) rfl (tyX10_ok 9 (by decide)) rfl rfl (Nat.le_of_ble_eq_true rfl) dX10_bendTo_2 (fun H locs hP hD hS => ?_)
  have hP : va_P D vwCl (va_pl L (va_up f o (.inr (10, [.ref x_2, .ref x_3, .ref x_4, .ref x_5, .ref x_6, .ref x_7, .ref x_8, .ref x_9, .ref x_10, .int p0, .int x_12, .int x_13, .int x_14, .int x_15, .int x_16, .int x_17, .long x_18, .long x_19])))) H := hP
  generalize hfe : va_up f o (.inr (10, [.ref x_2, .ref x_3, .ref x_4, .ref x_5, .ref x_6, .ref x_7, .ref x_8, .ref x_9, .ref x_10, .int p0, .int x_12, .int x_13, .int x_14, .int x_15, .int x_16, .int x_17, .long x_18, .long x_19])) = f_20 at hP hI9 hfr9
  have hD : va_D A (va_pl L f_20) := tp_D hL hAL
  have hf_21 : f_20 o = .inr (10, [.ref x_2, .ref x_3, .ref x_4, .ref x_5, .ref x_6, .ref x_7, .ref x_8, .ref x_9, .ref x_10, .int p0, .int x_12, .int x_13, .int x_14, .int x_15, .int x_16, .int x_17, .long x_18, .long x_19]) := by rw [← hfe]; exact va_up_self _ _ _
  clear hfe
  have hI := hI9
  have hfr := hfr9
  clear hI9 hfr9
  refine lv_aload_n hx hb dX10_bendTo_5 rfl (lv_at hl 0 rfl) ?_
  refine tq_cv hS (hAf _ hS.1) (tq_rV (As := []) (rest := []) ⟨hx, hb, hml, hown, hta⟩ (tp_P.pre hK hN hL hU hI hP) (tp_recv hK hP ho.1 hf_21 rfl) lk_X10_88 (t_X10_lay l D cy H.size L K Γ f_20 o ho) rfl rfl ⟨Nat.le_of_ble_eq_true rfl, Nat.le_of_ble_eq_true rfl⟩ rfl hl.1 rfl (Nat.le_of_ble_eq_true rfl) dX10_bendTo_6 ⟨Nat.le_of_ble_eq_true rfl, Nat.le_of_ble_eq_true rfl⟩) (fun f_24 H locs hw_22 hP hI hc_25 hS => ?_)
  have hD : va_D A (va_pl L f_24) := tp_D hL hAL
  have hfr := tp_fr2 hfr hc_25 (by decide)
  have hw_22 : tv_gap (f_20 o) → tv_gap (f_24 o) := hw_22
  exact W.vret hx hb hr (fun t ht hW => ⟨⟨f_24, rfl, trivial, by rw [ht]; exact hP, hI, hfr⟩, hS.F ht⟩) hS.2.2 dX10_bendTo_9
set_option maxHeartbeats 4000000 in
set_option maxRecDepth 100000 in
theorem t_X10_isLaid (l : Launch) (D : va_G) (cy : Nat → ClassId) (sz : Nat) (L : List Nat) (K : Nat → tk_K) (Γ : tk_G) (f : Nat → va_E) (o : Nat) (ho : tp_r L K 27 (0) 0 o) : Met l yX10_isLaid (tl_w yX10_isLaid cX10_isLaid 1 (some .boolean)) ({ frames := 0, cells := 0, slots := 0, locals := 0 }) (va_Pc [.ref o] (tp_P D cy L K Γ f sz)) (vp_Si (fun r : Int32 => tl_J r (True))) 0 0 (fun _ => False) := by
  refine Met.ofW (cc := cX10_isLaid) (maxL := 1) (ret := (some .boolean)) (by decide) rfl ?_
  intro p e s m args below meth c s₁ B hml hv
  obtain ⟨rfl, hsz, hP, hK, hL, hI, hN, hU⟩ := hv
  have hx := B.exec
  have hb := B.bytes
  have hr := B.returns
  have hta := tl_hta (atoms_spec (ws := tl_w yX10_isLaid cX10_isLaid 1 (some .boolean)) B.pre)
  have hown : s.vm.findClass RX10 = some m.cls := findClass_of_methodNamed B.named
  have hlocks := B.notSynchronized
  subst hsz
  have hI0 := hI
  have hl := lv_entry ([.ref o]) (n := 1) (Nat.le_of_ble_eq_true rfl)
  rw [lg_entry_eq]
  generalize (lg_sl ([.ref o]) ++ List.replicate (1 - (lg_sl ([.ref o])).length) Slot.unset).toArray = ls at hl ⊢
  have hl : lv_has ls 1 [(0, .ref o)] := hl
  refine lv_aload_n hx hb dX10_isLaid_0 rfl (lv_at hl 0 rfl) ?_
  obtain ⟨x_2, x_3, x_4, x_5, x_6, x_7, x_8, x_9, x_10, x_11, x_12, x_13, x_14, x_15, x_16, x_17, x_18, x_19, hf_1, hx_2, hx_3, hx_4, hx_5, hx_6, hx_7, hx_8, hx_9, hx_10, hx_12, hx_15⟩ := (show tp_o_VIEW L K (0) 0 (Γ (27, 0, 0)) (f o) from hI0.at ho)
  refine tp_get (cy := cy) (ci := 10) (v := .int x_15) (C := RX10) (T := TX10) (N := 18) hx hb hta inlX10 hown hK hP ho.1 hf_1 rfl 13 (by decide) (hta _ wk_860) (fun _ h9 => h9) rfl dX10_isLaid_1 ?_
  refine lv_if_le (tgt := 11) hx hb dX10_isLaid_4 (by decide) (fun c_20 => ?_) (fun c_20 => ?_)
  · have c_20 : x_15.toInt ≤ (0 : Int) := tl_le c_20
    refine lv_iconst (v := 0) hx hb dX10_isLaid_11 (by decide) ?_
    exact W.zret (ty := .boolean) (v := 0) hx hb hr rfl (fun t ht hW => ⟨_, rfl, (Or.inr rfl), ht⟩) (fun q h => by cases h) dX10_isLaid_12
  · have c_20 : (0 : Int) < x_15.toInt := tl_nle c_20
    refine lv_iconst (v := 1) hx hb dX10_isLaid_7 (by decide) ?_
    refine lv_goto (tgt := 12) hx hb dX10_isLaid_8 (by decide) ?_
    exact W.zret (ty := .boolean) (v := 1) hx hb hr rfl (fun t ht hW => ⟨_, rfl, (Or.inl ⟨rfl, trivial⟩), ht⟩) (fun q h => by cases h) dX10_isLaid_12
set_option maxHeartbeats 4000000 in
set_option maxRecDepth 100000 in
theorem t_X10_hasDeep (l : Launch) (D : va_G) (cy : Nat → ClassId) (sz : Nat) (L : List Nat) (K : Nat → tk_K) (Γ : tk_G) (f : Nat → va_E) (o : Nat) (ho : tp_r L K 27 (0) 0 o) : Met l yX10_hasDeep (tl_w yX10_hasDeep cX10_hasDeep 1 (some .boolean)) ({ frames := 0, cells := 0, slots := 0, locals := 0 }) (va_Pc [.ref o] (tp_P D cy L K Γ f sz)) (vp_Si (fun r : Int32 => tl_J r (tv_gc (f o)))) 0 0 (fun _ => False) := by
  refine Met.ofW (cc := cX10_hasDeep) (maxL := 1) (ret := (some .boolean)) (by decide) rfl ?_
  intro p e s m args below meth c s₁ B hml hv
  obtain ⟨rfl, hsz, hP, hK, hL, hI, hN, hU⟩ := hv
  have hx := B.exec
  have hb := B.bytes
  have hr := B.returns
  have hta := tl_hta (atoms_spec (ws := tl_w yX10_hasDeep cX10_hasDeep 1 (some .boolean)) B.pre)
  have hown : s.vm.findClass RX10 = some m.cls := findClass_of_methodNamed B.named
  have hlocks := B.notSynchronized
  subst hsz
  have hI0 := hI
  have hl := lv_entry ([.ref o]) (n := 1) (Nat.le_of_ble_eq_true rfl)
  rw [lg_entry_eq]
  generalize (lg_sl ([.ref o]) ++ List.replicate (1 - (lg_sl ([.ref o])).length) Slot.unset).toArray = ls at hl ⊢
  have hl : lv_has ls 1 [(0, .ref o)] := hl
  refine lv_aload_n hx hb dX10_hasDeep_0 rfl (lv_at hl 0 rfl) ?_
  obtain ⟨x_2, x_3, x_4, x_5, x_6, x_7, x_8, x_9, x_10, x_11, x_12, x_13, x_14, x_15, x_16, x_17, x_18, x_19, hf_1, hx_2, hx_3, hx_4, hx_5, hx_6, hx_7, hx_8, hx_9, hx_10, hx_12, hx_15⟩ := (show tp_o_VIEW L K (0) 0 (Γ (27, 0, 0)) (f o) from hI0.at ho)
  refine tp_get (cy := cy) (ci := 10) (v := .int x_15) (C := RX10) (T := TX10) (N := 18) hx hb hta inlX10 hown hK hP ho.1 hf_1 rfl 13 (by decide) (hta _ wk_860) (fun _ h9 => h9) rfl dX10_hasDeep_1 ?_
  refine lv_if_le (tgt := 18) hx hb dX10_hasDeep_4 (by decide) (fun c_20 => ?_) (fun c_20 => ?_)
  · have c_20 : x_15.toInt ≤ (0 : Int) := tl_le c_20
    refine lv_iconst (v := 0) hx hb dX10_hasDeep_18 (by decide) ?_
    exact W.zret (ty := .boolean) (v := 0) hx hb hr rfl (fun t ht hW => ⟨_, rfl, (Or.inr rfl), ht⟩) (fun q h => by cases h) dX10_hasDeep_19
  · have c_20 : (0 : Int) < x_15.toInt := tl_nle c_20
    refine lv_aload_n hx hb dX10_hasDeep_7 rfl (lv_at hl 0 rfl) ?_
    refine tp_get (cy := cy) (ci := 10) (v := .int x_16) (C := RX10) (T := TX10) (N := 18) hx hb hta inlX10 hown hK hP ho.1 hf_1 rfl 14 (by decide) (hta _ wk_883) (fun _ h9 => h9) rfl dX10_hasDeep_8 ?_
    refine lv_if_le (tgt := 18) hx hb dX10_hasDeep_11 (by decide) (fun c_21 => ?_) (fun c_21 => ?_)
    · have c_21 : x_16.toInt ≤ (0 : Int) := tl_le c_21
      refine lv_iconst (v := 0) hx hb dX10_hasDeep_18 (by decide) ?_
      exact W.zret (ty := .boolean) (v := 0) hx hb hr rfl (fun t ht hW => ⟨_, rfl, (Or.inr rfl), ht⟩) (fun q h => by cases h) dX10_hasDeep_19
    · have c_21 : (0 : Int) < x_16.toInt := tl_nle c_21
      refine lv_iconst (v := 1) hx hb dX10_hasDeep_14 (by decide) ?_
      refine lv_goto (tgt := 19) hx hb dX10_hasDeep_15 (by decide) ?_
      exact W.zret (ty := .boolean) (v := 1) hx hb hr rfl (fun t ht hW => ⟨_, rfl, (Or.inl ⟨rfl, _, _, hf_1, rfl, by omega⟩), ht⟩) (fun q h => by cases h) dX10_hasDeep_19
set_option maxHeartbeats 4000000 in
set_option maxRecDepth 100000 in
theorem t_X10_deepness (l : Launch) (D : va_G) (cy : Nat → ClassId) (sz : Nat) (L : List Nat) (K : Nat → tk_K) (Γ : tk_G) (f : Nat → va_E) (o : Nat) (ho : tp_r L K 27 (0) 0 o) : Met l yX10_deepness (tl_w yX10_deepness cX10_deepness 1 (some .int)) ({ frames := 1, cells := 0, slots := 0, locals := 25 }) (va_Pc [.ref o] (tp_P D cy L K Γ f sz)) (vp_Si (fun r : Int32 => True)) 0 0 (fun _ => False) := by
  refine Met.ofW (cc := cX10_deepness) (maxL := 1) (ret := (some .int)) (by decide) rfl ?_
  intro p e s m args below meth c s₁ B hml hv
  obtain ⟨rfl, hsz, hP, hK, hL, hI, hN, hU⟩ := hv
  have hx := B.exec
  have hb := B.bytes
  have hr := B.returns
  have hta := tl_hta (atoms_spec (ws := tl_w yX10_deepness cX10_deepness 1 (some .int)) B.pre)
  have hown : s.vm.findClass RX10 = some m.cls := findClass_of_methodNamed B.named
  have hlocks := B.notSynchronized
  subst hsz
  have hI0 := hI
  have hl := lv_entry ([.ref o]) (n := 1) (Nat.le_of_ble_eq_true rfl)
  rw [lg_entry_eq]
  generalize (lg_sl ([.ref o]) ++ List.replicate (1 - (lg_sl ([.ref o])).length) Slot.unset).toArray = ls at hl ⊢
  have hl : lv_has ls 1 [(0, .ref o)] := hl
  refine lv_aload_n hx hb dX10_deepness_0 rfl (lv_at hl 0 rfl) ?_
  obtain ⟨x_2, x_3, x_4, x_5, x_6, x_7, x_8, x_9, x_10, x_11, x_12, x_13, x_14, x_15, x_16, x_17, x_18, x_19, hf_1, hx_2, hx_3, hx_4, hx_5, hx_6, hx_7, hx_8, hx_9, hx_10, hx_12, hx_15⟩ := (show tp_o_VIEW L K (0) 0 (Γ (27, 0, 0)) (f o) from hI0.at ho)
  refine tl_si (tq_rV (As := []) (rest := []) ⟨hx, hb, hml, hown, hta⟩ (tp_P.pre hK hN hL hU hI hP) (tp_recv hK hP ho.1 hf_1 rfl) lk_X10_139 (t_X10_hasDeep l D cy s.heap.size L K Γ f o ho) rfl rfl ⟨Nat.le_of_ble_eq_true rfl, Nat.le_of_ble_eq_true rfl⟩ rfl hl.1 rfl (Nat.le_of_ble_eq_true rfl) dX10_deepness_1 ⟨Nat.le_of_ble_eq_true rfl, Nat.le_of_ble_eq_true rfl⟩) (fun r_21 hw_20 => ?_)
  have hw_20 : tl_J r_21 (tv_gc (f o)) := hw_20
  refine lv_if_eq (tgt := 24) hx hb dX10_deepness_4 (by decide) (fun c_22 => ?_) (fun c_22 => ?_)
  · have c_22 := c_22
    refine lv_ldc (v := (-1000000)) hx hb hown (hta _ wk_966) dX10_deepness_24 ?_
    exact W.iret (v := (-1000000)) hx hb hr (fun t ht hW => ⟨_, rfl, trivial, ht⟩) (fun q h => by cases h) dX10_deepness_26
  · have c_22 := hw_20.t c_22
    have hgc := tv_gc.use (by assumption : tv_gc (f o)) hf_1 rfl
    refine lv_aload_n hx hb dX10_deepness_7 rfl (lv_at hl 0 rfl) ?_
    refine tp_get (cy := cy) (ci := 10) (v := .long x_18) (C := RX10) (T := TX10) (N := 18) hx hb hta inlX10 hown hK hP ho.1 hf_1 rfl 16 (by decide) (hta _ wk_885) (fun _ h9 => h9) rfl dX10_deepness_8 ?_
    refine lv_lneg hx hb dX10_deepness_11 ?_
    refine lv_topl (fun z_23 ez_23 => ?_)
    refine lv_aload_n hx hb dX10_deepness_12 rfl (lv_at hl 0 rfl) ?_
    refine tp_get (cy := cy) (ci := 10) (v := .int x_16) (C := RX10) (T := TX10) (N := 18) hx hb hta inlX10 hown hK hP ho.1 hf_1 rfl 14 (by decide) (hta _ wk_883) (fun _ h9 => h9) rfl dX10_deepness_13 ?_
    refine lv_i2l (v := x_16.toInt64) hx hb dX10_deepness_16 (by first | rfl | decide) ?_
    refine tl_sl (tq_rS (As := [.long z_23, .long x_16.toInt64]) (rest := []) ⟨hx, hb, hml, hown, hta⟩ (tp_P.pre hK hN hL hU hI hP) lk_X10_143 (t_J9_floorDiv_f86c9 l D cy s.heap.size L K Γ f z_23 x_16.toInt64 (by first | omega | (simp only [Int32.toInt_toInt64]; omega) | decide | assumption)) rfl rfl ⟨Nat.le_of_ble_eq_true rfl, Nat.le_of_ble_eq_true rfl⟩ rfl hl.1 rfl (Nat.le_of_ble_eq_true rfl) dX10_deepness_17 ⟨Nat.le_of_ble_eq_true rfl, Nat.le_of_ble_eq_true rfl⟩) (fun r_25 hw_24 => ?_)
    refine lv_l2i hx hb dX10_deepness_20 rfl ?_
    refine lv_topi (fun z_26 ez_26 => ?_)
    refine lv_goto (tgt := 26) hx hb dX10_deepness_21 (by decide) ?_
    exact W.iret (v := z_26) hx hb hr (fun t ht hW => ⟨_, rfl, trivial, ht⟩) (fun q h => by cases h) dX10_deepness_26
set_option maxHeartbeats 4000000 in
set_option maxRecDepth 100000 in
theorem t_X10_noisiness (l : Launch) (D : va_G) (cy : Nat → ClassId) (sz : Nat) (L : List Nat) (K : Nat → tk_K) (Γ : tk_G) (f : Nat → va_E) (o : Nat) (ho : tp_r L K 27 (0) 0 o) : Met l yX10_noisiness (tl_w yX10_noisiness cX10_noisiness 2 (some .long)) ({ frames := 1, cells := 0, slots := 0, locals := 30 }) (va_Pc [.ref o] (tp_P D cy L K Γ f sz)) (vp_Sl (fun r : Int64 => 1 ≤ r.toInt)) 0 0 (fun _ => False) := by
  refine Met.ofW (cc := cX10_noisiness) (maxL := 2) (ret := (some .long)) (by decide) rfl ?_
  intro p e s m args below meth c s₁ B hml hv
  obtain ⟨rfl, hsz, hP, hK, hL, hI, hN, hU⟩ := hv
  have hx := B.exec
  have hb := B.bytes
  have hr := B.returns
  have hta := tl_hta (atoms_spec (ws := tl_w yX10_noisiness cX10_noisiness 2 (some .long)) B.pre)
  have hown : s.vm.findClass RX10 = some m.cls := findClass_of_methodNamed B.named
  have hlocks := B.notSynchronized
  subst hsz
  have hI0 := hI
  have hl := lv_entry ([.ref o]) (n := 2) (Nat.le_of_ble_eq_true rfl)
  rw [lg_entry_eq]
  generalize (lg_sl ([.ref o]) ++ List.replicate (2 - (lg_sl ([.ref o])).length) Slot.unset).toArray = ls at hl ⊢
  have hl : lv_has ls 2 [(0, .ref o)] := hl
  refine lv_iconst (v := 1) hx hb dX10_noisiness_0 (by decide) ?_
  refine lv_aload_n hx hb dX10_noisiness_1 rfl (lv_at hl 0 rfl) ?_
  obtain ⟨x_2, x_3, x_4, x_5, x_6, x_7, x_8, x_9, x_10, x_11, x_12, x_13, x_14, x_15, x_16, x_17, x_18, x_19, hf_1, hx_2, hx_3, hx_4, hx_5, hx_6, hx_7, hx_8, hx_9, hx_10, hx_12, hx_15⟩ := (show tp_o_VIEW L K (0) 0 (Γ (27, 0, 0)) (f o) from hI0.at ho)
  refine tp_get (cy := cy) (ci := 10) (v := .int x_17) (C := RX10) (T := TX10) (N := 18) hx hb hta inlX10 hown hK hP ho.1 hf_1 rfl 15 (by decide) (hta _ wk_884) (fun _ h9 => h9) rfl dX10_noisiness_2 ?_
  refine va_mmax hx hb (by rw [hml]; exact hl.1.symm) hown (hta _ wk_861) (hta _ wk_82) (hta _ wk_83) (hta _ wk_84) (Nat.le_of_ble_eq_true rfl) (Nat.le_of_ble_eq_true rfl) (Nat.le_of_ble_eq_true rfl) (Nat.le_of_ble_eq_true rfl) dX10_noisiness_5 ?_
  refine lv_topi (fun z_20 ez_20 => ?_)
  have iz_20 : (z_20.toInt = x_17.toInt ∧ (1 : Int) ≤ x_17.toInt) ∨ (z_20.toInt = (1 : Int) ∧ x_17.toInt ≤ (1 : Int)) := by rw [ez_20]; exact tl_maxF
  refine lv_istore_n (lv' := [(1, .int z_20), (0, .ref o)]) hx hb dX10_noisiness_8 rfl hl (by decide) rfl (fun ls hl => ?_)
  refine lv_lconst (v := 1) hx hb dX10_noisiness_9 (by decide) ?_
  refine lv_aload_n hx hb dX10_noisiness_10 rfl (lv_at hl 1 rfl) ?_
  refine tp_get (cy := cy) (ci := 10) (v := .long x_19) (C := RX10) (T := TX10) (N := 18) hx hb hta inlX10 hown hK hP ho.1 hf_1 rfl 17 (by decide) (hta _ wk_886) (fun _ h9 => h9) rfl dX10_noisiness_11 ?_
  refine lv_iload_n hx hb dX10_noisiness_14 rfl (lv_at hl 0 rfl) ?_
  refine lv_i2l (v := z_20.toInt64) hx hb dX10_noisiness_15 (by first | rfl | decide) ?_
  refine lv_ladd hx hb dX10_noisiness_16 ?_
  refine lv_topl (fun z_21 ez_21 => ?_)
  refine lv_lconst (v := 1) hx hb dX10_noisiness_17 (by decide) ?_
  refine lv_lsub hx hb dX10_noisiness_18 ?_
  refine lv_topl (fun z_22 ez_22 => ?_)
  refine lv_iload_n hx hb dX10_noisiness_19 rfl (lv_at hl 0 rfl) ?_
  refine lv_i2l (v := z_20.toInt64) hx hb dX10_noisiness_20 (by first | rfl | decide) ?_
  refine lv_ldiv hx hb dX10_noisiness_21 (tl_ne0LI (by omega)) ?_
  refine lv_topl (fun z_23 ez_23 => ?_)
  refine va_mmax_long hx hb (by rw [hml]; exact hl.1.symm) hown (hta _ wk_977) (hta _ wk_763) (hta _ wk_83) (hta _ wk_764) (Nat.le_of_ble_eq_true rfl) (Nat.le_of_ble_eq_true rfl) (Nat.le_of_ble_eq_true rfl) (Nat.le_of_ble_eq_true rfl) dX10_noisiness_22 ?_
  refine lv_topl (fun z_24 ez_24 => ?_)
  have iz_24 : (z_24.toInt = (z_23 : Int64).toInt ∧ (1 : Int64).toInt ≤ (z_23 : Int64).toInt) ∨ (z_24.toInt = (1 : Int64).toInt ∧ (z_23 : Int64).toInt ≤ (1 : Int64).toInt) := by rw [ez_24]; exact tl_maxFL.symm
  exact W.lret (v := z_24) hx hb hr (fun t ht hW => ⟨_, rfl, (by have h9 : (1 : Int64).toInt = 1 := rfl; omega), ht⟩) (fun q h => by cases h) dX10_noisiness_25
set_option maxHeartbeats 4000000 in
set_option maxRecDepth 100000 in
theorem t_X10_scored (l : Launch) (D : va_G) (cy : Nat → ClassId) (sz : Nat) (L : List Nat) (K : Nat → tk_K) (Γ : tk_G) (f : Nat → va_E) (o : Nat) (ho : tp_r L K 27 (0) 0 o) : Met l yX10_scored (tl_w yX10_scored cX10_scored 1 (some .long)) ({ frames := 2, cells := 0, slots := 0, locals := 51 }) (va_Pc [.ref o] (tp_P D cy L K Γ f sz)) (vp_Sl (fun r : Int64 => True)) 0 0 (fun _ => False) := by
  refine Met.ofW (cc := cX10_scored) (maxL := 1) (ret := (some .long)) (by decide) rfl ?_
  intro p e s m args below meth c s₁ B hml hv
  obtain ⟨rfl, hsz, hP, hK, hL, hI, hN, hU⟩ := hv
  have hx := B.exec
  have hb := B.bytes
  have hr := B.returns
  have hta := tl_hta (atoms_spec (ws := tl_w yX10_scored cX10_scored 1 (some .long)) B.pre)
  have hown : s.vm.findClass RX10 = some m.cls := findClass_of_methodNamed B.named
  have hlocks := B.notSynchronized
  subst hsz
  have hI0 := hI
  have hl := lv_entry ([.ref o]) (n := 1) (Nat.le_of_ble_eq_true rfl)
  rw [lg_entry_eq]
  generalize (lg_sl ([.ref o]) ++ List.replicate (1 - (lg_sl ([.ref o])).length) Slot.unset).toArray = ls at hl ⊢
  have hl : lv_has ls 1 [(0, .ref o)] := hl
  refine lv_aload_n hx hb dX10_scored_0 rfl (lv_at hl 0 rfl) ?_
  obtain ⟨x_2, x_3, x_4, x_5, x_6, x_7, x_8, x_9, x_10, x_11, x_12, x_13, x_14, x_15, x_16, x_17, x_18, x_19, hf_1, hx_2, hx_3, hx_4, hx_5, hx_6, hx_7, hx_8, hx_9, hx_10, hx_12, hx_15⟩ := (show tp_o_VIEW L K (0) 0 (Γ (27, 0, 0)) (f o) from hI0.at ho)
  refine tl_si (tq_rV (As := []) (rest := []) ⟨hx, hb, hml, hown, hta⟩ (tp_P.pre hK hN hL hU hI hP) (tp_recv hK hP ho.1 hf_1 rfl) lk_X10_139 (t_X10_hasDeep l D cy s.heap.size L K Γ f o ho) rfl rfl ⟨Nat.le_of_ble_eq_true rfl, Nat.le_of_ble_eq_true rfl⟩ rfl hl.1 rfl (Nat.le_of_ble_eq_true rfl) dX10_scored_1 ⟨Nat.le_of_ble_eq_true rfl, Nat.le_of_ble_eq_true rfl⟩) (fun r_21 hw_20 => ?_)
  have hw_20 : tl_J r_21 (tv_gc (f o)) := hw_20
  refine lv_if_eq (tgt := 26) hx hb dX10_scored_4 (by decide) (fun c_22 => ?_) (fun c_22 => ?_)
  · have c_22 := c_22
    refine lv_ldc2 (v := (-1000000000)) hx hb hown (hta _ wk_982) dX10_scored_26 ?_
    exact W.lret (v := (-1000000000)) hx hb hr (fun t ht hW => ⟨_, rfl, trivial, ht⟩) (fun q h => by cases h) dX10_scored_29
  · have c_22 := hw_20.t c_22
    refine lv_ldc2 (v := 1000) hx hb hown (hta _ wk_981) dX10_scored_7 ?_
    refine lv_aload_n hx hb dX10_scored_10 rfl (lv_at hl 0 rfl) ?_
    refine tl_si (tq_rV (As := []) (rest := [.long 1000]) ⟨hx, hb, hml, hown, hta⟩ (tp_P.pre hK hN hL hU hI hP) (tp_recv hK hP ho.1 hf_1 rfl) lk_X10_151 (t_X10_deepness l D cy s.heap.size L K Γ f o ho) rfl rfl ⟨Nat.le_of_ble_eq_true rfl, Nat.le_of_ble_eq_true rfl⟩ rfl hl.1 rfl (Nat.le_of_ble_eq_true rfl) dX10_scored_11 ⟨Nat.le_of_ble_eq_true rfl, Nat.le_of_ble_eq_true rfl⟩) (fun r_24 hw_23 => ?_)
    refine lv_i2l (v := r_24.toInt64) hx hb dX10_scored_14 (by first | rfl | decide) ?_
    refine lv_lmul hx hb dX10_scored_15 ?_
    refine lv_topl (fun z_25 ez_25 => ?_)
    refine lv_aload_n hx hb dX10_scored_16 rfl (lv_at hl 0 rfl) ?_
    refine tl_sl (tq_rV (As := []) (rest := [.long z_25]) ⟨hx, hb, hml, hown, hta⟩ (tp_P.pre hK hN hL hU hI hP) (tp_recv hK hP ho.1 hf_1 rfl) lk_X10_155 (t_X10_noisiness l D cy s.heap.size L K Γ f o ho) rfl rfl ⟨Nat.le_of_ble_eq_true rfl, Nat.le_of_ble_eq_true rfl⟩ rfl hl.1 rfl (Nat.le_of_ble_eq_true rfl) dX10_scored_17 ⟨Nat.le_of_ble_eq_true rfl, Nat.le_of_ble_eq_true rfl⟩) (fun r_27 hw_26 => ?_)
    have hw_26 : 1 ≤ r_27.toInt := hw_26
    refine tl_sl (tq_rS (As := [.long z_25, .long r_27]) (rest := []) ⟨hx, hb, hml, hown, hta⟩ (tp_P.pre hK hN hL hU hI hP) lk_X10_143 (t_J9_floorDiv_f86c9 l D cy s.heap.size L K Γ f z_25 r_27 (by first | omega | (simp only [Int32.toInt_toInt64]; omega) | decide | assumption)) rfl rfl ⟨Nat.le_of_ble_eq_true rfl, Nat.le_of_ble_eq_true rfl⟩ rfl hl.1 rfl (Nat.le_of_ble_eq_true rfl) dX10_scored_20 ⟨Nat.le_of_ble_eq_true rfl, Nat.le_of_ble_eq_true rfl⟩) (fun r_29 hw_28 => ?_)
    refine lv_goto (tgt := 29) hx hb dX10_scored_23 (by decide) ?_
    exact W.lret (v := r_29) hx hb hr (fun t ht hW => ⟨_, rfl, trivial, ht⟩) (fun q h => by cases h) dX10_scored_29
set_option maxHeartbeats 4000000 in
set_option maxRecDepth 100000 in
theorem t_X10_isNotBelow (l : Launch) (D : va_G) (cy : Nat → ClassId) (sz : Nat) (L : List Nat) (K : Nat → tk_K) (Γ : tk_G) (f : Nat → va_E) (o : Nat) (p0 : Int64) (ho : tp_r L K 27 (0) 0 o) : Met l yX10_isNotBelow (tl_w yX10_isNotBelow cX10_isNotBelow 3 (some .boolean)) ({ frames := 3, cells := 0, slots := 0, locals := 71 }) (va_Pc [.ref o, .long p0] (tp_P D cy L K Γ f sz)) (vp_Si (fun r : Int32 => tl_J r (True))) 0 0 (fun _ => False) := by
  refine Met.ofW (cc := cX10_isNotBelow) (maxL := 3) (ret := (some .boolean)) (by decide) rfl ?_
  intro p e s m args below meth c s₁ B hml hv
  obtain ⟨rfl, hsz, hP, hK, hL, hI, hN, hU⟩ := hv
  have hx := B.exec
  have hb := B.bytes
  have hr := B.returns
  have hta := tl_hta (atoms_spec (ws := tl_w yX10_isNotBelow cX10_isNotBelow 3 (some .boolean)) B.pre)
  have hown : s.vm.findClass RX10 = some m.cls := findClass_of_methodNamed B.named
  have hlocks := B.notSynchronized
  subst hsz
  have hI0 := hI
  have hl := lv_entry ([.ref o, .long p0]) (n := 3) (Nat.le_of_ble_eq_true rfl)
  rw [lg_entry_eq]
  generalize (lg_sl ([.ref o, .long p0]) ++ List.replicate (3 - (lg_sl ([.ref o, .long p0])).length) Slot.unset).toArray = ls at hl ⊢
  have hl : lv_has ls 3 [(0, .ref o), (1, .long p0)] := hl
  refine lv_aload_n hx hb dX10_isNotBelow_0 rfl (lv_at hl 0 rfl) ?_
  obtain ⟨x_2, x_3, x_4, x_5, x_6, x_7, x_8, x_9, x_10, x_11, x_12, x_13, x_14, x_15, x_16, x_17, x_18, x_19, hf_1, hx_2, hx_3, hx_4, hx_5, hx_6, hx_7, hx_8, hx_9, hx_10, hx_12, hx_15⟩ := (show tp_o_VIEW L K (0) 0 (Γ (27, 0, 0)) (f o) from hI0.at ho)
  refine tl_si (tq_rV (As := []) (rest := []) ⟨hx, hb, hml, hown, hta⟩ (tp_P.pre hK hN hL hU hI hP) (tp_recv hK hP ho.1 hf_1 rfl) lk_X10_139 (t_X10_hasDeep l D cy s.heap.size L K Γ f o ho) rfl rfl ⟨Nat.le_of_ble_eq_true rfl, Nat.le_of_ble_eq_true rfl⟩ rfl hl.1 rfl (Nat.le_of_ble_eq_true rfl) dX10_isNotBelow_1 ⟨Nat.le_of_ble_eq_true rfl, Nat.le_of_ble_eq_true rfl⟩) (fun r_21 hw_20 => ?_)
  have hw_20 : tl_J r_21 (tv_gc (f o)) := hw_20
  refine lv_if_eq (tgt := 20) hx hb dX10_isNotBelow_4 (by decide) (fun c_22 => ?_) (fun c_22 => ?_)
  · have c_22 := c_22
    refine lv_iconst (v := 0) hx hb dX10_isNotBelow_20 (by decide) ?_
    exact W.zret (ty := .boolean) (v := 0) hx hb hr rfl (fun t ht hW => ⟨_, rfl, (Or.inr rfl), ht⟩) (fun q h => by cases h) dX10_isNotBelow_21
  · have c_22 := hw_20.t c_22
    refine lv_aload_n hx hb dX10_isNotBelow_7 rfl (lv_at hl 0 rfl) ?_
    refine tl_sl (tq_rV (As := []) (rest := []) ⟨hx, hb, hml, hown, hta⟩ (tp_P.pre hK hN hL hU hI hP) (tp_recv hK hP ho.1 hf_1 rfl) lk_X10_161 (t_X10_scored l D cy s.heap.size L K Γ f o ho) rfl rfl ⟨Nat.le_of_ble_eq_true rfl, Nat.le_of_ble_eq_true rfl⟩ rfl hl.1 rfl (Nat.le_of_ble_eq_true rfl) dX10_isNotBelow_8 ⟨Nat.le_of_ble_eq_true rfl, Nat.le_of_ble_eq_true rfl⟩) (fun r_24 hw_23 => ?_)
    refine lv_lload_n hx hb dX10_isNotBelow_11 rfl (lv_at hl 1 rfl) ?_
    refine W.lcmp hx hb dX10_isNotBelow_12 ?_
    refine lv_if_lt (tgt := 20) hx hb dX10_isNotBelow_13 (by decide) (fun c_25 => ?_) (fun c_25 => ?_)
    · have c_25 : r_24.toInt < p0.toInt := tl_cmp_lt c_25
      refine lv_iconst (v := 0) hx hb dX10_isNotBelow_20 (by decide) ?_
      exact W.zret (ty := .boolean) (v := 0) hx hb hr rfl (fun t ht hW => ⟨_, rfl, (Or.inr rfl), ht⟩) (fun q h => by cases h) dX10_isNotBelow_21
    · have c_25 : r_24.toInt ≥ p0.toInt := tl_cmp_nlt c_25
      refine lv_iconst (v := 1) hx hb dX10_isNotBelow_16 (by decide) ?_
      refine lv_goto (tgt := 21) hx hb dX10_isNotBelow_17 (by decide) ?_
      exact W.zret (ty := .boolean) (v := 1) hx hb hr rfl (fun t ht hW => ⟨_, rfl, (Or.inl ⟨rfl, trivial⟩), ht⟩) (fun q h => by cases h) dX10_isNotBelow_21
set_option maxHeartbeats 4000000 in
set_option maxRecDepth 100000 in
theorem t_X10_squares (l : Launch) (D : va_G) (cy : Nat → ClassId) (sz : Nat) (L : List Nat) (K : Nat → tk_K) (Γ : tk_G) (f : Nat → va_E) (o : Nat) (ho : tp_r L K 27 (0) 0 o) : Met l yX10_squares (tl_w yX10_squares cX10_squares 6 (some .long)) ({ frames := 0, cells := 0, slots := 0, locals := 0 }) (va_Pc [.ref o] (tp_P D cy L K Γ f sz)) (vp_Sl (fun r : Int64 => True)) 0 0 (fun _ => False) := by
  refine Met.ofW (cc := cX10_squares) (maxL := 6) (ret := (some .long)) (by decide) rfl ?_
  intro p e s m args below meth c s₁ B hml hv
  obtain ⟨rfl, hsz, hP, hK, hL, hI, hN, hU⟩ := hv
  have hx := B.exec
  have hb := B.bytes
  have hr := B.returns
  have hta := tl_hta (atoms_spec (ws := tl_w yX10_squares cX10_squares 6 (some .long)) B.pre)
  have hown : s.vm.findClass RX10 = some m.cls := findClass_of_methodNamed B.named
  have hlocks := B.notSynchronized
  subst hsz
  have hI0 := hI
  have hl := lv_entry ([.ref o]) (n := 6) (Nat.le_of_ble_eq_true rfl)
  rw [lg_entry_eq]
  generalize (lg_sl ([.ref o]) ++ List.replicate (6 - (lg_sl ([.ref o])).length) Slot.unset).toArray = ls at hl ⊢
  have hl : lv_has ls 6 [(0, .ref o)] := hl
  refine lv_lconst (v := 0) hx hb dX10_squares_0 (by decide) ?_
  refine lv_lstore_n (lv' := [(1, .long 0), (0, .ref o)]) hx hb dX10_squares_1 rfl hl (by decide) rfl (fun ls hl => ?_)
  refine lv_iconst (v := 0) hx hb dX10_squares_2 (by decide) ?_
  refine lv_istore_n (lv' := [(3, .int 0), (1, .long 0), (0, .ref o)]) hx hb dX10_squares_3 rfl hl (by decide) rfl (fun ls hl => ?_)
  refine tl_indR (G := fun ls => W p l e ((headSpec (tl_w yX10_squares cX10_squares 6 (some .long)) ({ frames := 0, cells := 0, slots := 0, locals := 0 })).room) s m #[.ref o] below meth c s.heap [] 0 0 (MQ below (vp_Sl (fun r : Int64 => True)) #[.ref o] s 0 0 (fun _ => False)) (F0 m 4 ls [])) (α := Int32 × Int64) (fun aq => (300 - aq.1.toInt).toNat) (fun aq ls => (0 ≤ aq.1.toInt) ∧ (aq.1.toInt ≤ 300) ∧ lv_has ls 6 [(3, .int aq.1), (1, .long aq.2), (0, .ref o)]) ?_ ((0 : Int32), (0 : Int64)) ls ⟨(show 0 ≤ (0 : Int) from (by omega)), (show (0 : Int) ≤ 300 from (by omega)), lv_sub hl [0, 1, 2] rfl⟩
  rintro ⟨v3, v1⟩ ls ⟨h0, h1, hl⟩ ih4
  have h0 : 0 ≤ v3.toInt := h0
  have h1 : v3.toInt ≤ 300 := h1
  have hl : lv_has ls 6 [(3, .int v3), (1, .long v1), (0, .ref o)] := hl
  refine lv_iload_n hx hb dX10_squares_4 rfl (lv_at hl 0 rfl) ?_
  refine lv_sipush (v := 300) hx hb dX10_squares_5 (by decide) ?_
  refine lv_icmp_ge (tgt := 54) hx hb dX10_squares_8 (by decide) (fun c_1 => ?_) (fun c_1 => ?_)
  · have c_1 : (300 : Int) ≤ v3.toInt := tl_le c_1
    refine lv_lload_n hx hb dX10_squares_54 rfl (lv_at hl 1 rfl) ?_
    exact W.lret (v := v1) hx hb hr (fun t ht hW => ⟨_, rfl, trivial, ht⟩) (fun q h => by cases h) dX10_squares_55
  · have c_1 : v3.toInt < (300 : Int) := tl_nle c_1
    refine lv_aload_n hx hb dX10_squares_11 rfl (lv_at hl 2 rfl) ?_
    obtain ⟨x_3, x_4, x_5, x_6, x_7, x_8, x_9, x_10, x_11, x_12, x_13, x_14, x_15, x_16, x_17, x_18, x_19, x_20, hf_2, hx_3, hx_4, hx_5, hx_6, hx_7, hx_8, hx_9, hx_10, hx_11, hx_13, hx_16⟩ := (show tp_o_VIEW L K (0) 0 (Γ (27, 0, 0)) (f o) from hI0.at ho)
    refine tp_get (cy := cy) (ci := 10) (v := .ref x_5) (C := RX10) (T := TX10) (N := 18) hx hb hta inlX10 hown hK hP ho.1 hf_2 rfl 2 (by decide) (hta _ wk_133) (fun _ h9 => h9) rfl dX10_squares_12 ?_
    refine lv_iload_n hx hb dX10_squares_15 rfl (lv_at hl 0 rfl) ?_
    obtain ⟨g_22, hf_21⟩ := (show tp_az cy (300) (f x_5) from hI0.at hx_5)
    have hn_24 : vp_in v3 (300) := tl_in (by omega) (by omega)
    refine tp_zald (cy := cy) hx hb hK hP hx_5.1 hf_21 hn_24 dX10_squares_16 ?_
    refine lv_topi (fun z_25 ez_25 => ?_)
    refine lv_if_eq (tgt := 37) hx hb dX10_squares_17 (by decide) (fun c_26 => ?_) (fun c_26 => ?_)
    · have c_26 : z_25.toInt = (0 : Int) := tl_eq c_26
      refine lv_lconst (v := 0) hx hb dX10_squares_37 (by decide) ?_
      refine lv_lstore (lv' := [(4, .long 0), (3, .int v3), (1, .long v1), (0, .ref o)]) hx hb dX10_squares_38 hl (by decide) rfl (fun ls hl => ?_)
      refine lv_lload_n hx hb dX10_squares_40 rfl (lv_at hl 2 rfl) ?_
      refine lv_lload hx hb dX10_squares_41 (lv_at hl 0 rfl) ?_
      refine lv_lload hx hb dX10_squares_43 (lv_at hl 0 rfl) ?_
      refine lv_lmul hx hb dX10_squares_45 ?_
      refine lv_topl (fun z_27 ez_27 => ?_)
      refine lv_ladd hx hb dX10_squares_46 ?_
      refine lv_topl (fun z_28 ez_28 => ?_)
      refine lv_lstore_n (lv' := [(1, .long z_28), (4, .long 0), (3, .int v3), (0, .ref o)]) hx hb dX10_squares_47 rfl hl (by decide) rfl (fun ls hl => ?_)
      obtain ⟨z_29, ez_29⟩ : ∃ y : Int32, y = v3 + 1 := ⟨_, rfl⟩
      refine lv_iinc (v := z_29) (lv' := [(3, .int z_29), (1, .long z_28), (4, .long 0), (0, .ref o)]) hx hb dX10_squares_48 hl (k := 2) rfl (by rw [ez_29]; rfl) (by decide) rfl (fun ls hl => ?_)
      try have iz_29 : z_29.toInt = v3.toInt + 1 := by rw [ez_29]; exact tl_addL v3 1 (by decide) (by omega) (by omega)
      refine lv_goto (tgt := 4) hx hb dX10_squares_51 (by decide) ?_
      exact ih4 (z_29, z_28) ls (by show (300 - z_29.toInt).toNat < (300 - v3.toInt).toNat; omega) ⟨(show 0 ≤ z_29.toInt from (by omega)), (show z_29.toInt ≤ 300 from (by omega)), lv_sub hl [0, 1, 3] rfl⟩
    · have c_26 : ¬ z_25.toInt = (0 : Int) := tl_neq c_26
      refine lv_aload_n hx hb dX10_squares_20 rfl (lv_at hl 2 rfl) ?_
      refine tp_get (cy := cy) (ci := 10) (v := .ref x_6) (C := RX10) (T := TX10) (N := 18) hx hb hta inlX10 hown hK hP ho.1 hf_2 rfl 3 (by decide) (hta _ wk_134) (fun _ h9 => h9) rfl dX10_squares_21 ?_
      refine lv_iload_n hx hb dX10_squares_24 rfl (lv_at hl 0 rfl) ?_
      obtain ⟨g_31, hf_30, hg_32⟩ := (show tp_ai cy 29 (300) (f x_6) from hI0.at hx_6)
      have hn_33 : vp_in v3 (300) := tl_in (by omega) (by omega)
      refine tp_iald (cy := cy) hx hb hK hP hx_6.1 hf_30 hn_33 dX10_squares_25 ?_
      refine lv_topi (fun z_34 ez_34 => ?_)
      refine lv_aload_n hx hb dX10_squares_26 rfl (lv_at hl 2 rfl) ?_
      refine tp_get (cy := cy) (ci := 10) (v := .ref x_7) (C := RX10) (T := TX10) (N := 18) hx hb hta inlX10 hown hK hP ho.1 hf_2 rfl 4 (by decide) (hta _ wk_135) (fun _ h9 => h9) rfl dX10_squares_27 ?_
      refine lv_iload_n hx hb dX10_squares_30 rfl (lv_at hl 0 rfl) ?_
      obtain ⟨g_36, hf_35, hg_37⟩ := (show tp_ai cy 29 (300) (f x_7) from hI0.at hx_7)
      have hn_38 : vp_in v3 (300) := tl_in (by omega) (by omega)
      refine tp_iald (cy := cy) hx hb hK hP hx_7.1 hf_35 hn_38 dX10_squares_31 ?_
      refine lv_topi (fun z_39 ez_39 => ?_)
      refine lv_isub hx hb dX10_squares_32 ?_
      refine lv_topi (fun z_40 ez_40 => ?_)
      try have iz_40 : z_40.toInt = z_34.toInt - z_39.toInt := by rw [ez_40]; exact tl_subN z_34 z_39 rfl rfl (by omega) (by omega)
      refine lv_i2l (v := z_40.toInt64) hx hb dX10_squares_33 (by first | rfl | decide) ?_
      refine lv_goto (tgt := 38) hx hb dX10_squares_34 (by decide) ?_
      refine lv_lstore (lv' := [(4, .long z_40.toInt64), (3, .int v3), (1, .long v1), (0, .ref o)]) hx hb dX10_squares_38 hl (by decide) rfl (fun ls hl => ?_)
      refine lv_lload_n hx hb dX10_squares_40 rfl (lv_at hl 2 rfl) ?_
      refine lv_lload hx hb dX10_squares_41 (lv_at hl 0 rfl) ?_
      refine lv_lload hx hb dX10_squares_43 (lv_at hl 0 rfl) ?_
      refine lv_lmul hx hb dX10_squares_45 ?_
      refine lv_topl (fun z_41 ez_41 => ?_)
      refine lv_ladd hx hb dX10_squares_46 ?_
      refine lv_topl (fun z_42 ez_42 => ?_)
      refine lv_lstore_n (lv' := [(1, .long z_42), (4, .long z_40.toInt64), (3, .int v3), (0, .ref o)]) hx hb dX10_squares_47 rfl hl (by decide) rfl (fun ls hl => ?_)
      obtain ⟨z_43, ez_43⟩ : ∃ y : Int32, y = v3 + 1 := ⟨_, rfl⟩
      refine lv_iinc (v := z_43) (lv' := [(3, .int z_43), (1, .long z_42), (4, .long z_40.toInt64), (0, .ref o)]) hx hb dX10_squares_48 hl (k := 2) rfl (by rw [ez_43]; rfl) (by decide) rfl (fun ls hl => ?_)
      try have iz_43 : z_43.toInt = v3.toInt + 1 := by rw [ez_43]; exact tl_addL v3 1 (by decide) (by omega) (by omega)
      refine lv_goto (tgt := 4) hx hb dX10_squares_51 (by decide) ?_
      exact ih4 (z_43, z_42) ls (by show (300 - z_43.toInt).toNat < (300 - v3.toInt).toNat; omega) ⟨(show 0 ≤ z_43.toInt from (by omega)), (show z_43.toInt ≤ 300 from (by omega)), lv_sub hl [0, 1, 3] rfl⟩
set_option maxHeartbeats 4000000 in
set_option maxRecDepth 100000 in
theorem t_X10_skipBy (l : Launch) (D : va_G) (cy : Nat → ClassId) (sz : Nat) (L : List Nat) (K : Nat → tk_K) (Γ : tk_G) (f : Nat → va_E) (o : Nat) (q : Nat) (z : Nat) (ho : tp_r L K 27 (0) 0 o) (hq : tp_r L K 18 (0) 0 q) (hz : tp_r L K 22 (0) 0 z) : Met l yX10_skipBy (tl_w yX10_skipBy cX10_skipBy 5 none) ({ frames := 2, cells := 0, slots := 0, locals := 51 }) (va_Pc [.ref o, .ref q, .ref z] (tp_P D cy L K Γ f sz)) (va_Qv (fun (u : Nat → va_E) => True) (tp_B D cy L K Γ f [28, 23, 24]) (tp_A L sz)) 0 0 (tp_A L sz) := by
  refine Met.ofW (cc := cX10_skipBy) (maxL := 5) (ret := none) (by decide) rfl ?_
  intro p e s m args below meth c s₁ B hml hv
  obtain ⟨rfl, hsz, hP, hK, hL, hI, hN, hU⟩ := hv
  have hx := B.exec
  have hb := B.bytes
  have hr := B.returns
  have hta := tl_hta (atoms_spec (ws := tl_w yX10_skipBy cX10_skipBy 5 none) B.pre)
  have hown : s.vm.findClass RX10 = some m.cls := findClass_of_methodNamed B.named
  have hlocks := B.notSynchronized
  subst hsz
  have hI0 := hI
  generalize hAe : tp_A L s.heap.size = A
  have hA : ∀ q : Nat, s.heap.size ≤ q → A q := fun q h => by rw [← hAe]; exact Or.inr h
  have hAL : ∀ q ∈ L, A q := fun q h => by rw [← hAe]; exact Or.inl h
  have hAf : ∀ (H : Heap), s.heap.size ≤ H.size → ∀ q, tp_A L H.size q → A q := fun H h q hq => hq.elim (hAL q) (fun h2 => hA q (Nat.le_trans h h2))
  have hS : va_S A s.heap s.heap [] := va_S.rf
  have hD : va_D A (va_pl L f) := tp_D hL hAL
  have hfr : ∀ b, (K b).1 ∉ ([28, 23, 24] : List Nat) → f b = f b := fun _ _ => rfl
  have hl := lv_entry ([.ref o, .ref q, .ref z]) (n := 5) (Nat.le_of_ble_eq_true rfl)
  rw [lg_entry_eq]
  generalize (lg_sl ([.ref o, .ref q, .ref z]) ++ List.replicate (5 - (lg_sl ([.ref o, .ref q, .ref z])).length) Slot.unset).toArray = ls at hl ⊢
  have hl : lv_has ls 5 [(0, .ref o), (1, .ref q), (2, .ref z)] := hl
  refine lv_iconst (v := 0) hx hb dX10_skipBy_0 (by decide) ?_
  refine lv_istore_n (lv' := [(3, .int 0), (0, .ref o), (1, .ref q), (2, .ref z)]) hx hb dX10_skipBy_1 rfl hl (by decide) rfl (fun ls hl => ?_)
  refine tq_start hP hS (fun H locs hP hS => ?_)
  refine tl_ind (G := fun H locs ls => W p l e ((headSpec (tl_w yX10_skipBy cX10_skipBy 5 none) ({ frames := 2, cells := 0, slots := 0, locals := 51 })).room) s m #[.ref o, .ref q, .ref z] below meth c H locs 0 0 (MQ below (va_Qv (fun (u : Nat → va_E) => True) (tp_B D cy L K Γ f [28, 23, 24]) A) #[.ref o, .ref q, .ref z] s 0 0 A) (F0 m 2 ls [])) (α := (Nat → va_E) × Int32) (fun aq => (300 - aq.2.toInt).toNat) (fun aq H locs ls => (0 ≤ aq.2.toInt) ∧ (aq.2.toInt ≤ 300) ∧ va_P D vwCl (va_pl L aq.1) H ∧ tp_I cy L K Γ aq.1 ∧ (∀ b, (K b).1 ∉ ([28, 23, 24] : List Nat) → aq.1 b = f b) ∧ va_S A s.heap H locs ∧ lv_has ls 5 [(3, .int aq.2), (0, .ref o), (1, .ref q), (2, .ref z)]) ?_ (f, (0 : Int32)) H locs ls ⟨(show 0 ≤ (0 : Int) from (by omega)), (show (0 : Int) ≤ 300 from (by omega)), hP, hI, hfr, hS, lv_sub hl [0, 1, 2, 3] rfl⟩
  rintro ⟨f_1, v3⟩ H locs ls ⟨h0, h1, hP, hI, hfr, hS, hl⟩ ih2
  have hP : va_P D vwCl (va_pl L f_1) H := hP
  have hI : tp_I cy L K Γ f_1 := hI
  have hfr : ∀ b, (K b).1 ∉ ([28, 23, 24] : List Nat) → f_1 b = f b := hfr
  have hD : va_D A (va_pl L f_1) := tp_D hL hAL
  have h0 : 0 ≤ v3.toInt := h0
  have h1 : v3.toInt ≤ 300 := h1
  have hl : lv_has ls 5 [(3, .int v3), (0, .ref o), (1, .ref q), (2, .ref z)] := hl
  refine lv_iload_n hx hb dX10_skipBy_2 rfl (lv_at hl 0 rfl) ?_
  refine lv_sipush (v := 300) hx hb dX10_skipBy_3 (by decide) ?_
  refine lv_icmp_ge (tgt := 22) hx hb dX10_skipBy_6 (by decide) (fun c_2 => ?_) (fun c_2 => ?_)
  · have c_2 : (300 : Int) ≤ v3.toInt := tl_le c_2
    refine lv_iconst (v := 0) hx hb dX10_skipBy_22 (by decide) ?_
    refine lv_istore_n (lv' := [(3, .int 0), (0, .ref o), (1, .ref q), (2, .ref z)]) hx hb dX10_skipBy_23 rfl hl (by decide) rfl (fun ls hl => ?_)
    refine tl_ind (G := fun H locs ls => W p l e ((headSpec (tl_w yX10_skipBy cX10_skipBy 5 none) ({ frames := 2, cells := 0, slots := 0, locals := 51 })).room) s m #[.ref o, .ref q, .ref z] below meth c H locs 0 0 (MQ below (va_Qv (fun (u : Nat → va_E) => True) (tp_B D cy L K Γ f [28, 23, 24]) A) #[.ref o, .ref q, .ref z] s 0 0 A) (F0 m 24 ls [])) (α := (Nat → va_E) × Int32) (fun aq => (12 - aq.2.toInt).toNat) (fun aq H locs ls => (0 ≤ aq.2.toInt) ∧ (aq.2.toInt ≤ 12) ∧ va_P D vwCl (va_pl L aq.1) H ∧ tp_I cy L K Γ aq.1 ∧ (∀ b, (K b).1 ∉ ([28, 23, 24] : List Nat) → aq.1 b = f b) ∧ va_S A s.heap H locs ∧ lv_has ls 5 [(3, .int aq.2), (0, .ref o), (1, .ref q), (2, .ref z)]) ?_ (f_1, (0 : Int32)) H locs ls ⟨(show 0 ≤ (0 : Int) from (by omega)), (show (0 : Int) ≤ 12 from (by omega)), hP, hI, hfr, hS, lv_sub hl [0, 1, 2, 3] rfl⟩
    rintro ⟨f_3, v3⟩ H locs ls ⟨h0, h1, hP, hI, hfr, hS, hl⟩ ih24
    have hP : va_P D vwCl (va_pl L f_3) H := hP
    have hI : tp_I cy L K Γ f_3 := hI
    have hfr : ∀ b, (K b).1 ∉ ([28, 23, 24] : List Nat) → f_3 b = f b := hfr
    have hD : va_D A (va_pl L f_3) := tp_D hL hAL
    have h0 : 0 ≤ v3.toInt := h0
    have h1 : v3.toInt ≤ 12 := h1
    have hl : lv_has ls 5 [(3, .int v3), (0, .ref o), (1, .ref q), (2, .ref z)] := hl
    refine lv_iload_n hx hb dX10_skipBy_24 rfl (lv_at hl 0 rfl) ?_
    refine lv_aload_n hx hb dX10_skipBy_25 rfl (lv_at hl 2 rfl) ?_
    obtain ⟨x_5, x_6, x_7, x_8, x_9, x_10, x_11, x_12, x_13, hf_4, hx_5, hx_6, hx_7, hx_8, hx_9, hx_10, hx_11, hx_12, hx_13⟩ := (show tp_o_TEXT L K (0) 0 (Γ (18, 0, 0)) (f q) from hI0.at hq)
    refine tp_getN (cy := cy) (ci := 7) (v := .int x_5) (C := RX7) (T := TX7) (N := 9) hx hb hta inlX7 hown hK hP hq.1 ((tp_un hfr hq (by decide)).trans hf_4) rfl 0 (by decide) (va_Nw.use rfl (hN.1 36 _ nk_36)) (fun _ h9 => h9) rfl dX10_skipBy_26 ?_
    refine lv_icmp_ge (tgt := 115) hx hb dX10_skipBy_29 (by decide) (fun c_14 => ?_) (fun c_14 => ?_)
    · have c_14 : x_5.toInt ≤ v3.toInt := tl_le c_14
      exact W.vret hx hb hr (fun t ht hW => ⟨⟨f_3, rfl, trivial, by rw [ht]; exact hP, hI, hfr⟩, hS.F ht⟩) hS.2.2 dX10_skipBy_115
    · have c_14 : v3.toInt < x_5.toInt := tl_nle c_14
      refine lv_iload_n hx hb dX10_skipBy_32 rfl (lv_at hl 0 rfl) ?_
      refine lv_bipush (v := 12) hx hb dX10_skipBy_33 (by decide) ?_
      refine lv_icmp_ge (tgt := 115) hx hb dX10_skipBy_35 (by decide) (fun c_15 => ?_) (fun c_15 => ?_)
      · have c_15 : (12 : Int) ≤ v3.toInt := tl_le c_15
        exact W.vret hx hb hr (fun t ht hW => ⟨⟨f_3, rfl, trivial, by rw [ht]; exact hP, hI, hfr⟩, hS.F ht⟩) hS.2.2 dX10_skipBy_115
      · have c_15 : v3.toInt < (12 : Int) := tl_nle c_15
        refine lv_iconst (v := 0) hx hb dX10_skipBy_38 (by decide) ?_
        refine lv_istore (lv' := [(4, .int 0), (3, .int v3), (0, .ref o), (1, .ref q), (2, .ref z)]) hx hb dX10_skipBy_39 hl (by decide) rfl (fun ls hl => ?_)
        refine tl_ind (G := fun H locs ls => W p l e ((headSpec (tl_w yX10_skipBy cX10_skipBy 5 none) ({ frames := 2, cells := 0, slots := 0, locals := 51 })).room) s m #[.ref o, .ref q, .ref z] below meth c H locs 0 0 (MQ below (va_Qv (fun (u : Nat → va_E) => True) (tp_B D cy L K Γ f [28, 23, 24]) A) #[.ref o, .ref q, .ref z] s 0 0 A) (F0 m 41 ls [])) (α := (Nat → va_E) × Int32) (fun aq => (300 - aq.2.toInt).toNat) (fun aq H locs ls => (0 ≤ aq.2.toInt) ∧ (aq.2.toInt ≤ 300) ∧ va_P D vwCl (va_pl L aq.1) H ∧ tp_I cy L K Γ aq.1 ∧ (∀ b, (K b).1 ∉ ([28, 23, 24] : List Nat) → aq.1 b = f b) ∧ va_S A s.heap H locs ∧ lv_has ls 5 [(4, .int aq.2), (3, .int v3), (0, .ref o), (1, .ref q), (2, .ref z)]) ?_ (f_3, (0 : Int32)) H locs ls ⟨(show 0 ≤ (0 : Int) from (by omega)), (show (0 : Int) ≤ 300 from (by omega)), hP, hI, hfr, hS, lv_sub hl [0, 1, 2, 3, 4] rfl⟩
        rintro ⟨f_16, v4⟩ H locs ls ⟨h0, h1, hP, hI, hfr, hS, hl⟩ ih41
        have hP : va_P D vwCl (va_pl L f_16) H := hP
        have hI : tp_I cy L K Γ f_16 := hI
        have hfr : ∀ b, (K b).1 ∉ ([28, 23, 24] : List Nat) → f_16 b = f b := hfr
        have hD : va_D A (va_pl L f_16) := tp_D hL hAL
        have h0 : 0 ≤ v4.toInt := h0
        have h1 : v4.toInt ≤ 300 := h1
        have hl : lv_has ls 5 [(4, .int v4), (3, .int v3), (0, .ref o), (1, .ref q), (2, .ref z)] := hl
        refine lv_aload_n hx hb dX10_skipBy_41 rfl (lv_at hl 3 rfl) ?_
        refine tp_getN (cy := cy) (ci := 7) (v := .ref x_6) (C := RX7) (T := TX7) (N := 9) hx hb hta inlX7 hown hK hP hq.1 ((tp_un hfr hq (by decide)).trans hf_4) rfl 1 (by decide) (va_Nw.use rfl (hN.1 40 _ nk_40)) (fun _ h9 => h9) rfl dX10_skipBy_42 ?_
        refine lv_iload_n hx hb dX10_skipBy_45 rfl (lv_at hl 1 rfl) ?_
        obtain ⟨g_18, hf_17, hg_19⟩ := (show tp_ai cy 20 (12) (f x_6) from hI0.at hx_6)
        have hn_20 : vp_in v3 (12) := tl_in (by omega) (by omega)
        refine tp_iald (cy := cy) hx hb hK hP hx_6.1 ((tp_un hfr hx_6 (by decide)).trans hf_17) hn_20 dX10_skipBy_46 ?_
        refine lv_topi (fun z_21 ez_21 => ?_)
        refine lv_bipush (v := 7) hx hb dX10_skipBy_47 (by decide) ?_
        refine lv_icmp_ne (tgt := 109) hx hb dX10_skipBy_49 (by decide) (fun c_22 => ?_) (fun c_22 => ?_)
        · have c_22 : ¬ z_21.toInt = (7 : Int) := tl_neq c_22
          obtain ⟨z_23, ez_23⟩ : ∃ y : Int32, y = v3 + 1 := ⟨_, rfl⟩
          refine lv_iinc (v := z_23) (lv' := [(3, .int z_23), (4, .int v4), (0, .ref o), (1, .ref q), (2, .ref z)]) hx hb dX10_skipBy_109 hl (k := 1) rfl (by rw [ez_23]; rfl) (by decide) rfl (fun ls hl => ?_)
          try have iz_23 : z_23.toInt = v3.toInt + 1 := by rw [ez_23]; exact tl_addL v3 1 (by decide) (by omega) (by omega)
          refine lv_goto (tgt := 24) hx hb dX10_skipBy_112 (by decide) ?_
          exact ih24 (f_16, z_23) H locs ls (by show (12 - z_23.toInt).toNat < (12 - v3.toInt).toNat; omega) ⟨(show 0 ≤ z_23.toInt from (by omega)), (show z_23.toInt ≤ 12 from (by omega)), hP, hI, hfr, hS, lv_sub hl [0, 2, 3, 4] rfl⟩
        · have c_22 : z_21.toInt = (7 : Int) := tl_eq c_22
          refine lv_iload hx hb dX10_skipBy_52 (lv_at hl 0 rfl) ?_
          refine lv_sipush (v := 300) hx hb dX10_skipBy_54 (by decide) ?_
          refine lv_icmp_ge (tgt := 109) hx hb dX10_skipBy_57 (by decide) (fun c_24 => ?_) (fun c_24 => ?_)
          · have c_24 : (300 : Int) ≤ v4.toInt := tl_le c_24
            obtain ⟨z_25, ez_25⟩ : ∃ y : Int32, y = v3 + 1 := ⟨_, rfl⟩
            refine lv_iinc (v := z_25) (lv' := [(3, .int z_25), (4, .int v4), (0, .ref o), (1, .ref q), (2, .ref z)]) hx hb dX10_skipBy_109 hl (k := 1) rfl (by rw [ez_25]; rfl) (by decide) rfl (fun ls hl => ?_)
            try have iz_25 : z_25.toInt = v3.toInt + 1 := by rw [ez_25]; exact tl_addL v3 1 (by decide) (by omega) (by omega)
            refine lv_goto (tgt := 24) hx hb dX10_skipBy_112 (by decide) ?_
            exact ih24 (f_16, z_25) H locs ls (by show (12 - z_25.toInt).toNat < (12 - v3.toInt).toNat; omega) ⟨(show 0 ≤ z_25.toInt from (by omega)), (show z_25.toInt ≤ 12 from (by omega)), hP, hI, hfr, hS, lv_sub hl [0, 2, 3, 4] rfl⟩
          · have c_24 : v4.toInt < (300 : Int) := tl_nle c_24
            refine lv_aload_n hx hb dX10_skipBy_60 rfl (lv_at hl 4 rfl) ?_
            refine lv_iload hx hb dX10_skipBy_61 (lv_at hl 0 rfl) ?_
            obtain ⟨x_27, x_28, hf_26, hx_27, hx_28⟩ := (show tp_o_SUMS L K (0) 0 (Γ (22, 0, 0)) (f z) from hI0.at hz)
            refine tq_cv hS (hAf _ hS.1) (tq_rVN hN (As := [.int v4]) (rest := []) ⟨hx, hb, hml, hown, hta⟩ (tp_P.pre hK hN hL hU hI hP) (tp_recv hK hP hz.1 ((tp_un hfr hz (by decide)).trans hf_26) rfl) lk_X10_49 (t_X5_setColour l D cy H.size L K Γ f_16 z v4 hz) rfl rfl ⟨Nat.le_of_ble_eq_true rfl, Nat.le_of_ble_eq_true rfl⟩ rfl hl.1 rfl (Nat.le_of_ble_eq_true rfl) dX10_skipBy_63 ⟨Nat.le_of_ble_eq_true rfl, Nat.le_of_ble_eq_true rfl⟩) (fun f_31 H locs hw_29 hP hI hc_32 hS => ?_)
            have hD : va_D A (va_pl L f_31) := tp_D hL hAL
            have hfr := tp_fr2 hfr hc_32 (by decide)
            refine lv_aload_n hx hb dX10_skipBy_66 rfl (lv_at hl 2 rfl) ?_
            obtain ⟨x_34, x_35, x_36, x_37, x_38, x_39, x_40, x_41, x_42, x_43, x_44, x_45, x_46, x_47, x_48, x_49, x_50, x_51, hf_33, hx_34, hx_35, hx_36, hx_37, hx_38, hx_39, hx_40, hx_41, hx_42, hx_44, hx_47⟩ := (show tp_o_VIEW L K (0) 0 (Γ (27, 0, 0)) (f o) from hI0.at ho)
            refine tp_get (cy := cy) (ci := 10) (v := .ref x_35) (C := RX10) (T := TX10) (N := 18) hx hb hta inlX10 hown hK hP ho.1 ((tp_un hfr ho (by decide)).trans hf_33) rfl 1 (by decide) (hta _ wk_132) (fun _ h9 => h9) rfl dX10_skipBy_67 ?_
            refine lv_iload hx hb dX10_skipBy_70 (lv_at hl 0 rfl) ?_
            refine lv_dup2_11 hx hb dX10_skipBy_72 rfl rfl ?_
            obtain ⟨g_53, hf_52⟩ := (show tp_az cy (300) (f_31 x_35) from hI.at hx_35)
            have hn_55 : vp_in v4 (300) := tl_in (by omega) (by omega)
            refine tp_zald (cy := cy) hx hb hK hP hx_35.1 hf_52 hn_55 dX10_skipBy_73 ?_
            refine lv_topi (fun z_56 ez_56 => ?_)
            refine lv_aload_n hx hb dX10_skipBy_74 rfl (lv_at hl 4 rfl) ?_
            refine lv_aload_n hx hb dX10_skipBy_75 rfl (lv_at hl 3 rfl) ?_
            refine lv_aload_n hx hb dX10_skipBy_76 rfl (lv_at hl 3 rfl) ?_
            refine tp_getN (cy := cy) (ci := 7) (v := .ref x_10) (C := RX7) (T := TX7) (N := 9) hx hb hta inlX7 hown hK hP hq.1 ((tp_un hfr hq (by decide)).trans hf_4) rfl 5 (by decide) (va_Nw.use rfl (hN.1 48 _ nk_48)) (fun _ h9 => h9) rfl dX10_skipBy_77 ?_
            refine lv_iload_n hx hb dX10_skipBy_80 rfl (lv_at hl 1 rfl) ?_
            obtain ⟨g_58, hf_57, hg_59⟩ := (show tp_ai cy 20 (12) (f x_10) from hI0.at hx_10)
            have hn_60 : vp_in v3 (12) := tl_in (by omega) (by omega)
            refine tp_iald (cy := cy) hx hb hK hP hx_10.1 ((tp_un hfr hx_10 (by decide)).trans hf_57) hn_60 dX10_skipBy_81 ?_
            refine lv_topi (fun z_61 ez_61 => ?_)
            refine lv_aload_n hx hb dX10_skipBy_82 rfl (lv_at hl 3 rfl) ?_
            refine tp_getN (cy := cy) (ci := 7) (v := .ref x_11) (C := RX7) (T := TX7) (N := 9) hx hb hta inlX7 hown hK hP hq.1 ((tp_un hfr hq (by decide)).trans hf_4) rfl 6 (by decide) (va_Nw.use rfl (hN.1 51 _ nk_51)) (fun _ h9 => h9) rfl dX10_skipBy_83 ?_
            refine lv_iload_n hx hb dX10_skipBy_86 rfl (lv_at hl 1 rfl) ?_
            obtain ⟨g_63, hf_62, hg_64⟩ := (show tp_ai cy 20 (12) (f x_11) from hI0.at hx_11)
            have hn_65 : vp_in v3 (12) := tl_in (by omega) (by omega)
            refine tp_iald (cy := cy) hx hb hK hP hx_11.1 ((tp_un hfr hx_11 (by decide)).trans hf_62) hn_65 dX10_skipBy_87 ?_
            refine lv_topi (fun z_66 ez_66 => ?_)
            refine tq_cl hS (hAf _ hS.1) (tq_rVN hN (As := [.ref q, .int z_61, .int z_66]) (rest := [.int z_56, .int v4, .ref x_35]) ⟨hx, hb, hml, hown, hta⟩ (tp_P.pre hK hN hL hU hI hP) (tp_recv hK hP hz.1 ((tp_un hfr hz (by decide)).trans hf_26) rfl) lk_X10_61 (t_X5_worked l D cy H.size L K Γ f_31 z q z_61 z_66 hz hq) rfl rfl ⟨Nat.le_of_ble_eq_true rfl, Nat.le_of_ble_eq_true rfl⟩ rfl hl.1 rfl (Nat.le_of_ble_eq_true rfl) dX10_skipBy_88 ⟨Nat.le_of_ble_eq_true rfl, Nat.le_of_ble_eq_true rfl⟩) (fun r_68 f_69 H locs hw_67 hP hI hc_70 hS => ?_)
            have hD : va_D A (va_pl L f_69) := tp_D hL hAL
            have hfr := tp_fr2 hfr hc_70 (by decide)
            have hf_71 := (tp_un hc_70 hx_35 (by decide)).trans hf_52
            refine lv_lconst (v := 0) hx hb dX10_skipBy_91 (by decide) ?_
            refine W.lcmp hx hb dX10_skipBy_92 ?_
            refine lv_if_eq (tgt := 100) hx hb dX10_skipBy_93 (by decide) (fun c_72 => ?_) (fun c_72 => ?_)
            · have c_72 : r_68.toInt = (0 : Int) := tl_cmp_eq c_72
              refine lv_iconst (v := 0) hx hb dX10_skipBy_100 (by decide) ?_
              refine lv_ior hx hb dX10_skipBy_101 ?_
              refine lv_topi (fun z_73 ez_73 => ?_)
              have hn_74 : vp_in v4 (300) := tl_in (by omega) (by omega)
              have hI9 : tp_I cy L K Γ (va_up f_69 x_35 (.inl (cy 2, 300, .inl (upd g_53 v4.toNatClampNeg (vp_nar .boolean z_73))))) := hI.set hx_35 (show tp_az cy (300) _ from ⟨_, rfl⟩)
              have hfr9 : ∀ b, (K b).1 ∉ ([28, 23, 24] : List Nat) → va_up f_69 x_35 (.inl (cy 2, 300, .inl (upd g_53 v4.toNatClampNeg (vp_nar .boolean z_73)))) b = f b := tp_fr hfr hx_35 (by decide)
              refine tp_zast (cy := cy) hx hb hK hP hD hS hx_35.1 hf_71 hn_74 dX10_skipBy_102 (fun H locs hP hD hS => ?_)
              have hP : va_P D vwCl (va_pl L (va_up f_69 x_35 (.inl (cy 2, 300, .inl (upd g_53 v4.toNatClampNeg (vp_nar .boolean z_73)))))) H := hP
              generalize hfe : va_up f_69 x_35 (.inl (cy 2, 300, .inl (upd g_53 v4.toNatClampNeg (vp_nar .boolean z_73)))) = f_75 at hP hI9 hfr9
              have hD : va_D A (va_pl L f_75) := tp_D hL hAL
              have hf_76 : f_75 x_35 = .inl (cy 2, 300, .inl (upd g_53 v4.toNatClampNeg (vp_nar .boolean z_73))) := by rw [← hfe]; exact va_up_self _ _ _
              clear hfe
              have hI := hI9
              have hfr := hfr9
              clear hI9 hfr9
              obtain ⟨z_77, ez_77⟩ : ∃ y : Int32, y = v4 + 1 := ⟨_, rfl⟩
              refine lv_iinc (v := z_77) (lv' := [(4, .int z_77), (3, .int v3), (0, .ref o), (1, .ref q), (2, .ref z)]) hx hb dX10_skipBy_103 hl (k := 0) rfl (by rw [ez_77]; rfl) (by decide) rfl (fun ls hl => ?_)
              try have iz_77 : z_77.toInt = v4.toInt + 1 := by rw [ez_77]; exact tl_addL v4 1 (by decide) (by omega) (by omega)
              refine lv_goto (tgt := 41) hx hb dX10_skipBy_106 (by decide) ?_
              exact ih41 (f_75, z_77) H locs ls (by show (300 - z_77.toInt).toNat < (300 - v4.toInt).toNat; omega) ⟨(show 0 ≤ z_77.toInt from (by omega)), (show z_77.toInt ≤ 300 from (by omega)), hP, hI, hfr, hS, lv_sub hl [0, 1, 2, 3, 4] rfl⟩
            · have c_72 : ¬ r_68.toInt = (0 : Int) := tl_cmp_neq c_72
              refine lv_iconst (v := 1) hx hb dX10_skipBy_96 (by decide) ?_
              refine lv_goto (tgt := 101) hx hb dX10_skipBy_97 (by decide) ?_
              refine lv_ior hx hb dX10_skipBy_101 ?_
              refine lv_topi (fun z_78 ez_78 => ?_)
              have hn_79 : vp_in v4 (300) := tl_in (by omega) (by omega)
              have hI9 : tp_I cy L K Γ (va_up f_69 x_35 (.inl (cy 2, 300, .inl (upd g_53 v4.toNatClampNeg (vp_nar .boolean z_78))))) := hI.set hx_35 (show tp_az cy (300) _ from ⟨_, rfl⟩)
              have hfr9 : ∀ b, (K b).1 ∉ ([28, 23, 24] : List Nat) → va_up f_69 x_35 (.inl (cy 2, 300, .inl (upd g_53 v4.toNatClampNeg (vp_nar .boolean z_78)))) b = f b := tp_fr hfr hx_35 (by decide)
              refine tp_zast (cy := cy) hx hb hK hP hD hS hx_35.1 hf_71 hn_79 dX10_skipBy_102 (fun H locs hP hD hS => ?_)
              have hP : va_P D vwCl (va_pl L (va_up f_69 x_35 (.inl (cy 2, 300, .inl (upd g_53 v4.toNatClampNeg (vp_nar .boolean z_78)))))) H := hP
              generalize hfe : va_up f_69 x_35 (.inl (cy 2, 300, .inl (upd g_53 v4.toNatClampNeg (vp_nar .boolean z_78)))) = f_80 at hP hI9 hfr9
              have hD : va_D A (va_pl L f_80) := tp_D hL hAL
              have hf_81 : f_80 x_35 = .inl (cy 2, 300, .inl (upd g_53 v4.toNatClampNeg (vp_nar .boolean z_78))) := by rw [← hfe]; exact va_up_self _ _ _
              clear hfe
              have hI := hI9
              have hfr := hfr9
              clear hI9 hfr9
              obtain ⟨z_82, ez_82⟩ : ∃ y : Int32, y = v4 + 1 := ⟨_, rfl⟩
              refine lv_iinc (v := z_82) (lv' := [(4, .int z_82), (3, .int v3), (0, .ref o), (1, .ref q), (2, .ref z)]) hx hb dX10_skipBy_103 hl (k := 0) rfl (by rw [ez_82]; rfl) (by decide) rfl (fun ls hl => ?_)
              try have iz_82 : z_82.toInt = v4.toInt + 1 := by rw [ez_82]; exact tl_addL v4 1 (by decide) (by omega) (by omega)
              refine lv_goto (tgt := 41) hx hb dX10_skipBy_106 (by decide) ?_
              exact ih41 (f_80, z_82) H locs ls (by show (300 - z_82.toInt).toNat < (300 - v4.toInt).toNat; omega) ⟨(show 0 ≤ z_82.toInt from (by omega)), (show z_82.toInt ≤ 300 from (by omega)), hP, hI, hfr, hS, lv_sub hl [0, 1, 2, 3, 4] rfl⟩
  · have c_2 : v3.toInt < (300 : Int) := tl_nle c_2
    refine lv_aload_n hx hb dX10_skipBy_9 rfl (lv_at hl 1 rfl) ?_
    obtain ⟨x_84, x_85, x_86, x_87, x_88, x_89, x_90, x_91, x_92, x_93, x_94, x_95, x_96, x_97, x_98, x_99, x_100, x_101, hf_83, hx_84, hx_85, hx_86, hx_87, hx_88, hx_89, hx_90, hx_91, hx_92, hx_94, hx_97⟩ := (show tp_o_VIEW L K (0) 0 (Γ (27, 0, 0)) (f o) from hI0.at ho)
    refine tp_get (cy := cy) (ci := 10) (v := .ref x_85) (C := RX10) (T := TX10) (N := 18) hx hb hta inlX10 hown hK hP ho.1 ((tp_un hfr ho (by decide)).trans hf_83) rfl 1 (by decide) (hta _ wk_132) (fun _ h9 => h9) rfl dX10_skipBy_10 ?_
    refine lv_iload_n hx hb dX10_skipBy_13 rfl (lv_at hl 0 rfl) ?_
    refine lv_iconst (v := 0) hx hb dX10_skipBy_14 (by decide) ?_
    obtain ⟨g_103, hf_102⟩ := (show tp_az cy (300) (f_1 x_85) from hI.at hx_85)
    have hn_105 : vp_in v3 (300) := tl_in (by omega) (by omega)
    have hI9 : tp_I cy L K Γ (va_up f_1 x_85 (.inl (cy 2, 300, .inl (upd g_103 v3.toNatClampNeg (vp_nar .boolean 0))))) := hI.set hx_85 (show tp_az cy (300) _ from ⟨_, rfl⟩)
    have hfr9 : ∀ b, (K b).1 ∉ ([28, 23, 24] : List Nat) → va_up f_1 x_85 (.inl (cy 2, 300, .inl (upd g_103 v3.toNatClampNeg (vp_nar .boolean 0)))) b = f b := tp_fr hfr hx_85 (by decide)
    refine tp_zast (cy := cy) hx hb hK hP hD hS hx_85.1 hf_102 hn_105 dX10_skipBy_15 (fun H locs hP hD hS => ?_)
    have hP : va_P D vwCl (va_pl L (va_up f_1 x_85 (.inl (cy 2, 300, .inl (upd g_103 v3.toNatClampNeg (vp_nar .boolean 0)))))) H := hP
    generalize hfe : va_up f_1 x_85 (.inl (cy 2, 300, .inl (upd g_103 v3.toNatClampNeg (vp_nar .boolean 0)))) = f_106 at hP hI9 hfr9
    have hD : va_D A (va_pl L f_106) := tp_D hL hAL
    have hf_107 : f_106 x_85 = .inl (cy 2, 300, .inl (upd g_103 v3.toNatClampNeg (vp_nar .boolean 0))) := by rw [← hfe]; exact va_up_self _ _ _
    clear hfe
    have hI := hI9
    have hfr := hfr9
    clear hI9 hfr9
    obtain ⟨z_108, ez_108⟩ : ∃ y : Int32, y = v3 + 1 := ⟨_, rfl⟩
    refine lv_iinc (v := z_108) (lv' := [(3, .int z_108), (0, .ref o), (1, .ref q), (2, .ref z)]) hx hb dX10_skipBy_16 hl (k := 0) rfl (by rw [ez_108]; rfl) (by decide) rfl (fun ls hl => ?_)
    try have iz_108 : z_108.toInt = v3.toInt + 1 := by rw [ez_108]; exact tl_addL v3 1 (by decide) (by omega) (by omega)
    refine lv_goto (tgt := 2) hx hb dX10_skipBy_19 (by decide) ?_
    exact ih2 (f_106, z_108) H locs ls (by show (300 - z_108.toInt).toNat < (300 - v3.toInt).toNat; omega) ⟨(show 0 ≤ z_108.toInt from (by omega)), (show z_108.toInt ≤ 300 from (by omega)), hP, hI, hfr, hS, lv_sub hl [0, 1, 2, 3] rfl⟩
