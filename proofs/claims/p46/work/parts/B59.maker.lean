theorem dX1_begin_0 : decode cX1_begin 0 = .ok (.aload_n 0, 1) := by decide +kernel
theorem dX1_begin_1 : decode cX1_begin 1 = .ok (.aload_n 1, 1) := by decide +kernel
theorem dX1_begin_2 : decode cX1_begin 2 = .ok (.iconst 1, 1) := by decide +kernel
theorem dX1_begin_3 : decode cX1_begin 3 = .ok (.iconst 0, 1) := by decide +kernel
theorem dX1_begin_4 : decode cX1_begin 4 = .ok (.invokevirtual 15, 3) := by decide +kernel
theorem dX1_begin_7 : decode cX1_begin 7 = .ok (.putfield 21, 3) := by decide +kernel
theorem dX1_begin_10 : decode cX1_begin 10 = .ok (.aload_n 0, 1) := by decide +kernel
theorem dX1_begin_11 : decode cX1_begin 11 = .ok (.aload_n 1, 1) := by decide +kernel
theorem dX1_begin_12 : decode cX1_begin 12 = .ok (.iconst 1, 1) := by decide +kernel
theorem dX1_begin_13 : decode cX1_begin 13 = .ok (.iconst 0, 1) := by decide +kernel
theorem dX1_begin_14 : decode cX1_begin 14 = .ok (.invokevirtual 25, 3) := by decide +kernel
theorem dX1_begin_17 : decode cX1_begin 17 = .ok (.putfield 28, 3) := by decide +kernel
theorem dX1_begin_20 : decode cX1_begin 20 = .ok (.aload_n 0, 1) := by decide +kernel
theorem dX1_begin_21 : decode cX1_begin 21 = .ok (.aload_n 1, 1) := by decide +kernel
theorem dX1_begin_22 : decode cX1_begin 22 = .ok (.iconst 2, 1) := by decide +kernel
theorem dX1_begin_23 : decode cX1_begin 23 = .ok (.iconst 0, 1) := by decide +kernel
theorem dX1_begin_24 : decode cX1_begin 24 = .ok (.invokevirtual 15, 3) := by decide +kernel
theorem dX1_begin_27 : decode cX1_begin 27 = .ok (.putfield 31, 3) := by decide +kernel
theorem dX1_begin_30 : decode cX1_begin 30 = .ok (.aload_n 0, 1) := by decide +kernel
theorem dX1_begin_31 : decode cX1_begin 31 = .ok (.iload_n 2, 1) := by decide +kernel
theorem dX1_begin_32 : decode cX1_begin 32 = .ok (.i2l, 1) := by decide +kernel
theorem dX1_begin_33 : decode cX1_begin 33 = .ok (.putfield 34, 3) := by decide +kernel
theorem dX1_begin_36 : decode cX1_begin 36 = .ok (.return_, 1) := by decide +kernel
theorem wk_702 : Cond.fieldLink RX1 21 "ThinLine$Maker" "period" "I" ∈ tl_L := List.mem_filter.mpr ⟨lw_m2 (i := 38) rfl, rfl⟩
theorem wk_703 : Cond.fieldLink RX1 28 "ThinLine$Maker" "swing" "I" ∈ tl_L := List.mem_filter.mpr ⟨lw_m2 (i := 39) rfl, rfl⟩
theorem wk_704 : Cond.fieldLink RX1 31 "ThinLine$Maker" "noise" "I" ∈ tl_L := List.mem_filter.mpr ⟨lw_m2 (i := 40) rfl, rfl⟩
theorem wk_705 : Cond.fieldLink RX1 34 "ThinLine$Maker" "x" "J" ∈ tl_L := List.mem_filter.mpr ⟨lw_m2 (i := 41) rfl, rfl⟩
theorem lk_X1_15 : tl_kVN RX1 15 RX7 yX7_firstOf "ThinLine" cX7_firstOf 4 (some .int) 2 97 := ⟨wk_708, by decide +kernel, wk_706, wk_707, wk_29, ⟨by decide +kernel, by decide +kernel, by decide +kernel⟩⟩
theorem lk_X1_25 : tl_kVN RX1 25 RX7 yX7_secondOf "ThinLine" cX7_secondOf 4 (some .int) 2 98 := ⟨wk_712, by decide +kernel, wk_710, wk_711, wk_29, ⟨by decide +kernel, by decide +kernel, by decide +kernel⟩⟩
theorem dX1_eatNothing_0 : decode cX1_eatNothing 0 = .ok (.aload_n 0, 1) := by decide +kernel
theorem dX1_eatNothing_1 : decode cX1_eatNothing 1 = .ok (.getfield 9, 3) := by decide +kernel
theorem dX1_eatNothing_4 : decode cX1_eatNothing 4 = .ok (.iconst 0, 1) := by decide +kernel
theorem dX1_eatNothing_5 : decode cX1_eatNothing 5 = .ok (.invokestatic 38, 3) := by decide +kernel
theorem dX1_eatNothing_8 : decode cX1_eatNothing 8 = .ok (.return_, 1) := by decide +kernel
theorem wk_126 : Cond.fieldLink RX1 9 "ThinLine$Maker" "eaten" "[I" ∈ tl_L := List.mem_filter.mpr ⟨lw_m2 (i := 37) rfl, rfl⟩
theorem wk_720 : Cond.methodLink RX1 38 yJ7_fill_53178 ∈ tl_L := List.mem_filter.mpr ⟨lw_m4 (i := 45) rfl, rfl⟩
theorem lk_X1_38 : tl_kS RX1 38 yJ7_fill_53178 cJ7_fill_53178 4 none 2 := ⟨wk_216, wk_720, wk_214, wk_215, ⟨by decide +kernel, by decide +kernel, by decide +kernel⟩⟩
theorem dX1_eat_0 : decode cX1_eat 0 = .ok (.aload_n 0, 1) := by decide +kernel
theorem dX1_eat_1 : decode cX1_eat 1 = .ok (.invokevirtual 44, 3) := by decide +kernel
theorem dX1_eat_4 : decode cX1_eat 4 = .ok (.iconst 0, 1) := by decide +kernel
theorem dX1_eat_5 : decode cX1_eat 5 = .ok (.istore_n 3, 1) := by decide +kernel
theorem dX1_eat_6 : decode cX1_eat 6 = .ok (.iload_n 3, 1) := by decide +kernel
theorem dX1_eat_7 : decode cX1_eat 7 = .ok (.aload_n 1, 1) := by decide +kernel
theorem dX1_eat_8 : decode cX1_eat 8 = .ok (.getfield 47, 3) := by decide +kernel
theorem dX1_eat_11 : decode cX1_eat 11 = .ok (.if_icmp .ge 104, 3) := by decide +kernel
theorem dX1_eat_14 : decode cX1_eat 14 = .ok (.iload_n 3, 1) := by decide +kernel
theorem dX1_eat_15 : decode cX1_eat 15 = .ok (.bipush 12, 2) := by decide +kernel
theorem dX1_eat_17 : decode cX1_eat 17 = .ok (.if_icmp .ge 98, 3) := by decide +kernel
theorem dX1_eat_20 : decode cX1_eat 20 = .ok (.iconst 0, 1) := by decide +kernel
theorem dX1_eat_21 : decode cX1_eat 21 = .ok (.istore 4, 2) := by decide +kernel
theorem dX1_eat_23 : decode cX1_eat 23 = .ok (.aload_n 1, 1) := by decide +kernel
theorem dX1_eat_24 : decode cX1_eat 24 = .ok (.getfield 50, 3) := by decide +kernel
theorem dX1_eat_27 : decode cX1_eat 27 = .ok (.iload_n 3, 1) := by decide +kernel
theorem dX1_eat_28 : decode cX1_eat 28 = .ok (.iaload, 1) := by decide +kernel
theorem dX1_eat_29 : decode cX1_eat 29 = .ok (.iconst 3, 1) := by decide +kernel
theorem dX1_eat_30 : decode cX1_eat 30 = .ok (.if_icmp .ne 79, 3) := by decide +kernel
theorem dX1_eat_33 : decode cX1_eat 33 = .ok (.iload 4, 2) := by decide +kernel
theorem dX1_eat_35 : decode cX1_eat 35 = .ok (.aload_n 2, 1) := by decide +kernel
theorem dX1_eat_36 : decode cX1_eat 36 = .ok (.getfield 53, 3) := by decide +kernel
theorem dX1_eat_39 : decode cX1_eat 39 = .ok (.if_icmp .ge 70, 3) := by decide +kernel
theorem dX1_eat_42 : decode cX1_eat 42 = .ok (.aload_n 2, 1) := by decide +kernel
theorem dX1_eat_43 : decode cX1_eat 43 = .ok (.iload 4, 2) := by decide +kernel
theorem dX1_eat_45 : decode cX1_eat 45 = .ok (.iconst 1, 1) := by decide +kernel
theorem dX1_eat_46 : decode cX1_eat 46 = .ok (.invokevirtual 60, 3) := by decide +kernel
theorem dX1_eat_49 : decode cX1_eat 49 = .ok (.istore 5, 2) := by decide +kernel
theorem dX1_eat_51 : decode cX1_eat 51 = .ok (.aload_n 2, 1) := by decide +kernel
theorem dX1_eat_52 : decode cX1_eat 52 = .ok (.iload 4, 2) := by decide +kernel
theorem dX1_eat_54 : decode cX1_eat 54 = .ok (.iconst 0, 1) := by decide +kernel
theorem dX1_eat_55 : decode cX1_eat 55 = .ok (.invokevirtual 60, 3) := by decide +kernel
theorem dX1_eat_58 : decode cX1_eat 58 = .ok (.aload_n 1, 1) := by decide +kernel
theorem dX1_eat_59 : decode cX1_eat 59 = .ok (.getfield 63, 3) := by decide +kernel
theorem dX1_eat_62 : decode cX1_eat 62 = .ok (.iload_n 3, 1) := by decide +kernel
theorem dX1_eat_63 : decode cX1_eat 63 = .ok (.iaload, 1) := by decide +kernel
theorem dX1_eat_64 : decode cX1_eat 64 = .ok (.if_icmp .ne 39, 3) := by decide +kernel
theorem dX1_eat_67 : decode cX1_eat 67 = .ok (.iload 5, 2) := by decide +kernel
theorem dX1_eat_69 : decode cX1_eat 69 = .ok (.invokestatic 66, 3) := by decide +kernel
theorem dX1_eat_72 : decode cX1_eat 72 = .ok (.ifCond .eq 31, 3) := by decide +kernel
theorem dX1_eat_75 : decode cX1_eat 75 = .ok (.aload_n 0, 1) := by decide +kernel
theorem dX1_eat_76 : decode cX1_eat 76 = .ok (.getfield 9, 3) := by decide +kernel
theorem dX1_eat_79 : decode cX1_eat 79 = .ok (.iload 5, 2) := by decide +kernel
theorem dX1_eat_81 : decode cX1_eat 81 = .ok (.dup2, 1) := by decide +kernel
theorem dX1_eat_82 : decode cX1_eat 82 = .ok (.iaload, 1) := by decide +kernel
theorem dX1_eat_83 : decode cX1_eat 83 = .ok (.aload_n 1, 1) := by decide +kernel
theorem dX1_eat_84 : decode cX1_eat 84 = .ok (.getfield 70, 3) := by decide +kernel
theorem dX1_eat_87 : decode cX1_eat 87 = .ok (.iload_n 3, 1) := by decide +kernel
theorem dX1_eat_88 : decode cX1_eat 88 = .ok (.iaload, 1) := by decide +kernel
theorem dX1_eat_89 : decode cX1_eat 89 = .ok (.aload_n 2, 1) := by decide +kernel
theorem dX1_eat_90 : decode cX1_eat 90 = .ok (.iload 4, 2) := by decide +kernel
theorem dX1_eat_92 : decode cX1_eat 92 = .ok (.iconst 2, 1) := by decide +kernel
theorem dX1_eat_93 : decode cX1_eat 93 = .ok (.invokevirtual 60, 3) := by decide +kernel
theorem dX1_eat_96 : decode cX1_eat 96 = .ok (.imul, 1) := by decide +kernel
theorem dX1_eat_97 : decode cX1_eat 97 = .ok (.sipush 1000, 3) := by decide +kernel
theorem dX1_eat_100 : decode cX1_eat 100 = .ok (.idiv, 1) := by decide +kernel
theorem dX1_eat_101 : decode cX1_eat 101 = .ok (.iadd, 1) := by decide +kernel
theorem dX1_eat_102 : decode cX1_eat 102 = .ok (.iastore, 1) := by decide +kernel
theorem dX1_eat_103 : decode cX1_eat 103 = .ok (.iinc 4 1, 3) := by decide +kernel
theorem dX1_eat_106 : decode cX1_eat 106 = .ok (.goto (-83), 3) := by decide +kernel
theorem dX1_eat_109 : decode cX1_eat 109 = .ok (.iinc 3 1, 3) := by decide +kernel
theorem dX1_eat_112 : decode cX1_eat 112 = .ok (.goto (-106), 3) := by decide +kernel
theorem dX1_eat_115 : decode cX1_eat 115 = .ok (.return_, 1) := by decide +kernel
theorem wk_37 : Cond.initialized RX1 ∈ tl_L := List.mem_filter.mpr ⟨lw_m1 (i := 11) rfl, rfl⟩
theorem wk_716 : Cond.methodLink RX1 44 yX1_eatNothing ∈ tl_L := List.mem_filter.mpr ⟨lw_m4 (i := 41) rfl, rfl⟩
theorem wk_717 : Cond.instanceMethod yX1_eatNothing ∈ tl_L := List.mem_filter.mpr ⟨lw_m4 (i := 43) rfl, rfl⟩
theorem wk_718 : Cond.selects RX1 yX1_eatNothing yX1_eatNothing ∈ tl_L := List.mem_filter.mpr ⟨lw_s3 (i := 9) (q := (yX1_eatNothing, 5)) rfl, rfl⟩
theorem wk_719 : Cond.code yX1_eatNothing cX1_eatNothing 1 none ∈ tl_L := List.mem_filter.mpr ⟨lw_m4 (i := 44) rfl, rfl⟩
theorem nk_13 : tl_N[13]? = some (Cond.fieldLinkNest "ThinLine$Maker" 53 "ThinLine$Table" "size" "I" "ThinLine") := by decide +kernel
theorem nk_37 : tl_N[37]? = some (Cond.fieldLinkNest "ThinLine$Maker" 47 "ThinLine$Text" "clauses" "I" "ThinLine") := by decide +kernel
theorem nk_41 : tl_N[41]? = some (Cond.fieldLinkNest "ThinLine$Maker" 50 "ThinLine$Text" "head" "[I" "ThinLine") := by decide +kernel
theorem nk_43 : tl_N[43]? = some (Cond.fieldLinkNest "ThinLine$Maker" 63 "ThinLine$Text" "first" "[I" "ThinLine") := by decide +kernel
theorem nk_45 : tl_N[45]? = some (Cond.fieldLinkNest "ThinLine$Maker" 70 "ThinLine$Text" "second" "[I" "ThinLine") := by decide +kernel
theorem lk_X1_44 : tl_kV RX1 44 RX1 yX1_eatNothing cX1_eatNothing 1 none 0 := ⟨wk_719, wk_716, wk_717, wk_718, wk_37, ⟨by decide +kernel, by decide +kernel, by decide +kernel⟩⟩
theorem lk_X1_60 : tl_kVN RX1 60 RX6 yX6_cell "ThinLine" cX6_cell 4 (some .int) 2 100 := ⟨wk_265, by decide +kernel, wk_263, wk_264, wk_64, ⟨by decide +kernel, by decide +kernel, by decide +kernel⟩⟩
theorem lk_X1_66 : tl_kSN RX1 66 yX11_isColour "ThinLine" cX11_isColour 1 (some .boolean) 1 101 := ⟨wk_236, by decide +kernel, wk_235, wk_2, ⟨by decide +kernel, by decide +kernel, by decide +kernel⟩⟩
theorem dX1_shineOf_0 : decode cX1_shineOf 0 = .ok (.iconst 0, 1) := by decide +kernel
theorem dX1_shineOf_1 : decode cX1_shineOf 1 = .ok (.istore_n 2, 1) := by decide +kernel
theorem dX1_shineOf_2 : decode cX1_shineOf 2 = .ok (.iload_n 2, 1) := by decide +kernel
theorem dX1_shineOf_3 : decode cX1_shineOf 3 = .ok (.aload_n 0, 1) := by decide +kernel
theorem dX1_shineOf_4 : decode cX1_shineOf 4 = .ok (.getfield 47, 3) := by decide +kernel
theorem dX1_shineOf_7 : decode cX1_shineOf 7 = .ok (.if_icmp .ge 40, 3) := by decide +kernel
theorem dX1_shineOf_10 : decode cX1_shineOf 10 = .ok (.iload_n 2, 1) := by decide +kernel
theorem dX1_shineOf_11 : decode cX1_shineOf 11 = .ok (.bipush 12, 2) := by decide +kernel
theorem dX1_shineOf_13 : decode cX1_shineOf 13 = .ok (.if_icmp .ge 34, 3) := by decide +kernel
theorem dX1_shineOf_16 : decode cX1_shineOf 16 = .ok (.aload_n 0, 1) := by decide +kernel
theorem dX1_shineOf_17 : decode cX1_shineOf 17 = .ok (.getfield 50, 3) := by decide +kernel
theorem dX1_shineOf_20 : decode cX1_shineOf 20 = .ok (.iload_n 2, 1) := by decide +kernel
theorem dX1_shineOf_21 : decode cX1_shineOf 21 = .ok (.iaload, 1) := by decide +kernel
theorem dX1_shineOf_22 : decode cX1_shineOf 22 = .ok (.ifCond .ne 19, 3) := by decide +kernel
theorem dX1_shineOf_25 : decode cX1_shineOf 25 = .ok (.aload_n 1, 1) := by decide +kernel
theorem dX1_shineOf_26 : decode cX1_shineOf 26 = .ok (.aload_n 0, 1) := by decide +kernel
theorem dX1_shineOf_27 : decode cX1_shineOf 27 = .ok (.iload_n 2, 1) := by decide +kernel
theorem dX1_shineOf_28 : decode cX1_shineOf 28 = .ok (.invokevirtual 109, 3) := by decide +kernel
theorem dX1_shineOf_31 : decode cX1_shineOf 31 = .ok (.ifCond .eq 10, 3) := by decide +kernel
theorem dX1_shineOf_34 : decode cX1_shineOf 34 = .ok (.aload_n 1, 1) := by decide +kernel
theorem dX1_shineOf_35 : decode cX1_shineOf 35 = .ok (.aload_n 0, 1) := by decide +kernel
theorem dX1_shineOf_36 : decode cX1_shineOf 36 = .ok (.iload_n 2, 1) := by decide +kernel
theorem dX1_shineOf_37 : decode cX1_shineOf 37 = .ok (.invokevirtual 113, 3) := by decide +kernel
theorem dX1_shineOf_40 : decode cX1_shineOf 40 = .ok (.lreturn, 1) := by decide +kernel
theorem dX1_shineOf_41 : decode cX1_shineOf 41 = .ok (.iinc 2 1, 3) := by decide +kernel
theorem dX1_shineOf_44 : decode cX1_shineOf 44 = .ok (.goto (-42), 3) := by decide +kernel
theorem dX1_shineOf_47 : decode cX1_shineOf 47 = .ok (.lconst 0, 1) := by decide +kernel
theorem dX1_shineOf_48 : decode cX1_shineOf 48 = .ok (.lreturn, 1) := by decide +kernel
theorem wk_739 : Cond.instanceMethod yX5_holds ∈ tl_L := List.mem_filter.mpr ⟨lw_m4 (i := 61) rfl, rfl⟩
theorem wk_740 : Cond.selects RX5 yX5_holds yX5_holds ∈ tl_L := List.mem_filter.mpr ⟨lw_s3 (i := 12) (q := (yX5_holds, 2)) rfl, rfl⟩
theorem wk_741 : Cond.code yX5_holds cX5_holds 5 (some .boolean) ∈ tl_L := List.mem_filter.mpr ⟨lw_m4 (i := 62) rfl, rfl⟩
theorem wk_754 : Cond.instanceMethod yX5_sumOf ∈ tl_L := List.mem_filter.mpr ⟨lw_m4 (i := 77) rfl, rfl⟩
theorem wk_755 : Cond.selects RX5 yX5_sumOf yX5_sumOf ∈ tl_L := List.mem_filter.mpr ⟨lw_s3 (i := 15) (q := (yX5_sumOf, 2)) rfl, rfl⟩
theorem wk_756 : Cond.code yX5_sumOf cX5_sumOf 3 (some .long) ∈ tl_L := List.mem_filter.mpr ⟨lw_m4 (i := 78) rfl, rfl⟩
theorem lk_X1_109 : tl_kVN RX1 109 RX5 yX5_holds "ThinLine" cX5_holds 5 (some .boolean) 2 104 := ⟨wk_741, by decide +kernel, wk_739, wk_740, wk_33, ⟨by decide +kernel, by decide +kernel, by decide +kernel⟩⟩
theorem lk_X1_113 : tl_kVN RX1 113 RX5 yX5_sumOf "ThinLine" cX5_sumOf 3 (some .long) 2 105 := ⟨wk_756, by decide +kernel, wk_754, wk_755, wk_33, ⟨by decide +kernel, by decide +kernel, by decide +kernel⟩⟩
theorem dX1_swingAt_0 : decode cX1_swingAt 0 = .ok (.aload_n 0, 1) := by decide +kernel
theorem dX1_swingAt_1 : decode cX1_swingAt 1 = .ok (.getfield 21, 3) := by decide +kernel
theorem dX1_swingAt_4 : decode cX1_swingAt 4 = .ok (.iconst 1, 1) := by decide +kernel
theorem dX1_swingAt_5 : decode cX1_swingAt 5 = .ok (.if_icmp .ge 5, 3) := by decide +kernel
theorem dX1_swingAt_8 : decode cX1_swingAt 8 = .ok (.iconst 0, 1) := by decide +kernel
theorem dX1_swingAt_9 : decode cX1_swingAt 9 = .ok (.ireturn, 1) := by decide +kernel
theorem dX1_swingAt_10 : decode cX1_swingAt 10 = .ok (.iload_n 1, 1) := by decide +kernel
theorem dX1_swingAt_11 : decode cX1_swingAt 11 = .ok (.aload_n 0, 1) := by decide +kernel
theorem dX1_swingAt_12 : decode cX1_swingAt 12 = .ok (.getfield 21, 3) := by decide +kernel
theorem dX1_swingAt_15 : decode cX1_swingAt 15 = .ok (.irem, 1) := by decide +kernel
theorem dX1_swingAt_16 : decode cX1_swingAt 16 = .ok (.istore_n 2, 1) := by decide +kernel
theorem dX1_swingAt_17 : decode cX1_swingAt 17 = .ok (.iconst 2, 1) := by decide +kernel
theorem dX1_swingAt_18 : decode cX1_swingAt 18 = .ok (.aload_n 0, 1) := by decide +kernel
theorem dX1_swingAt_19 : decode cX1_swingAt 19 = .ok (.getfield 28, 3) := by decide +kernel
theorem dX1_swingAt_22 : decode cX1_swingAt 22 = .ok (.imul, 1) := by decide +kernel
theorem dX1_swingAt_23 : decode cX1_swingAt 23 = .ok (.iload_n 2, 1) := by decide +kernel
theorem dX1_swingAt_24 : decode cX1_swingAt 24 = .ok (.aload_n 0, 1) := by decide +kernel
theorem dX1_swingAt_25 : decode cX1_swingAt 25 = .ok (.getfield 21, 3) := by decide +kernel
theorem dX1_swingAt_28 : decode cX1_swingAt 28 = .ok (.iload_n 2, 1) := by decide +kernel
theorem dX1_swingAt_29 : decode cX1_swingAt 29 = .ok (.isub, 1) := by decide +kernel
theorem dX1_swingAt_30 : decode cX1_swingAt 30 = .ok (.invokestatic 117, 3) := by decide +kernel
theorem dX1_swingAt_33 : decode cX1_swingAt 33 = .ok (.imul, 1) := by decide +kernel
theorem dX1_swingAt_34 : decode cX1_swingAt 34 = .ok (.aload_n 0, 1) := by decide +kernel
theorem dX1_swingAt_35 : decode cX1_swingAt 35 = .ok (.getfield 21, 3) := by decide +kernel
theorem dX1_swingAt_38 : decode cX1_swingAt 38 = .ok (.idiv, 1) := by decide +kernel
theorem dX1_swingAt_39 : decode cX1_swingAt 39 = .ok (.aload_n 0, 1) := by decide +kernel
theorem dX1_swingAt_40 : decode cX1_swingAt 40 = .ok (.getfield 28, 3) := by decide +kernel
theorem dX1_swingAt_43 : decode cX1_swingAt 43 = .ok (.iconst 2, 1) := by decide +kernel
theorem dX1_swingAt_44 : decode cX1_swingAt 44 = .ok (.idiv, 1) := by decide +kernel
theorem dX1_swingAt_45 : decode cX1_swingAt 45 = .ok (.isub, 1) := by decide +kernel
theorem dX1_swingAt_46 : decode cX1_swingAt 46 = .ok (.ireturn, 1) := by decide +kernel
theorem wk_769 : Cond.methodLink RX1 117 Lib.Math.min.name ∈ tl_L := List.mem_filter.mpr ⟨by decide +kernel, rfl⟩
theorem dX1_makeAt_0 : decode cX1_makeAt 0 = .ok (.aload_n 2, 1) := by decide +kernel
theorem dX1_makeAt_1 : decode cX1_makeAt 1 = .ok (.iload_n 3, 1) := by decide +kernel
theorem dX1_makeAt_2 : decode cX1_makeAt 2 = .ok (.invokevirtual 73, 3) := by decide +kernel
theorem dX1_makeAt_5 : decode cX1_makeAt 5 = .ok (.aload_n 1, 1) := by decide +kernel
theorem dX1_makeAt_6 : decode cX1_makeAt 6 = .ok (.aload_n 2, 1) := by decide +kernel
theorem dX1_makeAt_7 : decode cX1_makeAt 7 = .ok (.invokestatic 79, 3) := by decide +kernel
theorem dX1_makeAt_10 : decode cX1_makeAt 10 = .ok (.ldc2_w 83, 3) := by decide +kernel
theorem dX1_makeAt_13 : decode cX1_makeAt 13 = .ok (.ldc2_w 85, 3) := by decide +kernel
theorem dX1_makeAt_16 : decode cX1_makeAt 16 = .ok (.invokestatic 87, 3) := by decide +kernel
theorem dX1_makeAt_19 : decode cX1_makeAt 19 = .ok (.aload_n 0, 1) := by decide +kernel
theorem dX1_makeAt_20 : decode cX1_makeAt 20 = .ok (.getfield 9, 3) := by decide +kernel
theorem dX1_makeAt_23 : decode cX1_makeAt 23 = .ok (.iload_n 3, 1) := by decide +kernel
theorem dX1_makeAt_24 : decode cX1_makeAt 24 = .ok (.iaload, 1) := by decide +kernel
theorem dX1_makeAt_25 : decode cX1_makeAt 25 = .ok (.i2l, 1) := by decide +kernel
theorem dX1_makeAt_26 : decode cX1_makeAt 26 = .ok (.lsub, 1) := by decide +kernel
theorem dX1_makeAt_27 : decode cX1_makeAt 27 = .ok (.aload_n 0, 1) := by decide +kernel
theorem dX1_makeAt_28 : decode cX1_makeAt 28 = .ok (.iload_n 3, 1) := by decide +kernel
theorem dX1_makeAt_29 : decode cX1_makeAt 29 = .ok (.invokevirtual 91, 3) := by decide +kernel
theorem dX1_makeAt_32 : decode cX1_makeAt 32 = .ok (.i2l, 1) := by decide +kernel
theorem dX1_makeAt_33 : decode cX1_makeAt 33 = .ok (.ladd, 1) := by decide +kernel
theorem dX1_makeAt_34 : decode cX1_makeAt 34 = .ok (.lstore 4, 2) := by decide +kernel
theorem dX1_makeAt_36 : decode cX1_makeAt 36 = .ok (.aload_n 0, 1) := by decide +kernel
theorem dX1_makeAt_37 : decode cX1_makeAt 37 = .ok (.aload_n 0, 1) := by decide +kernel
theorem dX1_makeAt_38 : decode cX1_makeAt 38 = .ok (.getfield 34, 3) := by decide +kernel
theorem dX1_makeAt_41 : decode cX1_makeAt 41 = .ok (.ldc2_w 95, 3) := by decide +kernel
theorem dX1_makeAt_44 : decode cX1_makeAt 44 = .ok (.lmul, 1) := by decide +kernel
theorem dX1_makeAt_45 : decode cX1_makeAt 45 = .ok (.ldc2_w 97, 3) := by decide +kernel
theorem dX1_makeAt_48 : decode cX1_makeAt 48 = .ok (.ladd, 1) := by decide +kernel
theorem dX1_makeAt_49 : decode cX1_makeAt 49 = .ok (.ldc2_w 99, 3) := by decide +kernel
theorem dX1_makeAt_52 : decode cX1_makeAt 52 = .ok (.lrem, 1) := by decide +kernel
theorem dX1_makeAt_53 : decode cX1_makeAt 53 = .ok (.putfield 34, 3) := by decide +kernel
theorem dX1_makeAt_56 : decode cX1_makeAt 56 = .ok (.lload 4, 2) := by decide +kernel
theorem dX1_makeAt_58 : decode cX1_makeAt 58 = .ok (.aload_n 0, 1) := by decide +kernel
theorem dX1_makeAt_59 : decode cX1_makeAt 59 = .ok (.getfield 34, 3) := by decide +kernel
theorem dX1_makeAt_62 : decode cX1_makeAt 62 = .ok (.ldc2_w 101, 3) := by decide +kernel
theorem dX1_makeAt_65 : decode cX1_makeAt 65 = .ok (.ldiv, 1) := by decide +kernel
theorem dX1_makeAt_66 : decode cX1_makeAt 66 = .ok (.ldc2_w 103, 3) := by decide +kernel
theorem dX1_makeAt_69 : decode cX1_makeAt 69 = .ok (.aload_n 0, 1) := by decide +kernel
theorem dX1_makeAt_70 : decode cX1_makeAt 70 = .ok (.getfield 31, 3) := by decide +kernel
theorem dX1_makeAt_73 : decode cX1_makeAt 73 = .ok (.i2l, 1) := by decide +kernel
theorem dX1_makeAt_74 : decode cX1_makeAt 74 = .ok (.lmul, 1) := by decide +kernel
theorem dX1_makeAt_75 : decode cX1_makeAt 75 = .ok (.lconst 1, 1) := by decide +kernel
theorem dX1_makeAt_76 : decode cX1_makeAt 76 = .ok (.ladd, 1) := by decide +kernel
theorem dX1_makeAt_77 : decode cX1_makeAt 77 = .ok (.lrem, 1) := by decide +kernel
theorem dX1_makeAt_78 : decode cX1_makeAt 78 = .ok (.aload_n 0, 1) := by decide +kernel
theorem dX1_makeAt_79 : decode cX1_makeAt 79 = .ok (.getfield 31, 3) := by decide +kernel
theorem dX1_makeAt_82 : decode cX1_makeAt 82 = .ok (.i2l, 1) := by decide +kernel
theorem dX1_makeAt_83 : decode cX1_makeAt 83 = .ok (.lsub, 1) := by decide +kernel
theorem dX1_makeAt_84 : decode cX1_makeAt 84 = .ok (.ladd, 1) := by decide +kernel
theorem dX1_makeAt_85 : decode cX1_makeAt 85 = .ok (.lstore 4, 2) := by decide +kernel
theorem dX1_makeAt_87 : decode cX1_makeAt 87 = .ok (.lload 4, 2) := by decide +kernel
theorem dX1_makeAt_89 : decode cX1_makeAt 89 = .ok (.ldc2_w 105, 3) := by decide +kernel
theorem dX1_makeAt_92 : decode cX1_makeAt 92 = .ok (.ldc2_w 107, 3) := by decide +kernel
theorem dX1_makeAt_95 : decode cX1_makeAt 95 = .ok (.invokestatic 87, 3) := by decide +kernel
theorem dX1_makeAt_98 : decode cX1_makeAt 98 = .ok (.l2i, 1) := by decide +kernel
theorem dX1_makeAt_99 : decode cX1_makeAt 99 = .ok (.ireturn, 1) := by decide +kernel
theorem wk_724 : Cond.constantLong RX1 83 (-50000) ∈ tl_L := List.mem_filter.mpr ⟨lw_m4 (i := 79) rfl, rfl⟩
theorem wk_725 : Cond.constantLong RX1 85 (50000) ∈ tl_L := List.mem_filter.mpr ⟨lw_m4 (i := 80) rfl, rfl⟩
theorem wk_726 : Cond.constantLong RX1 95 (1103515245) ∈ tl_L := List.mem_filter.mpr ⟨lw_m4 (i := 97) rfl, rfl⟩
theorem wk_727 : Cond.constantLong RX1 97 (12345) ∈ tl_L := List.mem_filter.mpr ⟨lw_m4 (i := 98) rfl, rfl⟩
theorem wk_728 : Cond.constantLong RX1 99 (2147483648) ∈ tl_L := List.mem_filter.mpr ⟨lw_m4 (i := 99) rfl, rfl⟩
theorem wk_729 : Cond.constantLong RX1 101 (65536) ∈ tl_L := List.mem_filter.mpr ⟨lw_m4 (i := 100) rfl, rfl⟩
theorem wk_730 : Cond.constantLong RX1 103 (2) ∈ tl_L := List.mem_filter.mpr ⟨lw_m4 (i := 101) rfl, rfl⟩
theorem wk_731 : Cond.constantLong RX1 105 (-100000) ∈ tl_L := List.mem_filter.mpr ⟨lw_m4 (i := 102) rfl, rfl⟩
theorem wk_732 : Cond.constantLong RX1 107 (100000) ∈ tl_L := List.mem_filter.mpr ⟨lw_m4 (i := 103) rfl, rfl⟩
theorem wk_736 : Cond.methodLink RX1 79 yX1_shineOf ∈ tl_L := List.mem_filter.mpr ⟨lw_m4 (i := 56) rfl, rfl⟩
theorem wk_737 : Cond.static yX1_shineOf ∈ tl_L := List.mem_filter.mpr ⟨lw_m4 (i := 57) rfl, rfl⟩
theorem wk_738 : Cond.code yX1_shineOf cX1_shineOf 3 (some .long) ∈ tl_L := List.mem_filter.mpr ⟨lw_m4 (i := 58) rfl, rfl⟩
theorem wk_757 : Cond.static yX11_held ∈ tl_L := List.mem_filter.mpr ⟨lw_m4 (i := 82) rfl, rfl⟩
theorem wk_758 : Cond.code yX11_held cX11_held 6 (some .long) ∈ tl_L := List.mem_filter.mpr ⟨lw_m4 (i := 83) rfl, rfl⟩
theorem wk_765 : Cond.methodLink RX1 91 yX1_swingAt ∈ tl_L := List.mem_filter.mpr ⟨lw_m4 (i := 90) rfl, rfl⟩
theorem wk_766 : Cond.instanceMethod yX1_swingAt ∈ tl_L := List.mem_filter.mpr ⟨lw_m4 (i := 92) rfl, rfl⟩
theorem wk_767 : Cond.selects RX1 yX1_swingAt yX1_swingAt ∈ tl_L := List.mem_filter.mpr ⟨lw_s4 (i := 0) (q := (yX1_swingAt, 5)) rfl, rfl⟩
theorem wk_768 : Cond.code yX1_swingAt cX1_swingAt 3 (some .int) ∈ tl_L := List.mem_filter.mpr ⟨lw_m4 (i := 93) rfl, rfl⟩
theorem lk_X1_73 : tl_kVN RX1 73 RX5 yX5_setColour "ThinLine" cX5_setColour 2 none 1 103 := ⟨wk_735, by decide +kernel, wk_733, wk_734, wk_33, ⟨by decide +kernel, by decide +kernel, by decide +kernel⟩⟩
theorem lk_X1_79 : tl_kS RX1 79 yX1_shineOf cX1_shineOf 3 (some .long) 2 := ⟨wk_738, wk_736, wk_737, wk_37, ⟨by decide +kernel, by decide +kernel, by decide +kernel⟩⟩
theorem lk_X1_87 : tl_kSN RX1 87 yX11_held "ThinLine" cX11_held 6 (some .long) 3 106 := ⟨wk_758, by decide +kernel, wk_757, wk_2, ⟨by decide +kernel, by decide +kernel, by decide +kernel⟩⟩
theorem lk_X1_91 : tl_kV RX1 91 RX1 yX1_swingAt cX1_swingAt 3 (some .int) 1 := ⟨wk_768, wk_765, wk_766, wk_767, wk_37, ⟨by decide +kernel, by decide +kernel, by decide +kernel⟩⟩
set_option maxHeartbeats 4000000 in
set_option maxRecDepth 100000 in
theorem t_X1_begin (l : Launch) (D : va_G) (cy : Nat → ClassId) (sz : Nat) (L : List Nat) (K : Nat → tk_K) (Γ : tk_G) (f : Nat → va_E) (o : Nat) (q : Nat) (p0 : Int32) (ho : tp_r L K 25 (0) 0 o) (hq : tp_r L K 18 (0) 0 q) : Met l yX1_begin (tl_w yX1_begin cX1_begin 3 none) ({ frames := 2, cells := 0, slots := 0, locals := 45 }) (va_Pc [.ref o, .ref q, .int p0] (tp_P D cy L K Γ f sz)) (va_Qv (fun (u : Nat → va_E) => True) (tp_B D cy L K Γ f [25]) (tp_A L sz)) 0 0 (tp_A L sz) := by
  refine Met.ofW (cc := cX1_begin) (maxL := 3) (ret := none) (by decide) rfl ?_
  intro p e s m args below meth c s₁ B hml hv
  obtain ⟨rfl, hsz, hP, hK, hL, hI, hN, hU⟩ := hv
  have hx := B.exec
  have hb := B.bytes
  have hr := B.returns
  have hta := tl_hta (atoms_spec (ws := tl_w yX1_begin cX1_begin 3 none) B.pre)
  have hown : s.vm.findClass RX1 = some m.cls := findClass_of_methodNamed B.named
  have hlocks := B.notSynchronized
  subst hsz
  have hI0 := hI
  generalize hAe : tp_A L s.heap.size = A
  have hA : ∀ q : Nat, s.heap.size ≤ q → A q := fun q h => by rw [← hAe]; exact Or.inr h
  have hAL : ∀ q ∈ L, A q := fun q h => by rw [← hAe]; exact Or.inl h
  have hAf : ∀ (H : Heap), s.heap.size ≤ H.size → ∀ q, tp_A L H.size q → A q := fun H h q hq => hq.elim (hAL q) (fun h2 => hA q (Nat.le_trans h h2))
  have hS : va_S A s.heap s.heap [] := va_S.rf
  have hD : va_D A (va_pl L f) := tp_D hL hAL
  have hfr : ∀ b, (K b).1 ∉ ([25] : List Nat) → f b = f b := fun _ _ => rfl
  have hl := lv_entry ([.ref o, .ref q, .int p0]) (n := 3) (Nat.le_of_ble_eq_true rfl)
  rw [lg_entry_eq]
  generalize (lg_sl ([.ref o, .ref q, .int p0]) ++ List.replicate (3 - (lg_sl ([.ref o, .ref q, .int p0])).length) Slot.unset).toArray = ls at hl ⊢
  have hl : lv_has ls 3 [(0, .ref o), (1, .ref q), (2, .int p0)] := hl
  refine lv_aload_n hx hb dX1_begin_0 rfl (lv_at hl 0 rfl) ?_
  refine lv_aload_n hx hb dX1_begin_1 rfl (lv_at hl 1 rfl) ?_
  refine lv_iconst (v := 1) hx hb dX1_begin_2 (by decide) ?_
  refine lv_iconst (v := 0) hx hb dX1_begin_3 (by decide) ?_
  obtain ⟨x_2, x_3, x_4, x_5, x_6, x_7, x_8, x_9, x_10, hf_1, hx_2, hx_3, hx_4, hx_5, hx_6, hx_7, hx_8, hx_9, hx_10⟩ := (show tp_o_TEXT L K (0) 0 (Γ (18, 0, 0)) (f q) from hI0.at hq)
  refine tl_si (tq_rVN hN (As := [.int 1, .int 0]) (rest := [.ref o]) ⟨hx, hb, hml, hown, hta⟩ (tp_P.pre hK hN hL hU hI hP) (tp_recv hK hP hq.1 hf_1 rfl) lk_X1_15 (t_X7_firstOf l D cy s.heap.size L K Γ f q 1 0 hq) rfl rfl ⟨Nat.le_of_ble_eq_true rfl, Nat.le_of_ble_eq_true rfl⟩ rfl hl.1 rfl (Nat.le_of_ble_eq_true rfl) dX1_begin_4 ⟨Nat.le_of_ble_eq_true rfl, Nat.le_of_ble_eq_true rfl⟩) (fun r_12 hw_11 => ?_)
  have hw_11 : (0 ≤ r_12.toInt ∧ r_12.toInt ≤ 9999) ∨ r_12.toInt = (0 : Int) := hw_11
  obtain ⟨x_14, x_15, x_16, x_17, x_18, hf_13, hx_14⟩ := (show tp_o_MAKER L K (0) 0 (Γ (25, 0, 0)) (f o) from hI.at ho)
  have hI9 : tp_I cy L K Γ (va_up f o (.inr (1, [.ref x_14, .int r_12, .int x_16, .int x_17, .long x_18]))) := hI.set ho (show tp_o_MAKER L K (0) 0 (Γ (25, 0, 0)) _ from ⟨x_14, r_12, x_16, x_17, x_18, rfl, hx_14⟩)
  have hfr9 : ∀ b, (K b).1 ∉ ([25] : List Nat) → va_up f o (.inr (1, [.ref x_14, .int r_12, .int x_16, .int x_17, .long x_18])) b = f b := tp_fr hfr ho (by decide)
  refine tp_put (cy := cy) (ci := 1) (v := .int r_12) (ty := tyX1 1) (C := RX1) (T := TX1) (N := 5) hx hb hta inlX1 tyX1 tyX1_ok nmX1 hown hK hP hD hS ho.1 hf_13 rfl 1 (by decide) (hta _ wk_702) (fun _ h9 => h9) rfl (tyX1_ok 1 (by decide)) rfl rfl (Nat.le_of_ble_eq_true rfl) dX1_begin_7 (fun H locs hP hD hS => ?_)
  have hP : va_P D vwCl (va_pl L (va_up f o (.inr (1, [.ref x_14, .int r_12, .int x_16, .int x_17, .long x_18])))) H := hP
  generalize hfe : va_up f o (.inr (1, [.ref x_14, .int r_12, .int x_16, .int x_17, .long x_18])) = f_19 at hP hI9 hfr9
  have hD : va_D A (va_pl L f_19) := tp_D hL hAL
  have hf_20 : f_19 o = .inr (1, [.ref x_14, .int r_12, .int x_16, .int x_17, .long x_18]) := by rw [← hfe]; exact va_up_self _ _ _
  clear hfe
  have hI := hI9
  have hfr := hfr9
  clear hI9 hfr9
  refine lv_aload_n hx hb dX1_begin_10 rfl (lv_at hl 0 rfl) ?_
  refine lv_aload_n hx hb dX1_begin_11 rfl (lv_at hl 1 rfl) ?_
  refine lv_iconst (v := 1) hx hb dX1_begin_12 (by decide) ?_
  refine lv_iconst (v := 0) hx hb dX1_begin_13 (by decide) ?_
  refine tl_si (tq_rVN hN (As := [.int 1, .int 0]) (rest := [.ref o]) ⟨hx, hb, hml, hown, hta⟩ (tp_P.pre hK hN hL hU hI hP) (tp_recv hK hP hq.1 ((tp_un hfr hq (by decide)).trans hf_1) rfl) lk_X1_25 (t_X7_secondOf l D cy H.size L K Γ f_19 q 1 0 hq) rfl rfl ⟨Nat.le_of_ble_eq_true rfl, Nat.le_of_ble_eq_true rfl⟩ rfl hl.1 rfl (Nat.le_of_ble_eq_true rfl) dX1_begin_14 ⟨Nat.le_of_ble_eq_true rfl, Nat.le_of_ble_eq_true rfl⟩) (fun r_22 hw_21 => ?_)
  have hw_21 : (0 ≤ r_22.toInt ∧ r_22.toInt ≤ 9999) ∨ r_22.toInt = (0 : Int) := hw_21
  have hI9 : tp_I cy L K Γ (va_up f_19 o (.inr (1, [.ref x_14, .int r_12, .int r_22, .int x_17, .long x_18]))) := hI.set ho (show tp_o_MAKER L K (0) 0 (Γ (25, 0, 0)) _ from ⟨x_14, r_12, r_22, x_17, x_18, rfl, hx_14⟩)
  have hfr9 : ∀ b, (K b).1 ∉ ([25] : List Nat) → va_up f_19 o (.inr (1, [.ref x_14, .int r_12, .int r_22, .int x_17, .long x_18])) b = f b := tp_fr hfr ho (by decide)
  refine tp_put (cy := cy) (ci := 1) (v := .int r_22) (ty := tyX1 2) (C := RX1) (T := TX1) (N := 5) hx hb hta inlX1 tyX1 tyX1_ok nmX1 hown hK hP hD hS ho.1 hf_20 rfl 2 (by decide) (hta _ wk_703) (fun _ h9 => h9) rfl (tyX1_ok 2 (by decide)) rfl rfl (Nat.le_of_ble_eq_true rfl) dX1_begin_17 (fun H locs hP hD hS => ?_)
  have hP : va_P D vwCl (va_pl L (va_up f_19 o (.inr (1, [.ref x_14, .int r_12, .int r_22, .int x_17, .long x_18])))) H := hP
  generalize hfe : va_up f_19 o (.inr (1, [.ref x_14, .int r_12, .int r_22, .int x_17, .long x_18])) = f_23 at hP hI9 hfr9
  have hD : va_D A (va_pl L f_23) := tp_D hL hAL
  have hf_24 : f_23 o = .inr (1, [.ref x_14, .int r_12, .int r_22, .int x_17, .long x_18]) := by rw [← hfe]; exact va_up_self _ _ _
  clear hfe
  have hI := hI9
  have hfr := hfr9
  clear hI9 hfr9
  refine lv_aload_n hx hb dX1_begin_20 rfl (lv_at hl 0 rfl) ?_
  refine lv_aload_n hx hb dX1_begin_21 rfl (lv_at hl 1 rfl) ?_
  refine lv_iconst (v := 2) hx hb dX1_begin_22 (by decide) ?_
  refine lv_iconst (v := 0) hx hb dX1_begin_23 (by decide) ?_
  refine tl_si (tq_rVN hN (As := [.int 2, .int 0]) (rest := [.ref o]) ⟨hx, hb, hml, hown, hta⟩ (tp_P.pre hK hN hL hU hI hP) (tp_recv hK hP hq.1 ((tp_un hfr hq (by decide)).trans hf_1) rfl) lk_X1_15 (t_X7_firstOf l D cy H.size L K Γ f_23 q 2 0 hq) rfl rfl ⟨Nat.le_of_ble_eq_true rfl, Nat.le_of_ble_eq_true rfl⟩ rfl hl.1 rfl (Nat.le_of_ble_eq_true rfl) dX1_begin_24 ⟨Nat.le_of_ble_eq_true rfl, Nat.le_of_ble_eq_true rfl⟩) (fun r_26 hw_25 => ?_)
  have hw_25 : (0 ≤ r_26.toInt ∧ r_26.toInt ≤ 9999) ∨ r_26.toInt = (0 : Int) := hw_25
  have hI9 : tp_I cy L K Γ (va_up f_23 o (.inr (1, [.ref x_14, .int r_12, .int r_22, .int r_26, .long x_18]))) := hI.set ho (show tp_o_MAKER L K (0) 0 (Γ (25, 0, 0)) _ from ⟨x_14, r_12, r_22, r_26, x_18, rfl, hx_14⟩)
  have hfr9 : ∀ b, (K b).1 ∉ ([25] : List Nat) → va_up f_23 o (.inr (1, [.ref x_14, .int r_12, .int r_22, .int r_26, .long x_18])) b = f b := tp_fr hfr ho (by decide)
  refine tp_put (cy := cy) (ci := 1) (v := .int r_26) (ty := tyX1 3) (C := RX1) (T := TX1) (N := 5) hx hb hta inlX1 tyX1 tyX1_ok nmX1 hown hK hP hD hS ho.1 hf_24 rfl 3 (by decide) (hta _ wk_704) (fun _ h9 => h9) rfl (tyX1_ok 3 (by decide)) rfl rfl (Nat.le_of_ble_eq_true rfl) dX1_begin_27 (fun H locs hP hD hS => ?_)
  have hP : va_P D vwCl (va_pl L (va_up f_23 o (.inr (1, [.ref x_14, .int r_12, .int r_22, .int r_26, .long x_18])))) H := hP
  generalize hfe : va_up f_23 o (.inr (1, [.ref x_14, .int r_12, .int r_22, .int r_26, .long x_18])) = f_27 at hP hI9 hfr9
  have hD : va_D A (va_pl L f_27) := tp_D hL hAL
  have hf_28 : f_27 o = .inr (1, [.ref x_14, .int r_12, .int r_22, .int r_26, .long x_18]) := by rw [← hfe]; exact va_up_self _ _ _
  clear hfe
  have hI := hI9
  have hfr := hfr9
  clear hI9 hfr9
  refine lv_aload_n hx hb dX1_begin_30 rfl (lv_at hl 0 rfl) ?_
  refine lv_iload_n hx hb dX1_begin_31 rfl (lv_at hl 2 rfl) ?_
  refine lv_i2l (v := p0.toInt64) hx hb dX1_begin_32 (by first | rfl | decide) ?_
  have hI9 : tp_I cy L K Γ (va_up f_27 o (.inr (1, [.ref x_14, .int r_12, .int r_22, .int r_26, .long p0.toInt64]))) := hI.set ho (show tp_o_MAKER L K (0) 0 (Γ (25, 0, 0)) _ from ⟨x_14, r_12, r_22, r_26, p0.toInt64, rfl, hx_14⟩)
  have hfr9 : ∀ b, (K b).1 ∉ ([25] : List Nat) → va_up f_27 o (.inr (1, [.ref x_14, .int r_12, .int r_22, .int r_26, .long p0.toInt64])) b = f b := tp_fr hfr ho (by decide)
  refine tp_put (cy := cy) (ci := 1) (v := .long p0.toInt64) (ty := tyX1 4) (C := RX1) (T := TX1) (N := 5) hx hb hta inlX1 tyX1 tyX1_ok nmX1 hown hK hP hD hS ho.1 hf_28 rfl 4 (by decide) (hta _ wk_705) (fun _ h9 => h9) rfl (tyX1_ok 4 (by decide)) rfl rfl (Nat.le_of_ble_eq_true rfl) dX1_begin_33 (fun H locs hP hD hS => ?_)
  have hP : va_P D vwCl (va_pl L (va_up f_27 o (.inr (1, [.ref x_14, .int r_12, .int r_22, .int r_26, .long p0.toInt64])))) H := hP
  generalize hfe : va_up f_27 o (.inr (1, [.ref x_14, .int r_12, .int r_22, .int r_26, .long p0.toInt64])) = f_29 at hP hI9 hfr9
  have hD : va_D A (va_pl L f_29) := tp_D hL hAL
  have hf_30 : f_29 o = .inr (1, [.ref x_14, .int r_12, .int r_22, .int r_26, .long p0.toInt64]) := by rw [← hfe]; exact va_up_self _ _ _
  clear hfe
  have hI := hI9
  have hfr := hfr9
  clear hI9 hfr9
  exact W.vret hx hb hr (fun t ht hW => ⟨⟨f_29, rfl, trivial, by rw [ht]; exact hP, hI, hfr⟩, hS.F ht⟩) hS.2.2 dX1_begin_36
set_option maxHeartbeats 4000000 in
set_option maxRecDepth 100000 in
theorem t_X1_eatNothing (l : Launch) (D : va_G) (cy : Nat → ClassId) (sz : Nat) (L : List Nat) (K : Nat → tk_K) (Γ : tk_G) (f : Nat → va_E) (o : Nat) (ho : tp_r L K 25 (0) 0 o) : Met l yX1_eatNothing (tl_w yX1_eatNothing cX1_eatNothing 1 none) ({ frames := 1, cells := 0, slots := 0, locals := 23 }) (va_Pc [.ref o] (tp_P D cy L K Γ f sz)) (va_Qv (fun (u : Nat → va_E) => True) (tp_B D cy L K Γ f [26]) (tp_A L sz)) 0 0 (tp_A L sz) := by
  refine Met.ofW (cc := cX1_eatNothing) (maxL := 1) (ret := none) (by decide) rfl ?_
  intro p e s m args below meth c s₁ B hml hv
  obtain ⟨rfl, hsz, hP, hK, hL, hI, hN, hU⟩ := hv
  have hx := B.exec
  have hb := B.bytes
  have hr := B.returns
  have hta := tl_hta (atoms_spec (ws := tl_w yX1_eatNothing cX1_eatNothing 1 none) B.pre)
  have hown : s.vm.findClass RX1 = some m.cls := findClass_of_methodNamed B.named
  have hlocks := B.notSynchronized
  subst hsz
  have hI0 := hI
  generalize hAe : tp_A L s.heap.size = A
  have hA : ∀ q : Nat, s.heap.size ≤ q → A q := fun q h => by rw [← hAe]; exact Or.inr h
  have hAL : ∀ q ∈ L, A q := fun q h => by rw [← hAe]; exact Or.inl h
  have hAf : ∀ (H : Heap), s.heap.size ≤ H.size → ∀ q, tp_A L H.size q → A q := fun H h q hq => hq.elim (hAL q) (fun h2 => hA q (Nat.le_trans h h2))
  have hS : va_S A s.heap s.heap [] := va_S.rf
  have hD : va_D A (va_pl L f) := tp_D hL hAL
  have hfr : ∀ b, (K b).1 ∉ ([26] : List Nat) → f b = f b := fun _ _ => rfl
  have hl := lv_entry ([.ref o]) (n := 1) (Nat.le_of_ble_eq_true rfl)
  rw [lg_entry_eq]
  generalize (lg_sl ([.ref o]) ++ List.replicate (1 - (lg_sl ([.ref o])).length) Slot.unset).toArray = ls at hl ⊢
  have hl : lv_has ls 1 [(0, .ref o)] := hl
  refine lv_aload_n hx hb dX1_eatNothing_0 rfl (lv_at hl 0 rfl) ?_
  obtain ⟨x_2, x_3, x_4, x_5, x_6, hf_1, hx_2⟩ := (show tp_o_MAKER L K (0) 0 (Γ (25, 0, 0)) (f o) from hI0.at ho)
  refine tp_get (cy := cy) (ci := 1) (v := .ref x_2) (C := RX1) (T := TX1) (N := 5) hx hb hta inlX1 hown hK hP ho.1 hf_1 rfl 0 (by decide) (hta _ wk_126) (fun _ h9 => h9) rfl dX1_eatNothing_1 ?_
  refine lv_iconst (v := 0) hx hb dX1_eatNothing_4 (by decide) ?_
  refine tq_cv hS (hAf _ hS.1) (tq_rS (As := [.ref x_2, .int 0]) (rest := []) ⟨hx, hb, hml, hown, hta⟩ (tp_P.pre hK hN hL hU hI hP) lk_X1_38 (t_fill_EATEN l D cy s.heap.size L K Γ f x_2 0 hx_2) rfl rfl ⟨Nat.le_of_ble_eq_true rfl, Nat.le_of_ble_eq_true rfl⟩ rfl hl.1 rfl (Nat.le_of_ble_eq_true rfl) dX1_eatNothing_5 ⟨Nat.le_of_ble_eq_true rfl, Nat.le_of_ble_eq_true rfl⟩) (fun f_9 H locs hw_7 hP hI hc_10 hS => ?_)
  have hD : va_D A (va_pl L f_9) := tp_D hL hAL
  have hfr := tp_fr2 hfr hc_10 (by decide)
  exact W.vret hx hb hr (fun t ht hW => ⟨⟨f_9, rfl, trivial, by rw [ht]; exact hP, hI, hfr⟩, hS.F ht⟩) hS.2.2 dX1_eatNothing_8
set_option maxHeartbeats 4000000 in
set_option maxRecDepth 100000 in
theorem t_X1_eat (l : Launch) (D : va_G) (cy : Nat → ClassId) (sz : Nat) (L : List Nat) (K : Nat → tk_K) (Γ : tk_G) (f : Nat → va_E) (o : Nat) (q : Nat) (w : Nat) (z : Nat) (ho : tp_r L K 25 (0) 0 o) (hq : tp_r L K 18 (0) 0 q) (hz : tp_r L K 7 (60) w z) : Met l yX1_eat (tl_w yX1_eat cX1_eat 6 none) ({ frames := 2, cells := 0, slots := 0, locals := 43 }) (va_Pc [.ref o, .ref q, .ref z] (tp_P D cy L K Γ f sz)) (va_Qv (fun (u : Nat → va_E) => True) (tp_B D cy L K Γ f [26]) (tp_A L sz)) 0 0 (tp_A L sz) := by
  refine Met.ofW (cc := cX1_eat) (maxL := 6) (ret := none) (by decide) rfl ?_
  intro p e s m args below meth c s₁ B hml hv
  obtain ⟨rfl, hsz, hP, hK, hL, hI, hN, hU⟩ := hv
  have hx := B.exec
  have hb := B.bytes
  have hr := B.returns
  have hta := tl_hta (atoms_spec (ws := tl_w yX1_eat cX1_eat 6 none) B.pre)
  have hown : s.vm.findClass RX1 = some m.cls := findClass_of_methodNamed B.named
  have hlocks := B.notSynchronized
  subst hsz
  have hI0 := hI
  generalize hAe : tp_A L s.heap.size = A
  have hA : ∀ q : Nat, s.heap.size ≤ q → A q := fun q h => by rw [← hAe]; exact Or.inr h
  have hAL : ∀ q ∈ L, A q := fun q h => by rw [← hAe]; exact Or.inl h
  have hAf : ∀ (H : Heap), s.heap.size ≤ H.size → ∀ q, tp_A L H.size q → A q := fun H h q hq => hq.elim (hAL q) (fun h2 => hA q (Nat.le_trans h h2))
  have hS : va_S A s.heap s.heap [] := va_S.rf
  have hD : va_D A (va_pl L f) := tp_D hL hAL
  have hfr : ∀ b, (K b).1 ∉ ([26] : List Nat) → f b = f b := fun _ _ => rfl
  have hl := lv_entry ([.ref o, .ref q, .ref z]) (n := 6) (Nat.le_of_ble_eq_true rfl)
  rw [lg_entry_eq]
  generalize (lg_sl ([.ref o, .ref q, .ref z]) ++ List.replicate (6 - (lg_sl ([.ref o, .ref q, .ref z])).length) Slot.unset).toArray = ls at hl ⊢
  have hl : lv_has ls 6 [(0, .ref o), (1, .ref q), (2, .ref z)] := hl
  refine lv_aload_n hx hb dX1_eat_0 rfl (lv_at hl 0 rfl) ?_
  obtain ⟨x_2, x_3, x_4, x_5, x_6, hf_1, hx_2⟩ := (show tp_o_MAKER L K (0) 0 (Γ (25, 0, 0)) (f o) from hI0.at ho)
  refine tq_cv hS (hAf _ hS.1) (tq_rV (As := []) (rest := []) ⟨hx, hb, hml, hown, hta⟩ (tp_P.pre hK hN hL hU hI hP) (tp_recv hK hP ho.1 hf_1 rfl) lk_X1_44 (t_X1_eatNothing l D cy s.heap.size L K Γ f o ho) rfl rfl ⟨Nat.le_of_ble_eq_true rfl, Nat.le_of_ble_eq_true rfl⟩ rfl hl.1 rfl (Nat.le_of_ble_eq_true rfl) dX1_eat_1 ⟨Nat.le_of_ble_eq_true rfl, Nat.le_of_ble_eq_true rfl⟩) (fun f_9 H locs hw_7 hP hI hc_10 hS => ?_)
  have hD : va_D A (va_pl L f_9) := tp_D hL hAL
  have hfr := tp_fr2 hfr hc_10 (by decide)
  refine lv_iconst (v := 0) hx hb dX1_eat_4 (by decide) ?_
  refine lv_istore_n (lv' := [(3, .int 0), (0, .ref o), (1, .ref q), (2, .ref z)]) hx hb dX1_eat_5 rfl hl (by decide) rfl (fun ls hl => ?_)
  refine tl_ind (G := fun H locs ls => W p l e ((headSpec (tl_w yX1_eat cX1_eat 6 none) ({ frames := 2, cells := 0, slots := 0, locals := 43 })).room) s m #[.ref o, .ref q, .ref z] below meth c H locs 0 0 (MQ below (va_Qv (fun (u : Nat → va_E) => True) (tp_B D cy L K Γ f [26]) A) #[.ref o, .ref q, .ref z] s 0 0 A) (F0 m 6 ls [])) (α := (Nat → va_E) × Int32) (fun aq => (12 - aq.2.toInt).toNat) (fun aq H locs ls => (0 ≤ aq.2.toInt) ∧ (aq.2.toInt ≤ 12) ∧ va_P D vwCl (va_pl L aq.1) H ∧ tp_I cy L K Γ aq.1 ∧ (∀ b, (K b).1 ∉ ([26] : List Nat) → aq.1 b = f b) ∧ va_S A s.heap H locs ∧ lv_has ls 6 [(3, .int aq.2), (0, .ref o), (1, .ref q), (2, .ref z)]) ?_ (f_9, (0 : Int32)) H locs ls ⟨(show 0 ≤ (0 : Int) from (by omega)), (show (0 : Int) ≤ 12 from (by omega)), hP, hI, hfr, hS, lv_sub hl [0, 1, 2, 3] rfl⟩
  rintro ⟨f_11, v3⟩ H locs ls ⟨h0, h1, hP, hI, hfr, hS, hl⟩ ih6
  have hP : va_P D vwCl (va_pl L f_11) H := hP
  have hI : tp_I cy L K Γ f_11 := hI
  have hfr : ∀ b, (K b).1 ∉ ([26] : List Nat) → f_11 b = f b := hfr
  have hD : va_D A (va_pl L f_11) := tp_D hL hAL
  have h0 : 0 ≤ v3.toInt := h0
  have h1 : v3.toInt ≤ 12 := h1
  have hl : lv_has ls 6 [(3, .int v3), (0, .ref o), (1, .ref q), (2, .ref z)] := hl
  refine lv_iload_n hx hb dX1_eat_6 rfl (lv_at hl 0 rfl) ?_
  refine lv_aload_n hx hb dX1_eat_7 rfl (lv_at hl 2 rfl) ?_
  obtain ⟨x_13, x_14, x_15, x_16, x_17, x_18, x_19, x_20, x_21, hf_12, hx_13, hx_14, hx_15, hx_16, hx_17, hx_18, hx_19, hx_20, hx_21⟩ := (show tp_o_TEXT L K (0) 0 (Γ (18, 0, 0)) (f q) from hI0.at hq)
  refine tp_getN (cy := cy) (ci := 7) (v := .int x_13) (C := RX7) (T := TX7) (N := 9) hx hb hta inlX7 hown hK hP hq.1 ((tp_un hfr hq (by decide)).trans hf_12) rfl 0 (by decide) (va_Nw.use rfl (hN.1 37 _ nk_37)) (fun _ h9 => h9) rfl dX1_eat_8 ?_
  refine lv_icmp_ge (tgt := 115) hx hb dX1_eat_11 (by decide) (fun c_22 => ?_) (fun c_22 => ?_)
  · have c_22 : x_13.toInt ≤ v3.toInt := tl_le c_22
    exact W.vret hx hb hr (fun t ht hW => ⟨⟨f_11, rfl, trivial, by rw [ht]; exact hP, hI, hfr⟩, hS.F ht⟩) hS.2.2 dX1_eat_115
  · have c_22 : v3.toInt < x_13.toInt := tl_nle c_22
    refine lv_iload_n hx hb dX1_eat_14 rfl (lv_at hl 0 rfl) ?_
    refine lv_bipush (v := 12) hx hb dX1_eat_15 (by decide) ?_
    refine lv_icmp_ge (tgt := 115) hx hb dX1_eat_17 (by decide) (fun c_23 => ?_) (fun c_23 => ?_)
    · have c_23 : (12 : Int) ≤ v3.toInt := tl_le c_23
      exact W.vret hx hb hr (fun t ht hW => ⟨⟨f_11, rfl, trivial, by rw [ht]; exact hP, hI, hfr⟩, hS.F ht⟩) hS.2.2 dX1_eat_115
    · have c_23 : v3.toInt < (12 : Int) := tl_nle c_23
      refine lv_iconst (v := 0) hx hb dX1_eat_20 (by decide) ?_
      refine lv_istore (lv' := [(4, .int 0), (3, .int v3), (0, .ref o), (1, .ref q), (2, .ref z)]) hx hb dX1_eat_21 hl (by decide) rfl (fun ls hl => ?_)
      refine tl_ind (G := fun H locs ls => W p l e ((headSpec (tl_w yX1_eat cX1_eat 6 none) ({ frames := 2, cells := 0, slots := 0, locals := 43 })).room) s m #[.ref o, .ref q, .ref z] below meth c H locs 0 0 (MQ below (va_Qv (fun (u : Nat → va_E) => True) (tp_B D cy L K Γ f [26]) A) #[.ref o, .ref q, .ref z] s 0 0 A) (F0 m 23 ls [])) (α := (Nat → va_E) × Int32) (fun aq => (60 - aq.2.toInt).toNat) (fun aq H locs ls => (0 ≤ aq.2.toInt) ∧ (aq.2.toInt ≤ 60) ∧ va_P D vwCl (va_pl L aq.1) H ∧ tp_I cy L K Γ aq.1 ∧ (∀ b, (K b).1 ∉ ([26] : List Nat) → aq.1 b = f b) ∧ va_S A s.heap H locs ∧ lv_has ls 6 [(4, .int aq.2), (3, .int v3), (0, .ref o), (1, .ref q), (2, .ref z)]) ?_ (f_11, (0 : Int32)) H locs ls ⟨(show 0 ≤ (0 : Int) from (by omega)), (show (0 : Int) ≤ 60 from (by omega)), hP, hI, hfr, hS, lv_sub hl [0, 1, 2, 3, 4] rfl⟩
      rintro ⟨f_24, v4⟩ H locs ls ⟨h0, h1, hP, hI, hfr, hS, hl⟩ ih23
      have hP : va_P D vwCl (va_pl L f_24) H := hP
      have hI : tp_I cy L K Γ f_24 := hI
      have hfr : ∀ b, (K b).1 ∉ ([26] : List Nat) → f_24 b = f b := hfr
      have hD : va_D A (va_pl L f_24) := tp_D hL hAL
      have h0 : 0 ≤ v4.toInt := h0
      have h1 : v4.toInt ≤ 60 := h1
      have hl : lv_has ls 6 [(4, .int v4), (3, .int v3), (0, .ref o), (1, .ref q), (2, .ref z)] := hl
      refine lv_aload_n hx hb dX1_eat_23 rfl (lv_at hl 3 rfl) ?_
      refine tp_getN (cy := cy) (ci := 7) (v := .ref x_14) (C := RX7) (T := TX7) (N := 9) hx hb hta inlX7 hown hK hP hq.1 ((tp_un hfr hq (by decide)).trans hf_12) rfl 1 (by decide) (va_Nw.use rfl (hN.1 41 _ nk_41)) (fun _ h9 => h9) rfl dX1_eat_24 ?_
      refine lv_iload_n hx hb dX1_eat_27 rfl (lv_at hl 1 rfl) ?_
      obtain ⟨g_26, hf_25, hg_27⟩ := (show tp_ai cy 20 (12) (f x_14) from hI0.at hx_14)
      have hn_28 : vp_in v3 (12) := tl_in (by omega) (by omega)
      refine tp_iald (cy := cy) hx hb hK hP hx_14.1 ((tp_un hfr hx_14 (by decide)).trans hf_25) hn_28 dX1_eat_28 ?_
      refine lv_topi (fun z_29 ez_29 => ?_)
      refine lv_iconst (v := 3) hx hb dX1_eat_29 (by decide) ?_
      refine lv_icmp_ne (tgt := 109) hx hb dX1_eat_30 (by decide) (fun c_30 => ?_) (fun c_30 => ?_)
      · have c_30 : ¬ z_29.toInt = (3 : Int) := tl_neq c_30
        obtain ⟨z_31, ez_31⟩ : ∃ y : Int32, y = v3 + 1 := ⟨_, rfl⟩
        refine lv_iinc (v := z_31) (lv' := [(3, .int z_31), (4, .int v4), (0, .ref o), (1, .ref q), (2, .ref z)]) hx hb dX1_eat_109 hl (k := 1) rfl (by rw [ez_31]; rfl) (by decide) rfl (fun ls hl => ?_)
        try have iz_31 : z_31.toInt = v3.toInt + 1 := by rw [ez_31]; exact tl_addL v3 1 (by decide) (by omega) (by omega)
        refine lv_goto (tgt := 6) hx hb dX1_eat_112 (by decide) ?_
        exact ih6 (f_24, z_31) H locs ls (by show (12 - z_31.toInt).toNat < (12 - v3.toInt).toNat; omega) ⟨(show 0 ≤ z_31.toInt from (by omega)), (show z_31.toInt ≤ 12 from (by omega)), hP, hI, hfr, hS, lv_sub hl [0, 2, 3, 4] rfl⟩
      · have c_30 : z_29.toInt = (3 : Int) := tl_eq c_30
        refine lv_iload hx hb dX1_eat_33 (lv_at hl 0 rfl) ?_
        refine lv_aload_n hx hb dX1_eat_35 rfl (lv_at hl 4 rfl) ?_
        obtain ⟨x_33, x_34, x_35, hf_32, hx_33, hx_34, hx_35⟩ := (show tp_o_TABLE L K (60) w (Γ (7, 60, w)) (f z) from hI0.at hz)
        refine tp_getN (cy := cy) (ci := 6) (v := .int x_35) (C := RX6) (T := TX6) (N := 3) hx hb hta inlX6 hown hK hP hz.1 ((tp_un hfr hz (by decide)).trans hf_32) rfl 2 (by decide) (va_Nw.use rfl (hN.1 13 _ nk_13)) (fun _ h9 => h9) rfl dX1_eat_36 ?_
        refine lv_icmp_ge (tgt := 109) hx hb dX1_eat_39 (by decide) (fun c_36 => ?_) (fun c_36 => ?_)
        · have c_36 : x_35.toInt ≤ v4.toInt := tl_le c_36
          obtain ⟨z_37, ez_37⟩ : ∃ y : Int32, y = v3 + 1 := ⟨_, rfl⟩
          refine lv_iinc (v := z_37) (lv' := [(3, .int z_37), (4, .int v4), (0, .ref o), (1, .ref q), (2, .ref z)]) hx hb dX1_eat_109 hl (k := 1) rfl (by rw [ez_37]; rfl) (by decide) rfl (fun ls hl => ?_)
          try have iz_37 : z_37.toInt = v3.toInt + 1 := by rw [ez_37]; exact tl_addL v3 1 (by decide) (by omega) (by omega)
          refine lv_goto (tgt := 6) hx hb dX1_eat_112 (by decide) ?_
          exact ih6 (f_24, z_37) H locs ls (by show (12 - z_37.toInt).toNat < (12 - v3.toInt).toNat; omega) ⟨(show 0 ≤ z_37.toInt from (by omega)), (show z_37.toInt ≤ 12 from (by omega)), hP, hI, hfr, hS, lv_sub hl [0, 2, 3, 4] rfl⟩
        · have c_36 : v4.toInt < x_35.toInt := tl_nle c_36
          refine lv_aload_n hx hb dX1_eat_42 rfl (lv_at hl 4 rfl) ?_
          refine lv_iload hx hb dX1_eat_43 (lv_at hl 0 rfl) ?_
          refine lv_iconst (v := 1) hx hb dX1_eat_45 (by decide) ?_
          refine tl_si (tq_rVN hN (As := [.int v4, .int 1]) (rest := []) ⟨hx, hb, hml, hown, hta⟩ (tp_P.pre hK hN hL hU hI hP) (tp_recv hK hP hz.1 ((tp_un hfr hz (by decide)).trans hf_32) rfl) lk_X1_60 (t_X6_cell l D cy H.size L K Γ f_24 60 w z v4 1 hz (by first | omega | (simp only [Int32.toInt_toInt64]; omega) | decide | assumption)) rfl rfl ⟨Nat.le_of_ble_eq_true rfl, Nat.le_of_ble_eq_true rfl⟩ rfl hl.1 rfl (Nat.le_of_ble_eq_true rfl) dX1_eat_46 ⟨Nat.le_of_ble_eq_true rfl, Nat.le_of_ble_eq_true rfl⟩) (fun r_39 hw_38 => ?_)
          refine lv_istore (lv' := [(5, .int r_39), (4, .int v4), (3, .int v3), (0, .ref o), (1, .ref q), (2, .ref z)]) hx hb dX1_eat_49 hl (by decide) rfl (fun ls hl => ?_)
          refine lv_aload_n hx hb dX1_eat_51 rfl (lv_at hl 5 rfl) ?_
          refine lv_iload hx hb dX1_eat_52 (lv_at hl 1 rfl) ?_
          refine lv_iconst (v := 0) hx hb dX1_eat_54 (by decide) ?_
          refine tl_si (tq_rVN hN (As := [.int v4, .int 0]) (rest := []) ⟨hx, hb, hml, hown, hta⟩ (tp_P.pre hK hN hL hU hI hP) (tp_recv hK hP hz.1 ((tp_un hfr hz (by decide)).trans hf_32) rfl) lk_X1_60 (t_X6_cell l D cy H.size L K Γ f_24 60 w z v4 0 hz (by first | omega | (simp only [Int32.toInt_toInt64]; omega) | decide | assumption)) rfl rfl ⟨Nat.le_of_ble_eq_true rfl, Nat.le_of_ble_eq_true rfl⟩ rfl hl.1 rfl (Nat.le_of_ble_eq_true rfl) dX1_eat_55 ⟨Nat.le_of_ble_eq_true rfl, Nat.le_of_ble_eq_true rfl⟩) (fun r_41 hw_40 => ?_)
          refine lv_aload_n hx hb dX1_eat_58 rfl (lv_at hl 4 rfl) ?_
          refine tp_getN (cy := cy) (ci := 7) (v := .ref x_15) (C := RX7) (T := TX7) (N := 9) hx hb hta inlX7 hown hK hP hq.1 ((tp_un hfr hq (by decide)).trans hf_12) rfl 2 (by decide) (va_Nw.use rfl (hN.1 43 _ nk_43)) (fun _ h9 => h9) rfl dX1_eat_59 ?_
          refine lv_iload_n hx hb dX1_eat_62 rfl (lv_at hl 2 rfl) ?_
          obtain ⟨g_43, hf_42, hg_44⟩ := (show tp_ai cy 19 (12) (f x_15) from hI0.at hx_15)
          have hn_45 : vp_in v3 (12) := tl_in (by omega) (by omega)
          refine tp_iald (cy := cy) hx hb hK hP hx_15.1 ((tp_un hfr hx_15 (by decide)).trans hf_42) hn_45 dX1_eat_63 ?_
          refine lv_topi (fun z_46 ez_46 => ?_)
          have iz_46 : 0 ≤ z_46.toInt ∧ z_46.toInt ≤ 9999 := by rw [ez_46]; exact hg_44 _ (tp_pin hn_45)
          refine lv_icmp_ne (tgt := 103) hx hb dX1_eat_64 (by decide) (fun c_47 => ?_) (fun c_47 => ?_)
          · have c_47 : ¬ r_41.toInt = z_46.toInt := tl_neq c_47
            obtain ⟨z_48, ez_48⟩ : ∃ y : Int32, y = v4 + 1 := ⟨_, rfl⟩
            refine lv_iinc (v := z_48) (lv' := [(4, .int z_48), (5, .int r_39), (3, .int v3), (0, .ref o), (1, .ref q), (2, .ref z)]) hx hb dX1_eat_103 hl (k := 1) rfl (by rw [ez_48]; rfl) (by decide) rfl (fun ls hl => ?_)
            try have iz_48 : z_48.toInt = v4.toInt + 1 := by rw [ez_48]; exact tl_addL v4 1 (by decide) (by omega) (by omega)
            refine lv_goto (tgt := 23) hx hb dX1_eat_106 (by decide) ?_
            exact ih23 (f_24, z_48) H locs ls (by show (60 - z_48.toInt).toNat < (60 - v4.toInt).toNat; omega) ⟨(show 0 ≤ z_48.toInt from (by omega)), (show z_48.toInt ≤ 60 from (by omega)), hP, hI, hfr, hS, lv_sub hl [0, 2, 3, 4, 5] rfl⟩
          · have c_47 : r_41.toInt = z_46.toInt := tl_eq c_47
            refine lv_iload hx hb dX1_eat_67 (lv_at hl 0 rfl) ?_
            refine tl_si (tq_rSN hN (As := [.int r_39]) (rest := []) ⟨hx, hb, hml, hown, hta⟩ (tp_P.pre hK hN hL hU hI hP) lk_X1_66 (t_X11_isColour l D cy H.size L K Γ f_24 r_39 ) rfl rfl ⟨Nat.le_of_ble_eq_true rfl, Nat.le_of_ble_eq_true rfl⟩ rfl hl.1 rfl (Nat.le_of_ble_eq_true rfl) dX1_eat_69 ⟨Nat.le_of_ble_eq_true rfl, Nat.le_of_ble_eq_true rfl⟩) (fun r_50 hw_49 => ?_)
            have hw_49 : tl_E r_50 (0 ≤ r_39.toInt ∧ r_39.toInt ≤ 299) 1 0 := hw_49
            refine lv_if_eq (tgt := 103) hx hb dX1_eat_72 (by decide) (fun c_51 => ?_) (fun c_51 => ?_)
            · have c_51 := hw_49.f c_51
              obtain ⟨z_52, ez_52⟩ : ∃ y : Int32, y = v4 + 1 := ⟨_, rfl⟩
              refine lv_iinc (v := z_52) (lv' := [(4, .int z_52), (5, .int r_39), (3, .int v3), (0, .ref o), (1, .ref q), (2, .ref z)]) hx hb dX1_eat_103 hl (k := 1) rfl (by rw [ez_52]; rfl) (by decide) rfl (fun ls hl => ?_)
              try have iz_52 : z_52.toInt = v4.toInt + 1 := by rw [ez_52]; exact tl_addL v4 1 (by decide) (by omega) (by omega)
              refine lv_goto (tgt := 23) hx hb dX1_eat_106 (by decide) ?_
              exact ih23 (f_24, z_52) H locs ls (by show (60 - z_52.toInt).toNat < (60 - v4.toInt).toNat; omega) ⟨(show 0 ≤ z_52.toInt from (by omega)), (show z_52.toInt ≤ 60 from (by omega)), hP, hI, hfr, hS, lv_sub hl [0, 2, 3, 4, 5] rfl⟩
            · have c_51 := hw_49.t c_51
              refine lv_aload_n hx hb dX1_eat_75 rfl (lv_at hl 3 rfl) ?_
              refine tp_get (cy := cy) (ci := 1) (v := .ref x_2) (C := RX1) (T := TX1) (N := 5) hx hb hta inlX1 hown hK hP ho.1 ((tp_un hfr ho (by decide)).trans hf_1) rfl 0 (by decide) (hta _ wk_126) (fun _ h9 => h9) rfl dX1_eat_76 ?_
              refine lv_iload hx hb dX1_eat_79 (lv_at hl 0 rfl) ?_
              refine lv_dup2_11 hx hb dX1_eat_81 rfl rfl ?_
              obtain ⟨g_54, hf_53, hg_55⟩ := (show tp_ai cy 26 (300) (f_24 x_2) from hI.at hx_2)
              have hn_56 : vp_in r_39 (300) := tl_in (by omega) (by omega)
              refine tp_iald (cy := cy) hx hb hK hP hx_2.1 hf_53 hn_56 dX1_eat_82 ?_
              refine lv_topi (fun z_57 ez_57 => ?_)
              refine lv_aload_n hx hb dX1_eat_83 rfl (lv_at hl 4 rfl) ?_
              refine tp_getN (cy := cy) (ci := 7) (v := .ref x_16) (C := RX7) (T := TX7) (N := 9) hx hb hta inlX7 hown hK hP hq.1 ((tp_un hfr hq (by decide)).trans hf_12) rfl 3 (by decide) (va_Nw.use rfl (hN.1 45 _ nk_45)) (fun _ h9 => h9) rfl dX1_eat_84 ?_
              refine lv_iload_n hx hb dX1_eat_87 rfl (lv_at hl 2 rfl) ?_
              obtain ⟨g_59, hf_58, hg_60⟩ := (show tp_ai cy 19 (12) (f x_16) from hI0.at hx_16)
              have hn_61 : vp_in v3 (12) := tl_in (by omega) (by omega)
              refine tp_iald (cy := cy) hx hb hK hP hx_16.1 ((tp_un hfr hx_16 (by decide)).trans hf_58) hn_61 dX1_eat_88 ?_
              refine lv_topi (fun z_62 ez_62 => ?_)
              have iz_62 : 0 ≤ z_62.toInt ∧ z_62.toInt ≤ 9999 := by rw [ez_62]; exact hg_60 _ (tp_pin hn_61)
              refine lv_aload_n hx hb dX1_eat_89 rfl (lv_at hl 5 rfl) ?_
              refine lv_iload hx hb dX1_eat_90 (lv_at hl 1 rfl) ?_
              refine lv_iconst (v := 2) hx hb dX1_eat_92 (by decide) ?_
              refine tl_si (tq_rVN hN (As := [.int v4, .int 2]) (rest := [.int z_62, .int z_57, .int r_39, .ref x_2]) ⟨hx, hb, hml, hown, hta⟩ (tp_P.pre hK hN hL hU hI hP) (tp_recv hK hP hz.1 ((tp_un hfr hz (by decide)).trans hf_32) rfl) lk_X1_60 (t_X6_cell l D cy H.size L K Γ f_24 60 w z v4 2 hz (by first | omega | (simp only [Int32.toInt_toInt64]; omega) | decide | assumption)) rfl rfl ⟨Nat.le_of_ble_eq_true rfl, Nat.le_of_ble_eq_true rfl⟩ rfl hl.1 rfl (Nat.le_of_ble_eq_true rfl) dX1_eat_93 ⟨Nat.le_of_ble_eq_true rfl, Nat.le_of_ble_eq_true rfl⟩) (fun r_64 hw_63 => ?_)
              refine lv_imul hx hb dX1_eat_96 ?_
              refine lv_topi (fun z_65 ez_65 => ?_)
              try have iz_65 : z_65.toInt = z_62.toInt * r_64.toInt := by rw [ez_65]; exact tl_mulN z_62 r_64 rfl rfl (by omega) (by omega)
              refine lv_sipush (v := 1000) hx hb dX1_eat_97 (by decide) ?_
              refine lv_idiv hx hb dX1_eat_100 (by decide) ?_
              refine lv_topi (fun z_66 ez_66 => ?_)
              refine lv_iadd hx hb dX1_eat_101 ?_
              refine lv_topi (fun z_67 ez_67 => ?_)
              try have iz_67 : z_67.toInt = z_57.toInt + z_66.toInt := by rw [ez_67]; exact tl_addN z_57 z_66 rfl rfl (by omega) (by omega)
              have hn_68 : vp_in r_39 (300) := tl_in (by omega) (by omega)
              have hI9 : tp_I cy L K Γ (va_up f_24 x_2 (.inl (cy 0, 300, .inl (upd g_54 r_39.toNatClampNeg z_67)))) := hI.set hx_2 (show tp_ai cy 26 (300) _ from ⟨_, rfl, tp_pi_upd hg_55 trivial⟩)
              have hfr9 : ∀ b, (K b).1 ∉ ([26] : List Nat) → va_up f_24 x_2 (.inl (cy 0, 300, .inl (upd g_54 r_39.toNatClampNeg z_67))) b = f b := tp_fr hfr hx_2 (by decide)
              refine tp_iast (cy := cy) hx hb hK hP hD hS hx_2.1 hf_53 hn_68 dX1_eat_102 (fun H locs hP hD hS => ?_)
              have hP : va_P D vwCl (va_pl L (va_up f_24 x_2 (.inl (cy 0, 300, .inl (upd g_54 r_39.toNatClampNeg z_67))))) H := hP
              generalize hfe : va_up f_24 x_2 (.inl (cy 0, 300, .inl (upd g_54 r_39.toNatClampNeg z_67))) = f_69 at hP hI9 hfr9
              have hD : va_D A (va_pl L f_69) := tp_D hL hAL
              have hf_70 : f_69 x_2 = .inl (cy 0, 300, .inl (upd g_54 r_39.toNatClampNeg z_67)) := by rw [← hfe]; exact va_up_self _ _ _
              clear hfe
              have hI := hI9
              have hfr := hfr9
              clear hI9 hfr9
              obtain ⟨z_71, ez_71⟩ : ∃ y : Int32, y = v4 + 1 := ⟨_, rfl⟩
              refine lv_iinc (v := z_71) (lv' := [(4, .int z_71), (5, .int r_39), (3, .int v3), (0, .ref o), (1, .ref q), (2, .ref z)]) hx hb dX1_eat_103 hl (k := 1) rfl (by rw [ez_71]; rfl) (by decide) rfl (fun ls hl => ?_)
              try have iz_71 : z_71.toInt = v4.toInt + 1 := by rw [ez_71]; exact tl_addL v4 1 (by decide) (by omega) (by omega)
              refine lv_goto (tgt := 23) hx hb dX1_eat_106 (by decide) ?_
              exact ih23 (f_69, z_71) H locs ls (by show (60 - z_71.toInt).toNat < (60 - v4.toInt).toNat; omega) ⟨(show 0 ≤ z_71.toInt from (by omega)), (show z_71.toInt ≤ 60 from (by omega)), hP, hI, hfr, hS, lv_sub hl [0, 2, 3, 4, 5] rfl⟩
set_option maxHeartbeats 4000000 in
set_option maxRecDepth 100000 in
theorem t_X1_shineOf (l : Launch) (D : va_G) (cy : Nat → ClassId) (sz : Nat) (L : List Nat) (K : Nat → tk_K) (Γ : tk_G) (f : Nat → va_E) (q : Nat) (z : Nat) (hq : tp_r L K 18 (0) 0 q) (hz : tp_r L K 22 (0) 0 z) : Met l yX1_shineOf (tl_w yX1_shineOf cX1_shineOf 3 (some .long)) ({ frames := 3, cells := 0, slots := 0, locals := 75 }) (va_Pc [.ref q, .ref z] (tp_P D cy L K Γ f sz)) (va_Ql (fun (r : Int64) (u : Nat → va_E) => True) (tp_B D cy L K Γ f [24]) (tp_A L sz)) 0 0 (tp_A L sz) := by
  refine Met.ofW (cc := cX1_shineOf) (maxL := 3) (ret := (some .long)) (by decide) rfl ?_
  intro p e s m args below meth c s₁ B hml hv
  obtain ⟨rfl, hsz, hP, hK, hL, hI, hN, hU⟩ := hv
  have hx := B.exec
  have hb := B.bytes
  have hr := B.returns
  have hta := tl_hta (atoms_spec (ws := tl_w yX1_shineOf cX1_shineOf 3 (some .long)) B.pre)
  have hown : s.vm.findClass RX1 = some m.cls := findClass_of_methodNamed B.named
  have hlocks := B.notSynchronized
  subst hsz
  have hI0 := hI
  generalize hAe : tp_A L s.heap.size = A
  have hA : ∀ q : Nat, s.heap.size ≤ q → A q := fun q h => by rw [← hAe]; exact Or.inr h
  have hAL : ∀ q ∈ L, A q := fun q h => by rw [← hAe]; exact Or.inl h
  have hAf : ∀ (H : Heap), s.heap.size ≤ H.size → ∀ q, tp_A L H.size q → A q := fun H h q hq => hq.elim (hAL q) (fun h2 => hA q (Nat.le_trans h h2))
  have hS : va_S A s.heap s.heap [] := va_S.rf
  have hD : va_D A (va_pl L f) := tp_D hL hAL
  have hfr : ∀ b, (K b).1 ∉ ([24] : List Nat) → f b = f b := fun _ _ => rfl
  have hl := lv_entry ([.ref q, .ref z]) (n := 3) (Nat.le_of_ble_eq_true rfl)
  rw [lg_entry_eq]
  generalize (lg_sl ([.ref q, .ref z]) ++ List.replicate (3 - (lg_sl ([.ref q, .ref z])).length) Slot.unset).toArray = ls at hl ⊢
  have hl : lv_has ls 3 [(0, .ref q), (1, .ref z)] := hl
  refine lv_iconst (v := 0) hx hb dX1_shineOf_0 (by decide) ?_
  refine lv_istore_n (lv' := [(2, .int 0), (0, .ref q), (1, .ref z)]) hx hb dX1_shineOf_1 rfl hl (by decide) rfl (fun ls hl => ?_)
  refine tq_start hP hS (fun H locs hP hS => ?_)
  refine tl_ind (G := fun H locs ls => W p l e ((headSpec (tl_w yX1_shineOf cX1_shineOf 3 (some .long)) ({ frames := 3, cells := 0, slots := 0, locals := 75 })).room) s m #[.ref q, .ref z] below meth c H locs 0 0 (MQ below (va_Ql (fun (r : Int64) (u : Nat → va_E) => True) (tp_B D cy L K Γ f [24]) A) #[.ref q, .ref z] s 0 0 A) (F0 m 2 ls [])) (α := (Nat → va_E) × Int32) (fun aq => (12 - aq.2.toInt).toNat) (fun aq H locs ls => (0 ≤ aq.2.toInt) ∧ (aq.2.toInt ≤ 12) ∧ va_P D vwCl (va_pl L aq.1) H ∧ tp_I cy L K Γ aq.1 ∧ (∀ b, (K b).1 ∉ ([24] : List Nat) → aq.1 b = f b) ∧ va_S A s.heap H locs ∧ lv_has ls 3 [(2, .int aq.2), (0, .ref q), (1, .ref z)]) ?_ (f, (0 : Int32)) H locs ls ⟨(show 0 ≤ (0 : Int) from (by omega)), (show (0 : Int) ≤ 12 from (by omega)), hP, hI, hfr, hS, lv_sub hl [0, 1, 2] rfl⟩
  rintro ⟨f_1, v2⟩ H locs ls ⟨h0, h1, hP, hI, hfr, hS, hl⟩ ih2
  have hP : va_P D vwCl (va_pl L f_1) H := hP
  have hI : tp_I cy L K Γ f_1 := hI
  have hfr : ∀ b, (K b).1 ∉ ([24] : List Nat) → f_1 b = f b := hfr
  have hD : va_D A (va_pl L f_1) := tp_D hL hAL
  have h0 : 0 ≤ v2.toInt := h0
  have h1 : v2.toInt ≤ 12 := h1
  have hl : lv_has ls 3 [(2, .int v2), (0, .ref q), (1, .ref z)] := hl
  refine lv_iload_n hx hb dX1_shineOf_2 rfl (lv_at hl 0 rfl) ?_
  refine lv_aload_n hx hb dX1_shineOf_3 rfl (lv_at hl 1 rfl) ?_
  obtain ⟨x_3, x_4, x_5, x_6, x_7, x_8, x_9, x_10, x_11, hf_2, hx_3, hx_4, hx_5, hx_6, hx_7, hx_8, hx_9, hx_10, hx_11⟩ := (show tp_o_TEXT L K (0) 0 (Γ (18, 0, 0)) (f q) from hI0.at hq)
  refine tp_getN (cy := cy) (ci := 7) (v := .int x_3) (C := RX7) (T := TX7) (N := 9) hx hb hta inlX7 hown hK hP hq.1 ((tp_un hfr hq (by decide)).trans hf_2) rfl 0 (by decide) (va_Nw.use rfl (hN.1 37 _ nk_37)) (fun _ h9 => h9) rfl dX1_shineOf_4 ?_
  refine lv_icmp_ge (tgt := 47) hx hb dX1_shineOf_7 (by decide) (fun c_12 => ?_) (fun c_12 => ?_)
  · have c_12 : x_3.toInt ≤ v2.toInt := tl_le c_12
    refine lv_lconst (v := 0) hx hb dX1_shineOf_47 (by decide) ?_
    exact W.lret (v := 0) hx hb hr (fun t ht hW => ⟨⟨_, f_1, rfl, trivial, by rw [ht]; exact hP, hI, hfr⟩, hS.F ht⟩) hS.2.2 dX1_shineOf_48
  · have c_12 : v2.toInt < x_3.toInt := tl_nle c_12
    refine lv_iload_n hx hb dX1_shineOf_10 rfl (lv_at hl 0 rfl) ?_
    refine lv_bipush (v := 12) hx hb dX1_shineOf_11 (by decide) ?_
    refine lv_icmp_ge (tgt := 47) hx hb dX1_shineOf_13 (by decide) (fun c_13 => ?_) (fun c_13 => ?_)
    · have c_13 : (12 : Int) ≤ v2.toInt := tl_le c_13
      refine lv_lconst (v := 0) hx hb dX1_shineOf_47 (by decide) ?_
      exact W.lret (v := 0) hx hb hr (fun t ht hW => ⟨⟨_, f_1, rfl, trivial, by rw [ht]; exact hP, hI, hfr⟩, hS.F ht⟩) hS.2.2 dX1_shineOf_48
    · have c_13 : v2.toInt < (12 : Int) := tl_nle c_13
      refine lv_aload_n hx hb dX1_shineOf_16 rfl (lv_at hl 1 rfl) ?_
      refine tp_getN (cy := cy) (ci := 7) (v := .ref x_4) (C := RX7) (T := TX7) (N := 9) hx hb hta inlX7 hown hK hP hq.1 ((tp_un hfr hq (by decide)).trans hf_2) rfl 1 (by decide) (va_Nw.use rfl (hN.1 41 _ nk_41)) (fun _ h9 => h9) rfl dX1_shineOf_17 ?_
      refine lv_iload_n hx hb dX1_shineOf_20 rfl (lv_at hl 0 rfl) ?_
      obtain ⟨g_15, hf_14, hg_16⟩ := (show tp_ai cy 20 (12) (f x_4) from hI0.at hx_4)
      have hn_17 : vp_in v2 (12) := tl_in (by omega) (by omega)
      refine tp_iald (cy := cy) hx hb hK hP hx_4.1 ((tp_un hfr hx_4 (by decide)).trans hf_14) hn_17 dX1_shineOf_21 ?_
      refine lv_topi (fun z_18 ez_18 => ?_)
      refine lv_if_ne (tgt := 41) hx hb dX1_shineOf_22 (by decide) (fun c_19 => ?_) (fun c_19 => ?_)
      · have c_19 : ¬ z_18.toInt = (0 : Int) := tl_neq c_19
        obtain ⟨z_20, ez_20⟩ : ∃ y : Int32, y = v2 + 1 := ⟨_, rfl⟩
        refine lv_iinc (v := z_20) (lv' := [(2, .int z_20), (0, .ref q), (1, .ref z)]) hx hb dX1_shineOf_41 hl (k := 0) rfl (by rw [ez_20]; rfl) (by decide) rfl (fun ls hl => ?_)
        try have iz_20 : z_20.toInt = v2.toInt + 1 := by rw [ez_20]; exact tl_addL v2 1 (by decide) (by omega) (by omega)
        refine lv_goto (tgt := 2) hx hb dX1_shineOf_44 (by decide) ?_
        exact ih2 (f_1, z_20) H locs ls (by show (12 - z_20.toInt).toNat < (12 - v2.toInt).toNat; omega) ⟨(show 0 ≤ z_20.toInt from (by omega)), (show z_20.toInt ≤ 12 from (by omega)), hP, hI, hfr, hS, lv_sub hl [0, 1, 2] rfl⟩
      · have c_19 : z_18.toInt = (0 : Int) := tl_eq c_19
        refine lv_aload_n hx hb dX1_shineOf_25 rfl (lv_at hl 2 rfl) ?_
        refine lv_aload_n hx hb dX1_shineOf_26 rfl (lv_at hl 1 rfl) ?_
        refine lv_iload_n hx hb dX1_shineOf_27 rfl (lv_at hl 0 rfl) ?_
        obtain ⟨x_22, x_23, hf_21, hx_22, hx_23⟩ := (show tp_o_SUMS L K (0) 0 (Γ (22, 0, 0)) (f z) from hI0.at hz)
        refine tq_ci hS (hAf _ hS.1) (tq_rVN hN (As := [.ref q, .int v2]) (rest := []) ⟨hx, hb, hml, hown, hta⟩ (tp_P.pre hK hN hL hU hI hP) (tp_recv hK hP hz.1 ((tp_un hfr hz (by decide)).trans hf_21) rfl) lk_X1_109 (t_X5_holds l D cy H.size L K Γ f_1 z q v2 hz hq (by first | omega | (simp only [Int32.toInt_toInt64]; omega) | decide | assumption)) rfl rfl ⟨Nat.le_of_ble_eq_true rfl, Nat.le_of_ble_eq_true rfl⟩ rfl hl.1 rfl (Nat.le_of_ble_eq_true rfl) dX1_shineOf_28 ⟨Nat.le_of_ble_eq_true rfl, Nat.le_of_ble_eq_true rfl⟩) (fun r_25 f_26 H locs hw_24 hP hI hc_27 hS => ?_)
        have hD : va_D A (va_pl L f_26) := tp_D hL hAL
        have hfr := tp_fr2 hfr hc_27 (by decide)
        have hw_24 : tl_J r_25 (True) := hw_24
        refine lv_if_eq (tgt := 41) hx hb dX1_shineOf_31 (by decide) (fun c_28 => ?_) (fun c_28 => ?_)
        · have c_28 := c_28
          obtain ⟨z_29, ez_29⟩ : ∃ y : Int32, y = v2 + 1 := ⟨_, rfl⟩
          refine lv_iinc (v := z_29) (lv' := [(2, .int z_29), (0, .ref q), (1, .ref z)]) hx hb dX1_shineOf_41 hl (k := 0) rfl (by rw [ez_29]; rfl) (by decide) rfl (fun ls hl => ?_)
          try have iz_29 : z_29.toInt = v2.toInt + 1 := by rw [ez_29]; exact tl_addL v2 1 (by decide) (by omega) (by omega)
          refine lv_goto (tgt := 2) hx hb dX1_shineOf_44 (by decide) ?_
          exact ih2 (f_26, z_29) H locs ls (by show (12 - z_29.toInt).toNat < (12 - v2.toInt).toNat; omega) ⟨(show 0 ≤ z_29.toInt from (by omega)), (show z_29.toInt ≤ 12 from (by omega)), hP, hI, hfr, hS, lv_sub hl [0, 1, 2] rfl⟩
        · have c_28 := hw_24.t c_28
          refine lv_aload_n hx hb dX1_shineOf_34 rfl (lv_at hl 2 rfl) ?_
          refine lv_aload_n hx hb dX1_shineOf_35 rfl (lv_at hl 1 rfl) ?_
          refine lv_iload_n hx hb dX1_shineOf_36 rfl (lv_at hl 0 rfl) ?_
          refine tq_cl hS (hAf _ hS.1) (tq_rVN hN (As := [.ref q, .int v2]) (rest := []) ⟨hx, hb, hml, hown, hta⟩ (tp_P.pre hK hN hL hU hI hP) (tp_recv hK hP hz.1 ((tp_un hfr hz (by decide)).trans hf_21) rfl) lk_X1_113 (t_X5_sumOf l D cy H.size L K Γ f_26 z q v2 hz hq (by first | omega | (simp only [Int32.toInt_toInt64]; omega) | decide | assumption)) rfl rfl ⟨Nat.le_of_ble_eq_true rfl, Nat.le_of_ble_eq_true rfl⟩ rfl hl.1 rfl (Nat.le_of_ble_eq_true rfl) dX1_shineOf_37 ⟨Nat.le_of_ble_eq_true rfl, Nat.le_of_ble_eq_true rfl⟩) (fun r_31 f_32 H locs hw_30 hP hI hc_33 hS => ?_)
          have hD : va_D A (va_pl L f_32) := tp_D hL hAL
          have hfr := tp_fr2 hfr hc_33 (by decide)
          exact W.lret (v := r_31) hx hb hr (fun t ht hW => ⟨⟨_, f_32, rfl, trivial, by rw [ht]; exact hP, hI, hfr⟩, hS.F ht⟩) hS.2.2 dX1_shineOf_40
set_option maxHeartbeats 4000000 in
set_option maxRecDepth 100000 in
theorem t_X1_swingAt (l : Launch) (D : va_G) (cy : Nat → ClassId) (sz : Nat) (L : List Nat) (K : Nat → tk_K) (Γ : tk_G) (f : Nat → va_E) (o : Nat) (p0 : Int32) (ho : tp_r L K 25 (0) 0 o) : Met l yX1_swingAt (tl_w yX1_swingAt cX1_swingAt 3 (some .int)) ({ frames := 1, cells := 0, slots := 0, locals := 14 }) (va_Pc [.ref o, .int p0] (tp_P D cy L K Γ f sz)) (vp_Si (fun r : Int32 => True)) 0 0 (fun _ => False) := by
  refine Met.ofW (cc := cX1_swingAt) (maxL := 3) (ret := (some .int)) (by decide) rfl ?_
  intro p e s m args below meth c s₁ B hml hv
  obtain ⟨rfl, hsz, hP, hK, hL, hI, hN, hU⟩ := hv
  have hx := B.exec
  have hb := B.bytes
  have hr := B.returns
  have hta := tl_hta (atoms_spec (ws := tl_w yX1_swingAt cX1_swingAt 3 (some .int)) B.pre)
  have hown : s.vm.findClass RX1 = some m.cls := findClass_of_methodNamed B.named
  have hlocks := B.notSynchronized
  subst hsz
  have hI0 := hI
  have hl := lv_entry ([.ref o, .int p0]) (n := 3) (Nat.le_of_ble_eq_true rfl)
  rw [lg_entry_eq]
  generalize (lg_sl ([.ref o, .int p0]) ++ List.replicate (3 - (lg_sl ([.ref o, .int p0])).length) Slot.unset).toArray = ls at hl ⊢
  have hl : lv_has ls 3 [(0, .ref o), (1, .int p0)] := hl
  refine lv_aload_n hx hb dX1_swingAt_0 rfl (lv_at hl 0 rfl) ?_
  obtain ⟨x_2, x_3, x_4, x_5, x_6, hf_1, hx_2⟩ := (show tp_o_MAKER L K (0) 0 (Γ (25, 0, 0)) (f o) from hI0.at ho)
  refine tp_get (cy := cy) (ci := 1) (v := .int x_3) (C := RX1) (T := TX1) (N := 5) hx hb hta inlX1 hown hK hP ho.1 hf_1 rfl 1 (by decide) (hta _ wk_702) (fun _ h9 => h9) rfl dX1_swingAt_1 ?_
  refine lv_iconst (v := 1) hx hb dX1_swingAt_4 (by decide) ?_
  refine lv_icmp_ge (tgt := 10) hx hb dX1_swingAt_5 (by decide) (fun c_7 => ?_) (fun c_7 => ?_)
  · have c_7 : (1 : Int) ≤ x_3.toInt := tl_le c_7
    refine lv_iload_n hx hb dX1_swingAt_10 rfl (lv_at hl 1 rfl) ?_
    refine lv_aload_n hx hb dX1_swingAt_11 rfl (lv_at hl 0 rfl) ?_
    refine tp_get (cy := cy) (ci := 1) (v := .int x_3) (C := RX1) (T := TX1) (N := 5) hx hb hta inlX1 hown hK hP ho.1 hf_1 rfl 1 (by decide) (hta _ wk_702) (fun _ h9 => h9) rfl dX1_swingAt_12 ?_
    refine lv_irem hx hb dX1_swingAt_15 (tl_ne0 (by omega)) ?_
    refine lv_topi (fun z_8 ez_8 => ?_)
    try have iz_8 := tl_iremB ez_8 (by omega) (by omega)
    refine lv_istore_n (lv' := [(2, .int z_8), (0, .ref o), (1, .int p0)]) hx hb dX1_swingAt_16 rfl hl (by decide) rfl (fun ls hl => ?_)
    refine lv_iconst (v := 2) hx hb dX1_swingAt_17 (by decide) ?_
    refine lv_aload_n hx hb dX1_swingAt_18 rfl (lv_at hl 1 rfl) ?_
    refine tp_get (cy := cy) (ci := 1) (v := .int x_4) (C := RX1) (T := TX1) (N := 5) hx hb hta inlX1 hown hK hP ho.1 hf_1 rfl 2 (by decide) (hta _ wk_703) (fun _ h9 => h9) rfl dX1_swingAt_19 ?_
    refine lv_imul hx hb dX1_swingAt_22 ?_
    refine lv_topi (fun z_9 ez_9 => ?_)
    try have iz_9 : z_9.toInt = (2 : Int) * x_4.toInt := by rw [ez_9]; exact tl_mulN 2 x_4 rfl rfl (by omega) (by omega)
    refine lv_iload_n hx hb dX1_swingAt_23 rfl (lv_at hl 0 rfl) ?_
    refine lv_aload_n hx hb dX1_swingAt_24 rfl (lv_at hl 1 rfl) ?_
    refine tp_get (cy := cy) (ci := 1) (v := .int x_3) (C := RX1) (T := TX1) (N := 5) hx hb hta inlX1 hown hK hP ho.1 hf_1 rfl 1 (by decide) (hta _ wk_702) (fun _ h9 => h9) rfl dX1_swingAt_25 ?_
    refine lv_iload_n hx hb dX1_swingAt_28 rfl (lv_at hl 0 rfl) ?_
    refine lv_isub hx hb dX1_swingAt_29 ?_
    refine lv_topi (fun z_10 ez_10 => ?_)
    try have iz_10 : z_10.toInt = x_3.toInt - z_8.toInt := by rw [ez_10]; exact tl_subN x_3 z_8 rfl rfl (by omega) (by omega)
    refine va_mmin hx hb (by rw [hml]; exact hl.1.symm) hown (hta _ wk_769) (hta _ wk_770) (hta _ wk_83) (hta _ wk_771) (Nat.le_of_ble_eq_true rfl) (Nat.le_of_ble_eq_true rfl) (Nat.le_of_ble_eq_true rfl) (Nat.le_of_ble_eq_true rfl) dX1_swingAt_30 ?_
    refine lv_topi (fun z_11 ez_11 => ?_)
    have iz_11 : (z_11.toInt = z_10.toInt ∧ z_10.toInt ≤ z_8.toInt) ∨ (z_11.toInt = z_8.toInt ∧ z_8.toInt ≤ z_10.toInt) := by rw [ez_11]; exact tl_minF
    refine lv_imul hx hb dX1_swingAt_33 ?_
    refine lv_topi (fun z_12 ez_12 => ?_)
    try have iz_12 : z_12.toInt = z_9.toInt * z_11.toInt := by rw [ez_12]; exact tl_mulN z_9 z_11 rfl rfl (by omega) (by omega)
    refine lv_aload_n hx hb dX1_swingAt_34 rfl (lv_at hl 1 rfl) ?_
    refine tp_get (cy := cy) (ci := 1) (v := .int x_3) (C := RX1) (T := TX1) (N := 5) hx hb hta inlX1 hown hK hP ho.1 hf_1 rfl 1 (by decide) (hta _ wk_702) (fun _ h9 => h9) rfl dX1_swingAt_35 ?_
    refine lv_idiv hx hb dX1_swingAt_38 (tl_ne0 (by omega)) ?_
    refine lv_topi (fun z_13 ez_13 => ?_)
    refine lv_aload_n hx hb dX1_swingAt_39 rfl (lv_at hl 1 rfl) ?_
    refine tp_get (cy := cy) (ci := 1) (v := .int x_4) (C := RX1) (T := TX1) (N := 5) hx hb hta inlX1 hown hK hP ho.1 hf_1 rfl 2 (by decide) (hta _ wk_703) (fun _ h9 => h9) rfl dX1_swingAt_40 ?_
    refine lv_iconst (v := 2) hx hb dX1_swingAt_43 (by decide) ?_
    refine lv_idiv hx hb dX1_swingAt_44 (by decide) ?_
    refine lv_topi (fun z_14 ez_14 => ?_)
    refine lv_isub hx hb dX1_swingAt_45 ?_
    refine lv_topi (fun z_15 ez_15 => ?_)
    try have iz_15 : z_15.toInt = z_13.toInt - z_14.toInt := by rw [ez_15]; exact tl_subN z_13 z_14 rfl rfl (by omega) (by omega)
    exact W.iret (v := z_15) hx hb hr (fun t ht hW => ⟨_, rfl, trivial, ht⟩) (fun q h => by cases h) dX1_swingAt_46
  · have c_7 : x_3.toInt < (1 : Int) := tl_nle c_7
    refine lv_iconst (v := 0) hx hb dX1_swingAt_8 (by decide) ?_
    exact W.iret (v := 0) hx hb hr (fun t ht hW => ⟨_, rfl, trivial, ht⟩) (fun q h => by cases h) dX1_swingAt_9
set_option maxHeartbeats 4000000 in
set_option maxRecDepth 100000 in
theorem t_X1_makeAt (l : Launch) (D : va_G) (cy : Nat → ClassId) (sz : Nat) (L : List Nat) (K : Nat → tk_K) (Γ : tk_G) (f : Nat → va_E) (o : Nat) (q : Nat) (z : Nat) (p0 : Int32) (ho : tp_r L K 25 (0) 0 o) (hq : tp_r L K 18 (0) 0 q) (hz : tp_r L K 22 (0) 0 z) (h0 : 0 ≤ p0.toInt ∧ p0.toInt ≤ 299) : Met l yX1_makeAt (tl_w yX1_makeAt cX1_makeAt 6 (some .int)) ({ frames := 4, cells := 0, slots := 0, locals := 97 }) (va_Pc [.ref o, .ref q, .ref z, .int p0] (tp_P D cy L K Γ f sz)) (va_Qi (fun (r : Int32) (u : Nat → va_E) => True) (tp_B D cy L K Γ f [23, 24, 25]) (tp_A L sz)) 0 0 (tp_A L sz) := by
  refine Met.ofW (cc := cX1_makeAt) (maxL := 6) (ret := (some .int)) (by decide) rfl ?_
  intro p e s m args below meth c s₁ B hml hv
  obtain ⟨rfl, hsz, hP, hK, hL, hI, hN, hU⟩ := hv
  have hx := B.exec
  have hb := B.bytes
  have hr := B.returns
  have hta := tl_hta (atoms_spec (ws := tl_w yX1_makeAt cX1_makeAt 6 (some .int)) B.pre)
  have hown : s.vm.findClass RX1 = some m.cls := findClass_of_methodNamed B.named
  have hlocks := B.notSynchronized
  subst hsz
  have hI0 := hI
  generalize hAe : tp_A L s.heap.size = A
  have hA : ∀ q : Nat, s.heap.size ≤ q → A q := fun q h => by rw [← hAe]; exact Or.inr h
  have hAL : ∀ q ∈ L, A q := fun q h => by rw [← hAe]; exact Or.inl h
  have hAf : ∀ (H : Heap), s.heap.size ≤ H.size → ∀ q, tp_A L H.size q → A q := fun H h q hq => hq.elim (hAL q) (fun h2 => hA q (Nat.le_trans h h2))
  have hS : va_S A s.heap s.heap [] := va_S.rf
  have hD : va_D A (va_pl L f) := tp_D hL hAL
  have hfr : ∀ b, (K b).1 ∉ ([23, 24, 25] : List Nat) → f b = f b := fun _ _ => rfl
  have hl := lv_entry ([.ref o, .ref q, .ref z, .int p0]) (n := 6) (Nat.le_of_ble_eq_true rfl)
  rw [lg_entry_eq]
  generalize (lg_sl ([.ref o, .ref q, .ref z, .int p0]) ++ List.replicate (6 - (lg_sl ([.ref o, .ref q, .ref z, .int p0])).length) Slot.unset).toArray = ls at hl ⊢
  have hl : lv_has ls 6 [(0, .ref o), (1, .ref q), (2, .ref z), (3, .int p0)] := hl
  refine lv_aload_n hx hb dX1_makeAt_0 rfl (lv_at hl 2 rfl) ?_
  refine lv_iload_n hx hb dX1_makeAt_1 rfl (lv_at hl 3 rfl) ?_
  obtain ⟨x_2, x_3, hf_1, hx_2, hx_3⟩ := (show tp_o_SUMS L K (0) 0 (Γ (22, 0, 0)) (f z) from hI0.at hz)
  refine tq_cv hS (hAf _ hS.1) (tq_rVN hN (As := [.int p0]) (rest := []) ⟨hx, hb, hml, hown, hta⟩ (tp_P.pre hK hN hL hU hI hP) (tp_recv hK hP hz.1 hf_1 rfl) lk_X1_73 (t_X5_setColour l D cy s.heap.size L K Γ f z p0 hz) rfl rfl ⟨Nat.le_of_ble_eq_true rfl, Nat.le_of_ble_eq_true rfl⟩ rfl hl.1 rfl (Nat.le_of_ble_eq_true rfl) dX1_makeAt_2 ⟨Nat.le_of_ble_eq_true rfl, Nat.le_of_ble_eq_true rfl⟩) (fun f_6 H locs hw_4 hP hI hc_7 hS => ?_)
  have hD : va_D A (va_pl L f_6) := tp_D hL hAL
  have hfr := tp_fr2 hfr hc_7 (by decide)
  refine lv_aload_n hx hb dX1_makeAt_5 rfl (lv_at hl 1 rfl) ?_
  refine lv_aload_n hx hb dX1_makeAt_6 rfl (lv_at hl 2 rfl) ?_
  refine tq_cl hS (hAf _ hS.1) (tq_rS (As := [.ref q, .ref z]) (rest := []) ⟨hx, hb, hml, hown, hta⟩ (tp_P.pre hK hN hL hU hI hP) lk_X1_79 (t_X1_shineOf l D cy H.size L K Γ f_6 q z hq hz) rfl rfl ⟨Nat.le_of_ble_eq_true rfl, Nat.le_of_ble_eq_true rfl⟩ rfl hl.1 rfl (Nat.le_of_ble_eq_true rfl) dX1_makeAt_7 ⟨Nat.le_of_ble_eq_true rfl, Nat.le_of_ble_eq_true rfl⟩) (fun r_9 f_10 H locs hw_8 hP hI hc_11 hS => ?_)
  have hD : va_D A (va_pl L f_10) := tp_D hL hAL
  have hfr := tp_fr2 hfr hc_11 (by decide)
  refine lv_ldc2 (v := (-50000)) hx hb hown (hta _ wk_724) dX1_makeAt_10 ?_
  refine lv_ldc2 (v := 50000) hx hb hown (hta _ wk_725) dX1_makeAt_13 ?_
  refine tl_sl (tq_rSN hN (As := [.long r_9, .long (-50000), .long 50000]) (rest := []) ⟨hx, hb, hml, hown, hta⟩ (tp_P.pre hK hN hL hU hI hP) lk_X1_87 (t_X11_held l D cy H.size L K Γ f_10 r_9 (-50000) 50000 ) rfl rfl ⟨Nat.le_of_ble_eq_true rfl, Nat.le_of_ble_eq_true rfl⟩ rfl hl.1 rfl (Nat.le_of_ble_eq_true rfl) dX1_makeAt_16 ⟨Nat.le_of_ble_eq_true rfl, Nat.le_of_ble_eq_true rfl⟩) (fun r_13 hw_12 => ?_)
  refine lv_aload_n hx hb dX1_makeAt_19 rfl (lv_at hl 0 rfl) ?_
  obtain ⟨x_15, x_16, x_17, x_18, x_19, hf_14, hx_15⟩ := (show tp_o_MAKER L K (0) 0 (Γ (25, 0, 0)) (f_10 o) from hI.at ho)
  refine tp_get (cy := cy) (ci := 1) (v := .ref x_15) (C := RX1) (T := TX1) (N := 5) hx hb hta inlX1 hown hK hP ho.1 hf_14 rfl 0 (by decide) (hta _ wk_126) (fun _ h9 => h9) rfl dX1_makeAt_20 ?_
  refine lv_iload_n hx hb dX1_makeAt_23 rfl (lv_at hl 3 rfl) ?_
  obtain ⟨g_21, hf_20, hg_22⟩ := (show tp_ai cy 26 (300) (f x_15) from hI0.at hx_15)
  have hn_23 : vp_in p0 (300) := tl_in (by omega) (by omega)
  refine tp_iald (cy := cy) hx hb hK hP hx_15.1 ((tp_un hfr hx_15 (by decide)).trans hf_20) hn_23 dX1_makeAt_24 ?_
  refine lv_topi (fun z_24 ez_24 => ?_)
  refine lv_i2l (v := z_24.toInt64) hx hb dX1_makeAt_25 (by first | rfl | decide) ?_
  refine lv_lsub hx hb dX1_makeAt_26 ?_
  refine lv_topl (fun z_25 ez_25 => ?_)
  refine lv_aload_n hx hb dX1_makeAt_27 rfl (lv_at hl 0 rfl) ?_
  refine lv_iload_n hx hb dX1_makeAt_28 rfl (lv_at hl 3 rfl) ?_
  refine tl_si (tq_rV (As := [.int p0]) (rest := [.long z_25]) ⟨hx, hb, hml, hown, hta⟩ (tp_P.pre hK hN hL hU hI hP) (tp_recv hK hP ho.1 hf_14 rfl) lk_X1_91 (t_X1_swingAt l D cy H.size L K Γ f_10 o p0 ho) rfl rfl ⟨Nat.le_of_ble_eq_true rfl, Nat.le_of_ble_eq_true rfl⟩ rfl hl.1 rfl (Nat.le_of_ble_eq_true rfl) dX1_makeAt_29 ⟨Nat.le_of_ble_eq_true rfl, Nat.le_of_ble_eq_true rfl⟩) (fun r_27 hw_26 => ?_)
  refine lv_i2l (v := r_27.toInt64) hx hb dX1_makeAt_32 (by first | rfl | decide) ?_
  refine lv_ladd hx hb dX1_makeAt_33 ?_
  refine lv_topl (fun z_28 ez_28 => ?_)
  refine lv_lstore (lv' := [(4, .long z_28), (0, .ref o), (1, .ref q), (2, .ref z), (3, .int p0)]) hx hb dX1_makeAt_34 hl (by decide) rfl (fun ls hl => ?_)
  refine lv_aload_n hx hb dX1_makeAt_36 rfl (lv_at hl 1 rfl) ?_
  refine lv_aload_n hx hb dX1_makeAt_37 rfl (lv_at hl 1 rfl) ?_
  refine tp_get (cy := cy) (ci := 1) (v := .long x_19) (C := RX1) (T := TX1) (N := 5) hx hb hta inlX1 hown hK hP ho.1 hf_14 rfl 4 (by decide) (hta _ wk_705) (fun _ h9 => h9) rfl dX1_makeAt_38 ?_
  refine lv_ldc2 (v := 1103515245) hx hb hown (hta _ wk_726) dX1_makeAt_41 ?_
  refine lv_lmul hx hb dX1_makeAt_44 ?_
  refine lv_topl (fun z_29 ez_29 => ?_)
  refine lv_ldc2 (v := 12345) hx hb hown (hta _ wk_727) dX1_makeAt_45 ?_
  refine lv_ladd hx hb dX1_makeAt_48 ?_
  refine lv_topl (fun z_30 ez_30 => ?_)
  refine lv_ldc2 (v := 2147483648) hx hb hown (hta _ wk_728) dX1_makeAt_49 ?_
  refine lv_lrem hx hb dX1_makeAt_52 (by decide) ?_
  refine lv_topl (fun z_31 ez_31 => ?_)
  have hI9 : tp_I cy L K Γ (va_up f_10 o (.inr (1, [.ref x_15, .int x_16, .int x_17, .int x_18, .long z_31]))) := hI.set ho (show tp_o_MAKER L K (0) 0 (Γ (25, 0, 0)) _ from ⟨x_15, x_16, x_17, x_18, z_31, rfl, hx_15⟩)
  have hfr9 : ∀ b, (K b).1 ∉ ([23, 24, 25] : List Nat) → va_up f_10 o (.inr (1, [.ref x_15, .int x_16, .int x_17, .int x_18, .long z_31])) b = f b := tp_fr hfr ho (by decide)
  refine tp_put (cy := cy) (ci := 1) (v := .long z_31) (ty := tyX1 4) (C := RX1) (T := TX1) (N := 5) hx hb hta inlX1 tyX1 tyX1_ok nmX1 hown hK hP hD hS ho.1 hf_14 rfl 4 (by decide) (hta _ wk_705) (fun _ h9 => h9) rfl (tyX1_ok 4 (by decide)) rfl rfl (Nat.le_of_ble_eq_true rfl) dX1_makeAt_53 (fun H locs hP hD hS => ?_)
  have hP : va_P D vwCl (va_pl L (va_up f_10 o (.inr (1, [.ref x_15, .int x_16, .int x_17, .int x_18, .long z_31])))) H := hP
  generalize hfe : va_up f_10 o (.inr (1, [.ref x_15, .int x_16, .int x_17, .int x_18, .long z_31])) = f_32 at hP hI9 hfr9
  have hD : va_D A (va_pl L f_32) := tp_D hL hAL
  have hf_33 : f_32 o = .inr (1, [.ref x_15, .int x_16, .int x_17, .int x_18, .long z_31]) := by rw [← hfe]; exact va_up_self _ _ _
  clear hfe
  have hI := hI9
  have hfr := hfr9
  clear hI9 hfr9
  refine lv_lload hx hb dX1_makeAt_56 (lv_at hl 0 rfl) ?_
  refine lv_aload_n hx hb dX1_makeAt_58 rfl (lv_at hl 1 rfl) ?_
  refine tp_get (cy := cy) (ci := 1) (v := .long z_31) (C := RX1) (T := TX1) (N := 5) hx hb hta inlX1 hown hK hP ho.1 hf_33 rfl 4 (by decide) (hta _ wk_705) (fun _ h9 => h9) rfl dX1_makeAt_59 ?_
  refine lv_ldc2 (v := 65536) hx hb hown (hta _ wk_729) dX1_makeAt_62 ?_
  refine lv_ldiv hx hb dX1_makeAt_65 (by decide) ?_
  refine lv_topl (fun z_34 ez_34 => ?_)
  refine lv_ldc2 (v := 2) hx hb hown (hta _ wk_730) dX1_makeAt_66 ?_
  refine lv_aload_n hx hb dX1_makeAt_69 rfl (lv_at hl 1 rfl) ?_
  refine tp_get (cy := cy) (ci := 1) (v := .int x_18) (C := RX1) (T := TX1) (N := 5) hx hb hta inlX1 hown hK hP ho.1 hf_33 rfl 3 (by decide) (hta _ wk_704) (fun _ h9 => h9) rfl dX1_makeAt_70 ?_
  refine lv_i2l (v := x_18.toInt64) hx hb dX1_makeAt_73 (by first | rfl | decide) ?_
  refine lv_lmul hx hb dX1_makeAt_74 ?_
  refine lv_topl (fun z_35 ez_35 => ?_)
  refine lv_lconst (v := 1) hx hb dX1_makeAt_75 (by decide) ?_
  refine lv_ladd hx hb dX1_makeAt_76 ?_
  refine lv_topl (fun z_36 ez_36 => ?_)
  refine lv_lrem hx hb dX1_makeAt_77 (tl_odd ez_35 ez_36) ?_
  refine lv_topl (fun z_37 ez_37 => ?_)
  refine lv_aload_n hx hb dX1_makeAt_78 rfl (lv_at hl 1 rfl) ?_
  refine tp_get (cy := cy) (ci := 1) (v := .int x_18) (C := RX1) (T := TX1) (N := 5) hx hb hta inlX1 hown hK hP ho.1 hf_33 rfl 3 (by decide) (hta _ wk_704) (fun _ h9 => h9) rfl dX1_makeAt_79 ?_
  refine lv_i2l (v := x_18.toInt64) hx hb dX1_makeAt_82 (by first | rfl | decide) ?_
  refine lv_lsub hx hb dX1_makeAt_83 ?_
  refine lv_topl (fun z_38 ez_38 => ?_)
  refine lv_ladd hx hb dX1_makeAt_84 ?_
  refine lv_topl (fun z_39 ez_39 => ?_)
  refine lv_lstore (lv' := [(4, .long z_39), (0, .ref o), (1, .ref q), (2, .ref z), (3, .int p0)]) hx hb dX1_makeAt_85 hl (by decide) rfl (fun ls hl => ?_)
  refine lv_lload hx hb dX1_makeAt_87 (lv_at hl 0 rfl) ?_
  refine lv_ldc2 (v := (-100000)) hx hb hown (hta _ wk_731) dX1_makeAt_89 ?_
  refine lv_ldc2 (v := 100000) hx hb hown (hta _ wk_732) dX1_makeAt_92 ?_
  refine tl_sl (tq_rSN hN (As := [.long z_39, .long (-100000), .long 100000]) (rest := []) ⟨hx, hb, hml, hown, hta⟩ (tp_P.pre hK hN hL hU hI hP) lk_X1_87 (t_X11_held l D cy H.size L K Γ f_32 z_39 (-100000) 100000 ) rfl rfl ⟨Nat.le_of_ble_eq_true rfl, Nat.le_of_ble_eq_true rfl⟩ rfl hl.1 rfl (Nat.le_of_ble_eq_true rfl) dX1_makeAt_95 ⟨Nat.le_of_ble_eq_true rfl, Nat.le_of_ble_eq_true rfl⟩) (fun r_41 hw_40 => ?_)
  refine lv_l2i hx hb dX1_makeAt_98 rfl ?_
  refine lv_topi (fun z_42 ez_42 => ?_)
  exact W.iret (v := z_42) hx hb hr (fun t ht hW => ⟨⟨_, f_32, rfl, trivial, by rw [ht]; exact hP, hI, hfr⟩, hS.F ht⟩) hS.2.2 dX1_makeAt_99
