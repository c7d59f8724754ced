theorem dX11_givenBy_0 : decode cX11_givenBy 0 = .ok (.aload_n 0, 1) := by decide +kernel
theorem dX11_givenBy_1 : decode cX11_givenBy 1 = .ok (.getfield 52, 3) := by decide +kernel
theorem dX11_givenBy_4 : decode cX11_givenBy 4 = .ok (.aload_n 0, 1) := by decide +kernel
theorem dX11_givenBy_5 : decode cX11_givenBy 5 = .ok (.getfield 10, 3) := by decide +kernel
theorem dX11_givenBy_8 : decode cX11_givenBy 8 = .ok (.invokevirtual 449, 3) := by decide +kernel
theorem dX11_givenBy_11 : decode cX11_givenBy 11 = .ok (.lconst 0, 1) := by decide +kernel
theorem dX11_givenBy_12 : decode cX11_givenBy 12 = .ok (.lstore_n 2, 1) := by decide +kernel
theorem dX11_givenBy_13 : decode cX11_givenBy 13 = .ok (.iconst 0, 1) := by decide +kernel
theorem dX11_givenBy_14 : decode cX11_givenBy 14 = .ok (.istore 4, 2) := by decide +kernel
theorem dX11_givenBy_16 : decode cX11_givenBy 16 = .ok (.iload 4, 2) := by decide +kernel
theorem dX11_givenBy_18 : decode cX11_givenBy 18 = .ok (.aload_n 1, 1) := by decide +kernel
theorem dX11_givenBy_19 : decode cX11_givenBy 19 = .ok (.getfield 453, 3) := by decide +kernel
theorem dX11_givenBy_22 : decode cX11_givenBy 22 = .ok (.if_icmp .ge 46, 3) := by decide +kernel
theorem dX11_givenBy_25 : decode cX11_givenBy 25 = .ok (.iload 4, 2) := by decide +kernel
theorem dX11_givenBy_27 : decode cX11_givenBy 27 = .ok (.bipush 12, 2) := by decide +kernel
theorem dX11_givenBy_29 : decode cX11_givenBy 29 = .ok (.if_icmp .ge 39, 3) := by decide +kernel
theorem dX11_givenBy_32 : decode cX11_givenBy 32 = .ok (.lload_n 2, 1) := by decide +kernel
theorem dX11_givenBy_33 : decode cX11_givenBy 33 = .ok (.aload_n 0, 1) := by decide +kernel
theorem dX11_givenBy_34 : decode cX11_givenBy 34 = .ok (.getfield 52, 3) := by decide +kernel
theorem dX11_givenBy_37 : decode cX11_givenBy 37 = .ok (.aload_n 1, 1) := by decide +kernel
theorem dX11_givenBy_38 : decode cX11_givenBy 38 = .ok (.iload 4, 2) := by decide +kernel
theorem dX11_givenBy_40 : decode cX11_givenBy 40 = .ok (.invokevirtual 456, 3) := by decide +kernel
theorem dX11_givenBy_43 : decode cX11_givenBy 43 = .ok (.ifCond .eq 16, 3) := by decide +kernel
theorem dX11_givenBy_46 : decode cX11_givenBy 46 = .ok (.aload_n 0, 1) := by decide +kernel
theorem dX11_givenBy_47 : decode cX11_givenBy 47 = .ok (.getfield 52, 3) := by decide +kernel
theorem dX11_givenBy_50 : decode cX11_givenBy 50 = .ok (.aload_n 1, 1) := by decide +kernel
theorem dX11_givenBy_51 : decode cX11_givenBy 51 = .ok (.iload 4, 2) := by decide +kernel
theorem dX11_givenBy_53 : decode cX11_givenBy 53 = .ok (.invokevirtual 460, 3) := by decide +kernel
theorem dX11_givenBy_56 : decode cX11_givenBy 56 = .ok (.goto 4, 3) := by decide +kernel
theorem dX11_givenBy_59 : decode cX11_givenBy 59 = .ok (.lconst 0, 1) := by decide +kernel
theorem dX11_givenBy_60 : decode cX11_givenBy 60 = .ok (.ladd, 1) := by decide +kernel
theorem dX11_givenBy_61 : decode cX11_givenBy 61 = .ok (.lstore_n 2, 1) := by decide +kernel
theorem dX11_givenBy_62 : decode cX11_givenBy 62 = .ok (.iinc 4 1, 3) := by decide +kernel
theorem dX11_givenBy_65 : decode cX11_givenBy 65 = .ok (.goto (-49), 3) := by decide +kernel
theorem dX11_givenBy_68 : decode cX11_givenBy 68 = .ok (.lload_n 2, 1) := by decide +kernel
theorem dX11_givenBy_69 : decode cX11_givenBy 69 = .ok (.lconst 0, 1) := by decide +kernel
theorem dX11_givenBy_70 : decode cX11_givenBy 70 = .ok (.ldc2_w 464, 3) := by decide +kernel
theorem dX11_givenBy_73 : decode cX11_givenBy 73 = .ok (.invokestatic 466, 3) := by decide +kernel
theorem dX11_givenBy_76 : decode cX11_givenBy 76 = .ok (.l2i, 1) := by decide +kernel
theorem dX11_givenBy_77 : decode cX11_givenBy 77 = .ok (.ireturn, 1) := by decide +kernel
theorem wk_1430 : Cond.constantLong RX11 464 (99999999) ∈ tl_L := List.mem_filter.mpr ⟨lw_m6 (i := 0) rfl, rfl⟩
theorem wk_1431 : Cond.instanceMethod yX5_setWeather ∈ tl_L := List.mem_filter.mpr ⟨lw_m5 (i := 236) rfl, rfl⟩
theorem wk_1432 : Cond.selects RX5 yX5_setWeather yX5_setWeather ∈ tl_L := List.mem_filter.mpr ⟨lw_s7 (i := 2) (q := (yX5_setWeather, 2)) rfl, rfl⟩
theorem wk_1433 : Cond.code yX5_setWeather cX5_setWeather 3 none ∈ tl_L := List.mem_filter.mpr ⟨lw_m5 (i := 237) rfl, rfl⟩
theorem wk_1434 : Cond.methodLink RX11 466 yX11_held ∈ tl_L := List.mem_filter.mpr ⟨lw_m6 (i := 1) rfl, rfl⟩
theorem nk_39 : tl_N[39]? = some (Cond.fieldLinkNest "ThinLine" 453 "ThinLine$Text" "clauses" "I" "ThinLine") := by decide +kernel
theorem lk_X11_449 : tl_kVN RX11 449 RX5 yX5_setWeather "ThinLine" cX5_setWeather 3 none 1 137 := ⟨wk_1433, by decide +kernel, wk_1431, wk_1432, wk_33, ⟨by decide +kernel, by decide +kernel, by decide +kernel⟩⟩
theorem lk_X11_456 : tl_kVN RX11 456 RX5 yX5_holds "ThinLine" cX5_holds 5 (some .boolean) 2 138 := ⟨wk_741, by decide +kernel, wk_739, wk_740, wk_33, ⟨by decide +kernel, by decide +kernel, by decide +kernel⟩⟩
theorem lk_X11_460 : tl_kVN RX11 460 RX5 yX5_sumOf "ThinLine" cX5_sumOf 3 (some .long) 2 139 := ⟨wk_756, by decide +kernel, wk_754, wk_755, wk_33, ⟨by decide +kernel, by decide +kernel, by decide +kernel⟩⟩
theorem lk_X11_466 : tl_kS RX11 466 yX11_held cX11_held 6 (some .long) 3 := ⟨wk_758, wk_1434, wk_757, wk_2, ⟨by decide +kernel, by decide +kernel, by decide +kernel⟩⟩
theorem dX11_findGiven_0 : decode cX11_findGiven 0 = .ok (.lconst 0, 1) := by decide +kernel
theorem dX11_findGiven_1 : decode cX11_findGiven 1 = .ok (.lstore_n 1, 1) := by decide +kernel
theorem dX11_findGiven_2 : decode cX11_findGiven 2 = .ok (.iconst 0, 1) := by decide +kernel
theorem dX11_findGiven_3 : decode cX11_findGiven 3 = .ok (.istore_n 3, 1) := by decide +kernel
theorem dX11_findGiven_4 : decode cX11_findGiven 4 = .ok (.iload_n 3, 1) := by decide +kernel
theorem dX11_findGiven_5 : decode cX11_findGiven 5 = .ok (.aload_n 0, 1) := by decide +kernel
theorem dX11_findGiven_6 : decode cX11_findGiven 6 = .ok (.getfield 32, 3) := by decide +kernel
theorem dX11_findGiven_9 : decode cX11_findGiven 9 = .ok (.getfield 470, 3) := by decide +kernel
theorem dX11_findGiven_12 : decode cX11_findGiven 12 = .ok (.if_icmp .ge 59, 3) := by decide +kernel
theorem dX11_findGiven_15 : decode cX11_findGiven 15 = .ok (.iload_n 3, 1) := by decide +kernel
theorem dX11_findGiven_16 : decode cX11_findGiven 16 = .ok (.aload_n 0, 1) := by decide +kernel
theorem dX11_findGiven_17 : decode cX11_findGiven 17 = .ok (.getfield 91, 3) := by decide +kernel
theorem dX11_findGiven_20 : decode cX11_findGiven 20 = .ok (.arraylength, 1) := by decide +kernel
theorem dX11_findGiven_21 : decode cX11_findGiven 21 = .ok (.if_icmp .ge 50, 3) := by decide +kernel
theorem dX11_findGiven_24 : decode cX11_findGiven 24 = .ok (.aload_n 0, 1) := by decide +kernel
theorem dX11_findGiven_25 : decode cX11_findGiven 25 = .ok (.getfield 32, 3) := by decide +kernel
theorem dX11_findGiven_28 : decode cX11_findGiven 28 = .ok (.iload_n 3, 1) := by decide +kernel
theorem dX11_findGiven_29 : decode cX11_findGiven 29 = .ok (.invokevirtual 201, 3) := by decide +kernel
theorem dX11_findGiven_32 : decode cX11_findGiven 32 = .ok (.astore 4, 2) := by decide +kernel
theorem dX11_findGiven_34 : decode cX11_findGiven 34 = .ok (.aload_n 0, 1) := by decide +kernel
theorem dX11_findGiven_35 : decode cX11_findGiven 35 = .ok (.getfield 91, 3) := by decide +kernel
theorem dX11_findGiven_38 : decode cX11_findGiven 38 = .ok (.iload_n 3, 1) := by decide +kernel
theorem dX11_findGiven_39 : decode cX11_findGiven 39 = .ok (.aload 4, 2) := by decide +kernel
theorem dX11_findGiven_41 : decode cX11_findGiven 41 = .ok (.ifnonnull 7, 3) := by decide +kernel
theorem dX11_findGiven_44 : decode cX11_findGiven 44 = .ok (.iconst 0, 1) := by decide +kernel
theorem dX11_findGiven_45 : decode cX11_findGiven 45 = .ok (.goto 9, 3) := by decide +kernel
theorem dX11_findGiven_48 : decode cX11_findGiven 48 = .ok (.aload_n 0, 1) := by decide +kernel
theorem dX11_findGiven_49 : decode cX11_findGiven 49 = .ok (.aload 4, 2) := by decide +kernel
theorem dX11_findGiven_51 : decode cX11_findGiven 51 = .ok (.invokevirtual 471, 3) := by decide +kernel
theorem dX11_findGiven_54 : decode cX11_findGiven 54 = .ok (.iastore, 1) := by decide +kernel
theorem dX11_findGiven_55 : decode cX11_findGiven 55 = .ok (.lload_n 1, 1) := by decide +kernel
theorem dX11_findGiven_56 : decode cX11_findGiven 56 = .ok (.aload_n 0, 1) := by decide +kernel
theorem dX11_findGiven_57 : decode cX11_findGiven 57 = .ok (.getfield 91, 3) := by decide +kernel
theorem dX11_findGiven_60 : decode cX11_findGiven 60 = .ok (.iload_n 3, 1) := by decide +kernel
theorem dX11_findGiven_61 : decode cX11_findGiven 61 = .ok (.iaload, 1) := by decide +kernel
theorem dX11_findGiven_62 : decode cX11_findGiven 62 = .ok (.i2l, 1) := by decide +kernel
theorem dX11_findGiven_63 : decode cX11_findGiven 63 = .ok (.ladd, 1) := by decide +kernel
theorem dX11_findGiven_64 : decode cX11_findGiven 64 = .ok (.lstore_n 1, 1) := by decide +kernel
theorem dX11_findGiven_65 : decode cX11_findGiven 65 = .ok (.iinc 3 1, 3) := by decide +kernel
theorem dX11_findGiven_68 : decode cX11_findGiven 68 = .ok (.goto (-64), 3) := by decide +kernel
theorem dX11_findGiven_71 : decode cX11_findGiven 71 = .ok (.lload_n 1, 1) := by decide +kernel
theorem dX11_findGiven_72 : decode cX11_findGiven 72 = .ok (.lreturn, 1) := by decide +kernel
theorem wk_22 : Cond.fieldLink RX11 32 "ThinLine" "ways" "LThinLine$Texts;" ∈ tl_L := List.mem_filter.mpr ⟨lw_m2 (i := 143) rfl, rfl⟩
theorem wk_53 : Cond.fieldLink RX11 91 "ThinLine" "given" "[I" ∈ tl_L := List.mem_filter.mpr ⟨lw_m2 (i := 154) rfl, rfl⟩
theorem wk_1426 : Cond.methodLink RX11 471 yX11_givenBy ∈ tl_L := List.mem_filter.mpr ⟨lw_m5 (i := 230) rfl, rfl⟩
theorem wk_1427 : Cond.instanceMethod yX11_givenBy ∈ tl_L := List.mem_filter.mpr ⟨lw_m5 (i := 232) rfl, rfl⟩
theorem wk_1428 : Cond.selects RX11 yX11_givenBy yX11_givenBy ∈ tl_L := List.mem_filter.mpr ⟨lw_s7 (i := 1) (q := (yX11_givenBy, 16)) rfl, rfl⟩
theorem wk_1429 : Cond.code yX11_givenBy cX11_givenBy 5 (some .int) ∈ tl_L := List.mem_filter.mpr ⟨lw_m5 (i := 233) rfl, rfl⟩
theorem nk_28 : tl_N[28]? = some (Cond.fieldLinkNest "ThinLine" 470 "ThinLine$Texts" "size" "I" "ThinLine") := by decide +kernel
theorem lk_X11_471 : tl_kV RX11 471 RX11 yX11_givenBy cX11_givenBy 5 (some .int) 1 := ⟨wk_1429, wk_1426, wk_1427, wk_1428, wk_2, ⟨by decide +kernel, by decide +kernel, by decide +kernel⟩⟩
theorem dX11_gives_0 : decode cX11_gives 0 = .ok (.aload_n 0, 1) := by decide +kernel
theorem dX11_gives_1 : decode cX11_gives 1 = .ok (.getfield 32, 3) := by decide +kernel
theorem dX11_gives_4 : decode cX11_gives 4 = .ok (.iload_n 1, 1) := by decide +kernel
theorem dX11_gives_5 : decode cX11_gives 5 = .ok (.invokevirtual 201, 3) := by decide +kernel
theorem dX11_gives_8 : decode cX11_gives 8 = .ok (.astore_n 2, 1) := by decide +kernel
theorem dX11_gives_9 : decode cX11_gives 9 = .ok (.aload_n 2, 1) := by decide +kernel
theorem dX11_gives_10 : decode cX11_gives 10 = .ok (.ifnonnull 7, 3) := by decide +kernel
theorem dX11_gives_13 : decode cX11_gives 13 = .ok (.iconst (-1), 1) := by decide +kernel
theorem dX11_gives_14 : decode cX11_gives 14 = .ok (.goto 8, 3) := by decide +kernel
theorem dX11_gives_17 : decode cX11_gives 17 = .ok (.aload_n 0, 1) := by decide +kernel
theorem dX11_gives_18 : decode cX11_gives 18 = .ok (.aload_n 2, 1) := by decide +kernel
theorem dX11_gives_19 : decode cX11_gives 19 = .ok (.invokevirtual 471, 3) := by decide +kernel
theorem dX11_gives_22 : decode cX11_gives 22 = .ok (.ireturn, 1) := by decide +kernel
theorem dX11_brief_0 : decode cX11_brief 0 = .ok (.iload_n 1, 1) := by decide +kernel
theorem dX11_brief_1 : decode cX11_brief 1 = .ok (.invokestatic 474, 3) := by decide +kernel
theorem dX11_brief_4 : decode cX11_brief 4 = .ok (.ifCond .ne 5, 3) := by decide +kernel
theorem dX11_brief_7 : decode cX11_brief 7 = .ok (.iconst (-1), 1) := by decide +kernel
theorem dX11_brief_8 : decode cX11_brief 8 = .ok (.ireturn, 1) := by decide +kernel
theorem dX11_brief_9 : decode cX11_brief 9 = .ok (.lconst 0, 1) := by decide +kernel
theorem dX11_brief_10 : decode cX11_brief 10 = .ok (.iload_n 1, 1) := by decide +kernel
theorem dX11_brief_11 : decode cX11_brief 11 = .ok (.i2l, 1) := by decide +kernel
theorem dX11_brief_12 : decode cX11_brief 12 = .ok (.aload_n 0, 1) := by decide +kernel
theorem dX11_brief_13 : decode cX11_brief 13 = .ok (.invokevirtual 477, 3) := by decide +kernel
theorem dX11_brief_16 : decode cX11_brief 16 = .ok (.lsub, 1) := by decide +kernel
theorem dX11_brief_17 : decode cX11_brief 17 = .ok (.invokestatic 360, 3) := by decide +kernel
theorem dX11_brief_20 : decode cX11_brief 20 = .ok (.l2i, 1) := by decide +kernel
theorem dX11_brief_21 : decode cX11_brief 21 = .ok (.ireturn, 1) := by decide +kernel
theorem wk_1448 : Cond.methodLink RX11 474 yX11_isNeed ∈ tl_L := List.mem_filter.mpr ⟨lw_m6 (i := 6) rfl, rfl⟩
theorem wk_1449 : Cond.static yX11_isNeed ∈ tl_L := List.mem_filter.mpr ⟨lw_m6 (i := 7) rfl, rfl⟩
theorem wk_1450 : Cond.code yX11_isNeed cX11_isNeed 1 (some .boolean) ∈ tl_L := List.mem_filter.mpr ⟨lw_m6 (i := 8) rfl, rfl⟩
theorem wk_1452 : Cond.methodLink RX11 477 yX11_findGiven ∈ tl_L := List.mem_filter.mpr ⟨lw_m6 (i := 10) rfl, rfl⟩
theorem wk_1453 : Cond.instanceMethod yX11_findGiven ∈ tl_L := List.mem_filter.mpr ⟨lw_m6 (i := 12) rfl, rfl⟩
theorem wk_1454 : Cond.selects RX11 yX11_findGiven yX11_findGiven ∈ tl_L := List.mem_filter.mpr ⟨lw_s7 (i := 3) (q := (yX11_findGiven, 16)) rfl, rfl⟩
theorem wk_1455 : Cond.code yX11_findGiven cX11_findGiven 5 (some .long) ∈ tl_L := List.mem_filter.mpr ⟨lw_m6 (i := 13) rfl, rfl⟩
theorem lk_X11_474 : tl_kS RX11 474 yX11_isNeed cX11_isNeed 1 (some .boolean) 1 := ⟨wk_1450, wk_1448, wk_1449, wk_2, ⟨by decide +kernel, by decide +kernel, by decide +kernel⟩⟩
theorem lk_X11_477 : tl_kV RX11 477 RX11 yX11_findGiven cX11_findGiven 5 (some .long) 0 := ⟨wk_1455, wk_1452, wk_1453, wk_1454, wk_2, ⟨by decide +kernel, by decide +kernel, by decide +kernel⟩⟩
theorem dX11_givenTogether_0 : decode cX11_givenTogether 0 = .ok (.lconst 0, 1) := by decide +kernel
theorem dX11_givenTogether_1 : decode cX11_givenTogether 1 = .ok (.lstore_n 2, 1) := by decide +kernel
theorem dX11_givenTogether_2 : decode cX11_givenTogether 2 = .ok (.iconst 0, 1) := by decide +kernel
theorem dX11_givenTogether_3 : decode cX11_givenTogether 3 = .ok (.istore 4, 2) := by decide +kernel
theorem dX11_givenTogether_5 : decode cX11_givenTogether 5 = .ok (.iload 4, 2) := by decide +kernel
theorem dX11_givenTogether_7 : decode cX11_givenTogether 7 = .ok (.aload_n 0, 1) := by decide +kernel
theorem dX11_givenTogether_8 : decode cX11_givenTogether 8 = .ok (.getfield 91, 3) := by decide +kernel
theorem dX11_givenTogether_11 : decode cX11_givenTogether 11 = .ok (.arraylength, 1) := by decide +kernel
theorem dX11_givenTogether_12 : decode cX11_givenTogether 12 = .ok (.if_icmp .ge 27, 3) := by decide +kernel
theorem dX11_givenTogether_15 : decode cX11_givenTogether 15 = .ok (.lload_n 2, 1) := by decide +kernel
theorem dX11_givenTogether_16 : decode cX11_givenTogether 16 = .ok (.iload_n 1, 1) := by decide +kernel
theorem dX11_givenTogether_17 : decode cX11_givenTogether 17 = .ok (.iload 4, 2) := by decide +kernel
theorem dX11_givenTogether_19 : decode cX11_givenTogether 19 = .ok (.ishr, 1) := by decide +kernel
theorem dX11_givenTogether_20 : decode cX11_givenTogether 20 = .ok (.iconst 1, 1) := by decide +kernel
theorem dX11_givenTogether_21 : decode cX11_givenTogether 21 = .ok (.iand, 1) := by decide +kernel
theorem dX11_givenTogether_22 : decode cX11_givenTogether 22 = .ok (.aload_n 0, 1) := by decide +kernel
theorem dX11_givenTogether_23 : decode cX11_givenTogether 23 = .ok (.getfield 91, 3) := by decide +kernel
theorem dX11_givenTogether_26 : decode cX11_givenTogether 26 = .ok (.iload 4, 2) := by decide +kernel
theorem dX11_givenTogether_28 : decode cX11_givenTogether 28 = .ok (.iaload, 1) := by decide +kernel
theorem dX11_givenTogether_29 : decode cX11_givenTogether 29 = .ok (.imul, 1) := by decide +kernel
theorem dX11_givenTogether_30 : decode cX11_givenTogether 30 = .ok (.i2l, 1) := by decide +kernel
theorem dX11_givenTogether_31 : decode cX11_givenTogether 31 = .ok (.ladd, 1) := by decide +kernel
theorem dX11_givenTogether_32 : decode cX11_givenTogether 32 = .ok (.lstore_n 2, 1) := by decide +kernel
theorem dX11_givenTogether_33 : decode cX11_givenTogether 33 = .ok (.iinc 4 1, 3) := by decide +kernel
theorem dX11_givenTogether_36 : decode cX11_givenTogether 36 = .ok (.goto (-31), 3) := by decide +kernel
theorem dX11_givenTogether_39 : decode cX11_givenTogether 39 = .ok (.lload_n 2, 1) := by decide +kernel
theorem dX11_givenTogether_40 : decode cX11_givenTogether 40 = .ok (.lreturn, 1) := by decide +kernel
theorem dX11_fewest_0 : decode cX11_fewest 0 = .ok (.iload_n 1, 1) := by decide +kernel
theorem dX11_fewest_1 : decode cX11_fewest 1 = .ok (.invokestatic 474, 3) := by decide +kernel
theorem dX11_fewest_4 : decode cX11_fewest 4 = .ok (.ifCond .eq 12, 3) := by decide +kernel
theorem dX11_fewest_7 : decode cX11_fewest 7 = .ok (.iload_n 2, 1) := by decide +kernel
theorem dX11_fewest_8 : decode cX11_fewest 8 = .ok (.iconst 0, 1) := by decide +kernel
theorem dX11_fewest_9 : decode cX11_fewest 9 = .ok (.iconst 1, 1) := by decide +kernel
theorem dX11_fewest_10 : decode cX11_fewest 10 = .ok (.invokestatic 105, 3) := by decide +kernel
theorem dX11_fewest_13 : decode cX11_fewest 13 = .ok (.ifCond .ne 5, 3) := by decide +kernel
theorem dX11_fewest_16 : decode cX11_fewest 16 = .ok (.iconst (-1), 1) := by decide +kernel
theorem dX11_fewest_17 : decode cX11_fewest 17 = .ok (.ireturn, 1) := by decide +kernel
theorem dX11_fewest_18 : decode cX11_fewest 18 = .ok (.aload_n 0, 1) := by decide +kernel
theorem dX11_fewest_19 : decode cX11_fewest 19 = .ok (.invokevirtual 477, 3) := by decide +kernel
theorem dX11_fewest_22 : decode cX11_fewest 22 = .ok (.iload_n 1, 1) := by decide +kernel
theorem dX11_fewest_23 : decode cX11_fewest 23 = .ok (.i2l, 1) := by decide +kernel
theorem dX11_fewest_24 : decode cX11_fewest 24 = .ok (.lcmp, 1) := by decide +kernel
theorem dX11_fewest_25 : decode cX11_fewest 25 = .ok (.ifCond .ge 6, 3) := by decide +kernel
theorem dX11_fewest_28 : decode cX11_fewest 28 = .ok (.bipush (-2), 2) := by decide +kernel
theorem dX11_fewest_30 : decode cX11_fewest 30 = .ok (.ireturn, 1) := by decide +kernel
theorem dX11_fewest_31 : decode cX11_fewest 31 = .ok (.iconst (-1), 1) := by decide +kernel
theorem dX11_fewest_32 : decode cX11_fewest 32 = .ok (.istore_n 3, 1) := by decide +kernel
theorem dX11_fewest_33 : decode cX11_fewest 33 = .ok (.iconst 0, 1) := by decide +kernel
theorem dX11_fewest_34 : decode cX11_fewest 34 = .ok (.istore 4, 2) := by decide +kernel
theorem dX11_fewest_36 : decode cX11_fewest 36 = .ok (.lconst 0, 1) := by decide +kernel
theorem dX11_fewest_37 : decode cX11_fewest 37 = .ok (.lstore 5, 2) := by decide +kernel
theorem dX11_fewest_39 : decode cX11_fewest 39 = .ok (.iconst 0, 1) := by decide +kernel
theorem dX11_fewest_40 : decode cX11_fewest 40 = .ok (.istore 7, 2) := by decide +kernel
theorem dX11_fewest_42 : decode cX11_fewest 42 = .ok (.iload 7, 2) := by decide +kernel
theorem dX11_fewest_44 : decode cX11_fewest 44 = .ok (.iconst 1, 1) := by decide +kernel
theorem dX11_fewest_45 : decode cX11_fewest 45 = .ok (.aload_n 0, 1) := by decide +kernel
theorem dX11_fewest_46 : decode cX11_fewest 46 = .ok (.getfield 32, 3) := by decide +kernel
theorem dX11_fewest_49 : decode cX11_fewest 49 = .ok (.getfield 470, 3) := by decide +kernel
theorem dX11_fewest_52 : decode cX11_fewest 52 = .ok (.ishl, 1) := by decide +kernel
theorem dX11_fewest_53 : decode cX11_fewest 53 = .ok (.if_icmp .ge 82, 3) := by decide +kernel
theorem dX11_fewest_56 : decode cX11_fewest 56 = .ok (.iload 7, 2) := by decide +kernel
theorem dX11_fewest_58 : decode cX11_fewest 58 = .ok (.invokestatic 480, 3) := by decide +kernel
theorem dX11_fewest_61 : decode cX11_fewest 61 = .ok (.istore 8, 2) := by decide +kernel
theorem dX11_fewest_63 : decode cX11_fewest 63 = .ok (.aload_n 0, 1) := by decide +kernel
theorem dX11_fewest_64 : decode cX11_fewest 64 = .ok (.iload 7, 2) := by decide +kernel
theorem dX11_fewest_66 : decode cX11_fewest 66 = .ok (.invokevirtual 485, 3) := by decide +kernel
theorem dX11_fewest_69 : decode cX11_fewest 69 = .ok (.lstore 9, 2) := by decide +kernel
theorem dX11_fewest_71 : decode cX11_fewest 71 = .ok (.iload_n 3, 1) := by decide +kernel
theorem dX11_fewest_72 : decode cX11_fewest 72 = .ok (.iconst (-1), 1) := by decide +kernel
theorem dX11_fewest_73 : decode cX11_fewest 73 = .ok (.if_icmp .eq 25, 3) := by decide +kernel
theorem dX11_fewest_76 : decode cX11_fewest 76 = .ok (.iload 8, 2) := by decide +kernel
theorem dX11_fewest_78 : decode cX11_fewest 78 = .ok (.iload 4, 2) := by decide +kernel
theorem dX11_fewest_80 : decode cX11_fewest 80 = .ok (.if_icmp .lt 18, 3) := by decide +kernel
theorem dX11_fewest_83 : decode cX11_fewest 83 = .ok (.iload 8, 2) := by decide +kernel
theorem dX11_fewest_85 : decode cX11_fewest 85 = .ok (.iload 4, 2) := by decide +kernel
theorem dX11_fewest_87 : decode cX11_fewest 87 = .ok (.if_icmp .ne 15, 3) := by decide +kernel
theorem dX11_fewest_90 : decode cX11_fewest 90 = .ok (.lload 9, 2) := by decide +kernel
theorem dX11_fewest_92 : decode cX11_fewest 92 = .ok (.lload 5, 2) := by decide +kernel
theorem dX11_fewest_94 : decode cX11_fewest 94 = .ok (.lcmp, 1) := by decide +kernel
theorem dX11_fewest_95 : decode cX11_fewest 95 = .ok (.ifCond .le 7, 3) := by decide +kernel
theorem dX11_fewest_98 : decode cX11_fewest 98 = .ok (.iconst 1, 1) := by decide +kernel
theorem dX11_fewest_99 : decode cX11_fewest 99 = .ok (.goto 4, 3) := by decide +kernel
theorem dX11_fewest_102 : decode cX11_fewest 102 = .ok (.iconst 0, 1) := by decide +kernel
theorem dX11_fewest_103 : decode cX11_fewest 103 = .ok (.istore 11, 2) := by decide +kernel
theorem dX11_fewest_105 : decode cX11_fewest 105 = .ok (.lload 9, 2) := by decide +kernel
theorem dX11_fewest_107 : decode cX11_fewest 107 = .ok (.iload_n 1, 1) := by decide +kernel
theorem dX11_fewest_108 : decode cX11_fewest 108 = .ok (.i2l, 1) := by decide +kernel
theorem dX11_fewest_109 : decode cX11_fewest 109 = .ok (.lcmp, 1) := by decide +kernel
theorem dX11_fewest_110 : decode cX11_fewest 110 = .ok (.ifCond .lt 19, 3) := by decide +kernel
theorem dX11_fewest_113 : decode cX11_fewest 113 = .ok (.iload 11, 2) := by decide +kernel
theorem dX11_fewest_115 : decode cX11_fewest 115 = .ok (.ifCond .eq 14, 3) := by decide +kernel
theorem dX11_fewest_118 : decode cX11_fewest 118 = .ok (.iload 7, 2) := by decide +kernel
theorem dX11_fewest_120 : decode cX11_fewest 120 = .ok (.istore_n 3, 1) := by decide +kernel
theorem dX11_fewest_121 : decode cX11_fewest 121 = .ok (.iload 8, 2) := by decide +kernel
theorem dX11_fewest_123 : decode cX11_fewest 123 = .ok (.istore 4, 2) := by decide +kernel
theorem dX11_fewest_125 : decode cX11_fewest 125 = .ok (.lload 9, 2) := by decide +kernel
theorem dX11_fewest_127 : decode cX11_fewest 127 = .ok (.lstore 5, 2) := by decide +kernel
theorem dX11_fewest_129 : decode cX11_fewest 129 = .ok (.iinc 7 1, 3) := by decide +kernel
theorem dX11_fewest_132 : decode cX11_fewest 132 = .ok (.goto (-90), 3) := by decide +kernel
theorem dX11_fewest_135 : decode cX11_fewest 135 = .ok (.iload_n 2, 1) := by decide +kernel
theorem dX11_fewest_136 : decode cX11_fewest 136 = .ok (.ifCond .ne 8, 3) := by decide +kernel
theorem dX11_fewest_139 : decode cX11_fewest 139 = .ok (.iload 4, 2) := by decide +kernel
theorem dX11_fewest_141 : decode cX11_fewest 141 = .ok (.goto 4, 3) := by decide +kernel
theorem dX11_fewest_144 : decode cX11_fewest 144 = .ok (.iload_n 3, 1) := by decide +kernel
theorem dX11_fewest_145 : decode cX11_fewest 145 = .ok (.ireturn, 1) := by decide +kernel
theorem wk_1469 : Cond.methodLink RX11 480 yJ6_bitCount_0f7a4 ∈ tl_L := List.mem_filter.mpr ⟨lw_m6 (i := 18) rfl, rfl⟩
theorem wk_1470 : Cond.static yJ6_bitCount_0f7a4 ∈ tl_L := List.mem_filter.mpr ⟨lw_m6 (i := 19) rfl, rfl⟩
theorem wk_1471 : Cond.initialized RJ6 ∈ tl_L := List.mem_filter.mpr ⟨lw_m1 (i := 20) rfl, rfl⟩
theorem wk_1472 : Cond.code yJ6_bitCount_0f7a4 cJ6_bitCount_0f7a4 1 (some .int) ∈ tl_L := List.mem_filter.mpr ⟨lw_m6 (i := 20) rfl, rfl⟩
theorem wk_1476 : Cond.methodLink RX11 485 yX11_givenTogether ∈ tl_L := List.mem_filter.mpr ⟨lw_m6 (i := 24) rfl, rfl⟩
theorem wk_1477 : Cond.instanceMethod yX11_givenTogether ∈ tl_L := List.mem_filter.mpr ⟨lw_m6 (i := 26) rfl, rfl⟩
theorem wk_1478 : Cond.selects RX11 yX11_givenTogether yX11_givenTogether ∈ tl_L := List.mem_filter.mpr ⟨lw_s7 (i := 4) (q := (yX11_givenTogether, 16)) rfl, rfl⟩
theorem wk_1479 : Cond.code yX11_givenTogether cX11_givenTogether 5 (some .long) ∈ tl_L := List.mem_filter.mpr ⟨lw_m6 (i := 27) rfl, rfl⟩
theorem lk_X11_480 : tl_kS RX11 480 yJ6_bitCount_0f7a4 cJ6_bitCount_0f7a4 1 (some .int) 1 := ⟨wk_1472, wk_1469, wk_1470, wk_1471, ⟨by decide +kernel, by decide +kernel, by decide +kernel⟩⟩
theorem lk_X11_485 : tl_kV RX11 485 RX11 yX11_givenTogether cX11_givenTogether 5 (some .long) 1 := ⟨wk_1479, wk_1476, wk_1477, wk_1478, wk_2, ⟨by decide +kernel, by decide +kernel, by decide +kernel⟩⟩
set_option maxHeartbeats 4000000 in
set_option maxRecDepth 100000 in
theorem t_X11_givenBy (l : Launch) (D : va_G) (cy : Nat → ClassId) (sz : Nat) (L : List Nat) (K : Nat → tk_K) (Γ : tk_G) (f : Nat → va_E) (o : Nat) (q : Nat) (ho : tp_r L K 0 (0) 0 o) (hq : tp_r L K 18 (0) 0 q) : Met l yX11_givenBy (tl_w yX11_givenBy cX11_givenBy 5 (some .int)) ({ frames := 3, cells := 0, slots := 0, locals := 75 }) (va_Pc [.ref o, .ref q] (tp_P D cy L K Γ f sz)) (va_Qi (fun (r : Int32) (u : Nat → va_E) => True) (tp_B D cy L K Γ f [23, 24]) (tp_A L sz)) 0 0 (tp_A L sz) := by
  refine Met.ofW (cc := cX11_givenBy) (maxL := 5) (ret := (some .int)) (by decide) rfl ?_
  intro p e s m args below meth c s₁ B hml hv
  obtain ⟨rfl, hsz, hP, hK, hL, hI, hN, hU⟩ := hv
  have hx := B.exec
  have hb := B.bytes
  have hr := B.returns
  have hta := tl_hta (atoms_spec (ws := tl_w yX11_givenBy cX11_givenBy 5 (some .int)) B.pre)
  have hown : s.vm.findClass RX11 = some m.cls := findClass_of_methodNamed B.named
  have hlocks := B.notSynchronized
  subst hsz
  have hI0 := hI
  generalize hAe : tp_A L s.heap.size = A
  have hA : ∀ q : Nat, s.heap.size ≤ q → A q := fun q h => by rw [← hAe]; exact Or.inr h
  have hAL : ∀ q ∈ L, A q := fun q h => by rw [← hAe]; exact Or.inl h
  have hAf : ∀ (H : Heap), s.heap.size ≤ H.size → ∀ q, tp_A L H.size q → A q := fun H h q hq => hq.elim (hAL q) (fun h2 => hA q (Nat.le_trans h h2))
  have hS : va_S A s.heap s.heap [] := va_S.rf
  have hD : va_D A (va_pl L f) := tp_D hL hAL
  have hfr : ∀ b, (K b).1 ∉ ([23, 24] : List Nat) → f b = f b := fun _ _ => rfl
  have hl := lv_entry ([.ref o, .ref q]) (n := 5) (Nat.le_of_ble_eq_true rfl)
  rw [lg_entry_eq]
  generalize (lg_sl ([.ref o, .ref q]) ++ List.replicate (5 - (lg_sl ([.ref o, .ref q])).length) Slot.unset).toArray = ls at hl ⊢
  have hl : lv_has ls 5 [(0, .ref o), (1, .ref q)] := hl
  refine lv_aload_n hx hb dX11_givenBy_0 rfl (lv_at hl 0 rfl) ?_
  obtain ⟨x_2, x_3, x_4, x_5, x_6, x_7, x_8, x_9, x_10, x_11, x_12, x_13, x_14, x_15, x_16, x_17, hf_1, hx_2, hx_3, hx_4, hx_5, hx_6, hx_7, hx_8, hx_9, hx_10, hx_11, hx_12, hx_13, hx_14, hx_15, hx_16, hx_17⟩ := (show tp_o_X L K (0) 0 (Γ (0, 0, 0)) (f o) from hI0.at ho)
  refine tp_get (cy := cy) (ci := 11) (v := .ref x_9) (C := RX11) (T := TX11) (N := 16) hx hb hta inlX11 hown hK hP ho.1 hf_1 rfl 7 (by decide) (hta _ wk_34) (fun _ h9 => h9) rfl dX11_givenBy_1 ?_
  refine lv_aload_n hx hb dX11_givenBy_4 rfl (lv_at hl 0 rfl) ?_
  refine tp_get (cy := cy) (ci := 11) (v := .ref x_2) (C := RX11) (T := TX11) (N := 16) hx hb hta inlX11 hown hK hP ho.1 hf_1 rfl 0 (by decide) (hta _ wk_15) (fun _ h9 => h9) rfl dX11_givenBy_5 ?_
  obtain ⟨x_19, x_20, hf_18, hx_19, hx_20⟩ := (show tp_o_SUMS L K (0) 0 (Γ (22, 0, 0)) (f x_9) from hI0.at hx_9)
  refine tq_cv hS (hAf _ hS.1) (tq_rVN hN (As := [.ref x_2]) (rest := []) ⟨hx, hb, hml, hown, hta⟩ (tp_P.pre hK hN hL hU hI hP) (tp_recv hK hP hx_9.1 hf_18 rfl) lk_X11_449 (t_X5_setWeather l D cy s.heap.size L K Γ f x_9 0 x_2 hx_9 hx_2) rfl rfl ⟨Nat.le_of_ble_eq_true rfl, Nat.le_of_ble_eq_true rfl⟩ rfl hl.1 rfl (Nat.le_of_ble_eq_true rfl) dX11_givenBy_8 ⟨Nat.le_of_ble_eq_true rfl, Nat.le_of_ble_eq_true rfl⟩) (fun f_23 H locs hw_21 hP hI hc_24 hS => ?_)
  have hD : va_D A (va_pl L f_23) := tp_D hL hAL
  have hfr := tp_fr2 hfr hc_24 (by decide)
  refine lv_lconst (v := 0) hx hb dX11_givenBy_11 (by decide) ?_
  refine lv_lstore_n (lv' := [(2, .long 0), (0, .ref o), (1, .ref q)]) hx hb dX11_givenBy_12 rfl hl (by decide) rfl (fun ls hl => ?_)
  refine lv_iconst (v := 0) hx hb dX11_givenBy_13 (by decide) ?_
  refine lv_istore (lv' := [(4, .int 0), (2, .long 0), (0, .ref o), (1, .ref q)]) hx hb dX11_givenBy_14 hl (by decide) rfl (fun ls hl => ?_)
  refine tl_ind (G := fun H locs ls => W p l e ((headSpec (tl_w yX11_givenBy cX11_givenBy 5 (some .int)) ({ frames := 3, cells := 0, slots := 0, locals := 75 })).room) s m #[.ref o, .ref q] below meth c H locs 0 0 (MQ below (va_Qi (fun (r : Int32) (u : Nat → va_E) => True) (tp_B D cy L K Γ f [23, 24]) A) #[.ref o, .ref q] s 0 0 A) (F0 m 16 ls [])) (α := (Nat → va_E) × Int32 × Int64) (fun aq => (12 - aq.2.1.toInt).toNat) (fun aq H locs ls => (0 ≤ aq.2.1.toInt) ∧ (aq.2.1.toInt ≤ 12) ∧ va_P D vwCl (va_pl L aq.1) H ∧ tp_I cy L K Γ aq.1 ∧ (∀ b, (K b).1 ∉ ([23, 24] : List Nat) → aq.1 b = f b) ∧ va_S A s.heap H locs ∧ lv_has ls 5 [(4, .int aq.2.1), (2, .long aq.2.2), (0, .ref o), (1, .ref q)]) ?_ (f_23, (0 : Int32), (0 : Int64)) H locs ls ⟨(show 0 ≤ (0 : Int) from (by omega)), (show (0 : Int) ≤ 12 from (by omega)), hP, hI, hfr, hS, lv_sub hl [0, 1, 2, 3] rfl⟩
  rintro ⟨f_25, v4, v2⟩ H locs ls ⟨h0, h1, hP, hI, hfr, hS, hl⟩ ih16
  have hP : va_P D vwCl (va_pl L f_25) H := hP
  have hI : tp_I cy L K Γ f_25 := hI
  have hfr : ∀ b, (K b).1 ∉ ([23, 24] : List Nat) → f_25 b = f b := hfr
  have hD : va_D A (va_pl L f_25) := tp_D hL hAL
  have h0 : 0 ≤ v4.toInt := h0
  have h1 : v4.toInt ≤ 12 := h1
  have hl : lv_has ls 5 [(4, .int v4), (2, .long v2), (0, .ref o), (1, .ref q)] := hl
  refine lv_iload hx hb dX11_givenBy_16 (lv_at hl 0 rfl) ?_
  refine lv_aload_n hx hb dX11_givenBy_18 rfl (lv_at hl 3 rfl) ?_
  obtain ⟨x_27, x_28, x_29, x_30, x_31, x_32, x_33, x_34, x_35, hf_26, hx_27, hx_28, hx_29, hx_30, hx_31, hx_32, hx_33, hx_34, hx_35⟩ := (show tp_o_TEXT L K (0) 0 (Γ (18, 0, 0)) (f q) from hI0.at hq)
  refine tp_getN (cy := cy) (ci := 7) (v := .int x_27) (C := RX7) (T := TX7) (N := 9) hx hb hta inlX7 hown hK hP hq.1 ((tp_un hfr hq (by decide)).trans hf_26) rfl 0 (by decide) (va_Nw.use rfl (hN.1 39 _ nk_39)) (fun _ h9 => h9) rfl dX11_givenBy_19 ?_
  refine lv_icmp_ge (tgt := 68) hx hb dX11_givenBy_22 (by decide) (fun c_36 => ?_) (fun c_36 => ?_)
  · have c_36 : x_27.toInt ≤ v4.toInt := tl_le c_36
    refine lv_lload_n hx hb dX11_givenBy_68 rfl (lv_at hl 1 rfl) ?_
    refine lv_lconst (v := 0) hx hb dX11_givenBy_69 (by decide) ?_
    refine lv_ldc2 (v := 99999999) hx hb hown (hta _ wk_1430) dX11_givenBy_70 ?_
    refine tl_sl (tq_rS (As := [.long v2, .long 0, .long 99999999]) (rest := []) ⟨hx, hb, hml, hown, hta⟩ (tp_P.pre hK hN hL hU hI hP) lk_X11_466 (t_X11_held l D cy H.size L K Γ f_25 v2 0 99999999 ) rfl rfl ⟨Nat.le_of_ble_eq_true rfl, Nat.le_of_ble_eq_true rfl⟩ rfl hl.1 rfl (Nat.le_of_ble_eq_true rfl) dX11_givenBy_73 ⟨Nat.le_of_ble_eq_true rfl, Nat.le_of_ble_eq_true rfl⟩) (fun r_38 hw_37 => ?_)
    refine lv_l2i hx hb dX11_givenBy_76 rfl ?_
    refine lv_topi (fun z_39 ez_39 => ?_)
    exact W.iret (v := z_39) hx hb hr (fun t ht hW => ⟨⟨_, f_25, rfl, trivial, by rw [ht]; exact hP, hI, hfr⟩, hS.F ht⟩) hS.2.2 dX11_givenBy_77
  · have c_36 : v4.toInt < x_27.toInt := tl_nle c_36
    refine lv_iload hx hb dX11_givenBy_25 (lv_at hl 0 rfl) ?_
    refine lv_bipush (v := 12) hx hb dX11_givenBy_27 (by decide) ?_
    refine lv_icmp_ge (tgt := 68) hx hb dX11_givenBy_29 (by decide) (fun c_40 => ?_) (fun c_40 => ?_)
    · have c_40 : (12 : Int) ≤ v4.toInt := tl_le c_40
      refine lv_lload_n hx hb dX11_givenBy_68 rfl (lv_at hl 1 rfl) ?_
      refine lv_lconst (v := 0) hx hb dX11_givenBy_69 (by decide) ?_
      refine lv_ldc2 (v := 99999999) hx hb hown (hta _ wk_1430) dX11_givenBy_70 ?_
      refine tl_sl (tq_rS (As := [.long v2, .long 0, .long 99999999]) (rest := []) ⟨hx, hb, hml, hown, hta⟩ (tp_P.pre hK hN hL hU hI hP) lk_X11_466 (t_X11_held l D cy H.size L K Γ f_25 v2 0 99999999 ) rfl rfl ⟨Nat.le_of_ble_eq_true rfl, Nat.le_of_ble_eq_true rfl⟩ rfl hl.1 rfl (Nat.le_of_ble_eq_true rfl) dX11_givenBy_73 ⟨Nat.le_of_ble_eq_true rfl, Nat.le_of_ble_eq_true rfl⟩) (fun r_42 hw_41 => ?_)
      refine lv_l2i hx hb dX11_givenBy_76 rfl ?_
      refine lv_topi (fun z_43 ez_43 => ?_)
      exact W.iret (v := z_43) hx hb hr (fun t ht hW => ⟨⟨_, f_25, rfl, trivial, by rw [ht]; exact hP, hI, hfr⟩, hS.F ht⟩) hS.2.2 dX11_givenBy_77
    · have c_40 : v4.toInt < (12 : Int) := tl_nle c_40
      refine lv_lload_n hx hb dX11_givenBy_32 rfl (lv_at hl 1 rfl) ?_
      refine lv_aload_n hx hb dX11_givenBy_33 rfl (lv_at hl 2 rfl) ?_
      refine tp_get (cy := cy) (ci := 11) (v := .ref x_9) (C := RX11) (T := TX11) (N := 16) hx hb hta inlX11 hown hK hP ho.1 ((tp_un hfr ho (by decide)).trans hf_1) rfl 7 (by decide) (hta _ wk_34) (fun _ h9 => h9) rfl dX11_givenBy_34 ?_
      refine lv_aload_n hx hb dX11_givenBy_37 rfl (lv_at hl 3 rfl) ?_
      refine lv_iload hx hb dX11_givenBy_38 (lv_at hl 0 rfl) ?_
      refine tq_ci hS (hAf _ hS.1) (tq_rVN hN (As := [.ref q, .int v4]) (rest := [.long v2]) ⟨hx, hb, hml, hown, hta⟩ (tp_P.pre hK hN hL hU hI hP) (tp_recv hK hP hx_9.1 ((tp_un hfr hx_9 (by decide)).trans hf_18) rfl) lk_X11_456 (t_X5_holds l D cy H.size L K Γ f_25 x_9 q v4 hx_9 hq (by first | omega | (simp only [Int32.toInt_toInt64]; omega) | decide | assumption)) rfl rfl ⟨Nat.le_of_ble_eq_true rfl, Nat.le_of_ble_eq_true rfl⟩ rfl hl.1 rfl (Nat.le_of_ble_eq_true rfl) dX11_givenBy_40 ⟨Nat.le_of_ble_eq_true rfl, Nat.le_of_ble_eq_true rfl⟩) (fun r_45 f_46 H locs hw_44 hP hI hc_47 hS => ?_)
      have hD : va_D A (va_pl L f_46) := tp_D hL hAL
      have hfr := tp_fr2 hfr hc_47 (by decide)
      have hw_44 : tl_J r_45 (True) := hw_44
      refine lv_if_eq (tgt := 59) hx hb dX11_givenBy_43 (by decide) (fun c_48 => ?_) (fun c_48 => ?_)
      · have c_48 := c_48
        refine lv_lconst (v := 0) hx hb dX11_givenBy_59 (by decide) ?_
        refine lv_ladd hx hb dX11_givenBy_60 ?_
        refine lv_topl (fun z_49 ez_49 => ?_)
        refine lv_lstore_n (lv' := [(2, .long z_49), (4, .int v4), (0, .ref o), (1, .ref q)]) hx hb dX11_givenBy_61 rfl hl (by decide) rfl (fun ls hl => ?_)
        obtain ⟨z_50, ez_50⟩ : ∃ y : Int32, y = v4 + 1 := ⟨_, rfl⟩
        refine lv_iinc (v := z_50) (lv' := [(4, .int z_50), (2, .long z_49), (0, .ref o), (1, .ref q)]) hx hb dX11_givenBy_62 hl (k := 1) rfl (by rw [ez_50]; rfl) (by decide) rfl (fun ls hl => ?_)
        try have iz_50 : z_50.toInt = v4.toInt + 1 := by rw [ez_50]; exact tl_addL v4 1 (by decide) (by omega) (by omega)
        refine lv_goto (tgt := 16) hx hb dX11_givenBy_65 (by decide) ?_
        exact ih16 (f_46, z_50, z_49) H locs ls (by show (12 - z_50.toInt).toNat < (12 - v4.toInt).toNat; omega) ⟨(show 0 ≤ z_50.toInt from (by omega)), (show z_50.toInt ≤ 12 from (by omega)), hP, hI, hfr, hS, lv_sub hl [0, 1, 2, 3] rfl⟩
      · have c_48 := hw_44.t c_48
        refine lv_aload_n hx hb dX11_givenBy_46 rfl (lv_at hl 2 rfl) ?_
        refine tp_get (cy := cy) (ci := 11) (v := .ref x_9) (C := RX11) (T := TX11) (N := 16) hx hb hta inlX11 hown hK hP ho.1 ((tp_un hfr ho (by decide)).trans hf_1) rfl 7 (by decide) (hta _ wk_34) (fun _ h9 => h9) rfl dX11_givenBy_47 ?_
        refine lv_aload_n hx hb dX11_givenBy_50 rfl (lv_at hl 3 rfl) ?_
        refine lv_iload hx hb dX11_givenBy_51 (lv_at hl 0 rfl) ?_
        refine tq_cl hS (hAf _ hS.1) (tq_rVN hN (As := [.ref q, .int v4]) (rest := [.long v2]) ⟨hx, hb, hml, hown, hta⟩ (tp_P.pre hK hN hL hU hI hP) (tp_recv hK hP hx_9.1 ((tp_un hfr hx_9 (by decide)).trans hf_18) rfl) lk_X11_460 (t_X5_sumOf l D cy H.size L K Γ f_46 x_9 q v4 hx_9 hq (by first | omega | (simp only [Int32.toInt_toInt64]; omega) | decide | assumption)) rfl rfl ⟨Nat.le_of_ble_eq_true rfl, Nat.le_of_ble_eq_true rfl⟩ rfl hl.1 rfl (Nat.le_of_ble_eq_true rfl) dX11_givenBy_53 ⟨Nat.le_of_ble_eq_true rfl, Nat.le_of_ble_eq_true rfl⟩) (fun r_52 f_53 H locs hw_51 hP hI hc_54 hS => ?_)
        have hD : va_D A (va_pl L f_53) := tp_D hL hAL
        have hfr := tp_fr2 hfr hc_54 (by decide)
        refine lv_goto (tgt := 60) hx hb dX11_givenBy_56 (by decide) ?_
        refine lv_ladd hx hb dX11_givenBy_60 ?_
        refine lv_topl (fun z_55 ez_55 => ?_)
        refine lv_lstore_n (lv' := [(2, .long z_55), (4, .int v4), (0, .ref o), (1, .ref q)]) hx hb dX11_givenBy_61 rfl hl (by decide) rfl (fun ls hl => ?_)
        obtain ⟨z_56, ez_56⟩ : ∃ y : Int32, y = v4 + 1 := ⟨_, rfl⟩
        refine lv_iinc (v := z_56) (lv' := [(4, .int z_56), (2, .long z_55), (0, .ref o), (1, .ref q)]) hx hb dX11_givenBy_62 hl (k := 1) rfl (by rw [ez_56]; rfl) (by decide) rfl (fun ls hl => ?_)
        try have iz_56 : z_56.toInt = v4.toInt + 1 := by rw [ez_56]; exact tl_addL v4 1 (by decide) (by omega) (by omega)
        refine lv_goto (tgt := 16) hx hb dX11_givenBy_65 (by decide) ?_
        exact ih16 (f_53, z_56, z_55) H locs ls (by show (12 - z_56.toInt).toNat < (12 - v4.toInt).toNat; omega) ⟨(show 0 ≤ z_56.toInt from (by omega)), (show z_56.toInt ≤ 12 from (by omega)), hP, hI, hfr, hS, lv_sub hl [0, 1, 2, 3] rfl⟩
set_option maxHeartbeats 4000000 in
set_option maxRecDepth 100000 in
theorem t_X11_findGiven (l : Launch) (D : va_G) (cy : Nat → ClassId) (sz : Nat) (L : List Nat) (K : Nat → tk_K) (Γ : tk_G) (f : Nat → va_E) (o : Nat) (ho : tp_r L K 0 (0) 0 o) : Met l yX11_findGiven (tl_w yX11_findGiven cX11_findGiven 5 (some .long)) ({ frames := 4, cells := 0, slots := 0, locals := 99 }) (va_Pc [.ref o] (tp_P D cy L K Γ f sz)) (va_Ql (fun (r : Int64) (u : Nat → va_E) => True) (tp_B D cy L K Γ f [23, 24, 37]) (tp_A L sz)) 0 0 (tp_A L sz) := by
  refine Met.ofW (cc := cX11_findGiven) (maxL := 5) (ret := (some .long)) (by decide) rfl ?_
  intro p e s m args below meth c s₁ B hml hv
  obtain ⟨rfl, hsz, hP, hK, hL, hI, hN, hU⟩ := hv
  have hx := B.exec
  have hb := B.bytes
  have hr := B.returns
  have hta := tl_hta (atoms_spec (ws := tl_w yX11_findGiven cX11_findGiven 5 (some .long)) B.pre)
  have hown : s.vm.findClass RX11 = some m.cls := findClass_of_methodNamed B.named
  have hlocks := B.notSynchronized
  subst hsz
  have hI0 := hI
  generalize hAe : tp_A L s.heap.size = A
  have hA : ∀ q : Nat, s.heap.size ≤ q → A q := fun q h => by rw [← hAe]; exact Or.inr h
  have hAL : ∀ q ∈ L, A q := fun q h => by rw [← hAe]; exact Or.inl h
  have hAf : ∀ (H : Heap), s.heap.size ≤ H.size → ∀ q, tp_A L H.size q → A q := fun H h q hq => hq.elim (hAL q) (fun h2 => hA q (Nat.le_trans h h2))
  have hS : va_S A s.heap s.heap [] := va_S.rf
  have hD : va_D A (va_pl L f) := tp_D hL hAL
  have hfr : ∀ b, (K b).1 ∉ ([23, 24, 37] : List Nat) → f b = f b := fun _ _ => rfl
  have hl := lv_entry ([.ref o]) (n := 5) (Nat.le_of_ble_eq_true rfl)
  rw [lg_entry_eq]
  generalize (lg_sl ([.ref o]) ++ List.replicate (5 - (lg_sl ([.ref o])).length) Slot.unset).toArray = ls at hl ⊢
  have hl : lv_has ls 5 [(0, .ref o)] := hl
  refine lv_lconst (v := 0) hx hb dX11_findGiven_0 (by decide) ?_
  refine lv_lstore_n (lv' := [(1, .long 0), (0, .ref o)]) hx hb dX11_findGiven_1 rfl hl (by decide) rfl (fun ls hl => ?_)
  refine lv_iconst (v := 0) hx hb dX11_findGiven_2 (by decide) ?_
  refine lv_istore_n (lv' := [(3, .int 0), (1, .long 0), (0, .ref o)]) hx hb dX11_findGiven_3 rfl hl (by decide) rfl (fun ls hl => ?_)
  refine tq_start hP hS (fun H locs hP hS => ?_)
  refine tl_ind (G := fun H locs ls => W p l e ((headSpec (tl_w yX11_findGiven cX11_findGiven 5 (some .long)) ({ frames := 4, cells := 0, slots := 0, locals := 99 })).room) s m #[.ref o] below meth c H locs 0 0 (MQ below (va_Ql (fun (r : Int64) (u : Nat → va_E) => True) (tp_B D cy L K Γ f [23, 24, 37]) A) #[.ref o] s 0 0 A) (F0 m 4 ls [])) (α := (Nat → va_E) × Int32 × Int64) (fun aq => (8 - aq.2.1.toInt).toNat) (fun aq H locs ls => (0 ≤ aq.2.1.toInt) ∧ (aq.2.1.toInt ≤ 8) ∧ va_P D vwCl (va_pl L aq.1) H ∧ tp_I cy L K Γ aq.1 ∧ (∀ b, (K b).1 ∉ ([23, 24, 37] : List Nat) → aq.1 b = f b) ∧ va_S A s.heap H locs ∧ lv_has ls 5 [(3, .int aq.2.1), (1, .long aq.2.2), (0, .ref o)]) ?_ (f, (0 : Int32), (0 : Int64)) H locs ls ⟨(show 0 ≤ (0 : Int) from (by omega)), (show (0 : Int) ≤ 8 from (by omega)), hP, hI, hfr, hS, lv_sub hl [0, 1, 2] rfl⟩
  rintro ⟨f_1, v3, v1⟩ H locs ls ⟨h0, h1, hP, hI, hfr, hS, hl⟩ ih4
  have hP : va_P D vwCl (va_pl L f_1) H := hP
  have hI : tp_I cy L K Γ f_1 := hI
  have hfr : ∀ b, (K b).1 ∉ ([23, 24, 37] : List Nat) → f_1 b = f b := hfr
  have hD : va_D A (va_pl L f_1) := tp_D hL hAL
  have h0 : 0 ≤ v3.toInt := h0
  have h1 : v3.toInt ≤ 8 := h1
  have hl : lv_has ls 5 [(3, .int v3), (1, .long v1), (0, .ref o)] := hl
  refine lv_iload_n hx hb dX11_findGiven_4 rfl (lv_at hl 0 rfl) ?_
  refine lv_aload_n hx hb dX11_findGiven_5 rfl (lv_at hl 2 rfl) ?_
  obtain ⟨x_3, x_4, x_5, x_6, x_7, x_8, x_9, x_10, x_11, x_12, x_13, x_14, x_15, x_16, x_17, x_18, hf_2, hx_3, hx_4, hx_5, hx_6, hx_7, hx_8, hx_9, hx_10, hx_11, hx_12, hx_13, hx_14, hx_15, hx_16, hx_17, hx_18⟩ := (show tp_o_X L K (0) 0 (Γ (0, 0, 0)) (f o) from hI0.at ho)
  refine tp_get (cy := cy) (ci := 11) (v := .ref x_7) (C := RX11) (T := TX11) (N := 16) hx hb hta inlX11 hown hK hP ho.1 ((tp_un hfr ho (by decide)).trans hf_2) rfl 4 (by decide) (hta _ wk_22) (fun _ h9 => h9) rfl dX11_findGiven_6 ?_
  obtain ⟨x_20, x_21, hf_19, hx_20, hx_21⟩ := (show tp_o_TEXTS L K (8) 0 (Γ (13, 8, 0)) (f x_7) from hI0.at hx_7)
  refine tp_getN (cy := cy) (ci := 8) (v := .int x_21) (C := RX8) (T := TX8) (N := 2) hx hb hta inlX8 hown hK hP hx_7.1 ((tp_un hfr hx_7 (by decide)).trans hf_19) rfl 1 (by decide) (va_Nw.use rfl (hN.1 28 _ nk_28)) (fun _ h9 => h9) rfl dX11_findGiven_9 ?_
  refine lv_icmp_ge (tgt := 71) hx hb dX11_findGiven_12 (by decide) (fun c_22 => ?_) (fun c_22 => ?_)
  · have c_22 : x_21.toInt ≤ v3.toInt := tl_le c_22
    refine lv_lload_n hx hb dX11_findGiven_71 rfl (lv_at hl 1 rfl) ?_
    exact W.lret (v := v1) hx hb hr (fun t ht hW => ⟨⟨_, f_1, rfl, trivial, by rw [ht]; exact hP, hI, hfr⟩, hS.F ht⟩) hS.2.2 dX11_findGiven_72
  · have c_22 : v3.toInt < x_21.toInt := tl_nle c_22
    refine lv_iload_n hx hb dX11_findGiven_15 rfl (lv_at hl 0 rfl) ?_
    refine lv_aload_n hx hb dX11_findGiven_16 rfl (lv_at hl 2 rfl) ?_
    refine tp_get (cy := cy) (ci := 11) (v := .ref x_18) (C := RX11) (T := TX11) (N := 16) hx hb hta inlX11 hown hK hP ho.1 ((tp_un hfr ho (by decide)).trans hf_2) rfl 15 (by decide) (hta _ wk_53) (fun _ h9 => h9) rfl dX11_findGiven_17 ?_
    obtain ⟨g_24, hf_23, hg_25⟩ := (show tp_ai cy 37 (8) (f_1 x_18) from hI.at hx_18)
    refine tp_alen (cy := cy) (t0 := 0) (v := 8) hx hb hK hP hx_18.1 rfl hf_23 rfl dX11_findGiven_20 ?_
    refine lv_icmp_ge (tgt := 71) hx hb dX11_findGiven_21 (by decide) (fun c_26 => ?_) (fun c_26 => ?_)
    · have c_26 : (8 : Int) ≤ v3.toInt := tl_le c_26
      refine lv_lload_n hx hb dX11_findGiven_71 rfl (lv_at hl 1 rfl) ?_
      exact W.lret (v := v1) hx hb hr (fun t ht hW => ⟨⟨_, f_1, rfl, trivial, by rw [ht]; exact hP, hI, hfr⟩, hS.F ht⟩) hS.2.2 dX11_findGiven_72
    · have c_26 : v3.toInt < (8 : Int) := tl_nle c_26
      refine lv_aload_n hx hb dX11_findGiven_24 rfl (lv_at hl 2 rfl) ?_
      refine tp_get (cy := cy) (ci := 11) (v := .ref x_7) (C := RX11) (T := TX11) (N := 16) hx hb hta inlX11 hown hK hP ho.1 ((tp_un hfr ho (by decide)).trans hf_2) rfl 4 (by decide) (hta _ wk_22) (fun _ h9 => h9) rfl dX11_findGiven_25 ?_
      refine lv_iload_n hx hb dX11_findGiven_28 rfl (lv_at hl 0 rfl) ?_
      refine tl_sq (tq_rVN hN (As := [.int v3]) (rest := []) ⟨hx, hb, hml, hown, hta⟩ (tp_P.pre hK hN hL hU hI hP) (tp_recv hK hP hx_7.1 ((tp_un hfr hx_7 (by decide)).trans hf_19) rfl) lk_X11_201 (t_X8_at l D cy H.size L K Γ f_1 8 x_7 v3 hx_7 (by first | omega | (simp only [Int32.toInt_toInt64]; omega) | decide | assumption)) rfl rfl ⟨Nat.le_of_ble_eq_true rfl, Nat.le_of_ble_eq_true rfl⟩ rfl hl.1 rfl (Nat.le_of_ble_eq_true rfl) dX11_findGiven_29 ⟨Nat.le_of_ble_eq_true rfl, Nat.le_of_ble_eq_true rfl⟩) (fun r_28 hw_27 => ?_)
      rcases r_28 with _ | b_29
      · refine W.eq (g2 := F0 m 32 ls ([.null])) (by rfl) ?_
        refine lv_astoreN (lv' := [(4, .null), (3, .int v3), (1, .long v1), (0, .ref o)]) hx hb dX11_findGiven_32 hl (by decide) rfl (fun ls hl => ?_)
        refine lv_aload_n hx hb dX11_findGiven_34 rfl (lv_at hl 3 rfl) ?_
        refine tp_get (cy := cy) (ci := 11) (v := .ref x_18) (C := RX11) (T := TX11) (N := 16) hx hb hta inlX11 hown hK hP ho.1 ((tp_un hfr ho (by decide)).trans hf_2) rfl 15 (by decide) (hta _ wk_53) (fun _ h9 => h9) rfl dX11_findGiven_35 ?_
        refine lv_iload_n hx hb dX11_findGiven_38 rfl (lv_at hl 1 rfl) ?_
        refine lv_aloadN hx hb dX11_findGiven_39 (lv_at hl 0 rfl) ?_
        refine lv_ifnonnullN hx hb dX11_findGiven_41 ?_
        refine lv_iconst (v := 0) hx hb dX11_findGiven_44 (by decide) ?_
        refine lv_goto (tgt := 54) hx hb dX11_findGiven_45 (by decide) ?_
        have hn_30 : vp_in v3 (8) := tl_in (by omega) (by omega)
        have hI9 : tp_I cy L K Γ (va_up f_1 x_18 (.inl (cy 0, 8, .inl (upd g_24 v3.toNatClampNeg 0)))) := hI.set hx_18 (show tp_ai cy 37 (8) _ from ⟨_, rfl, tp_pi_upd hg_25 trivial⟩)
        have hfr9 : ∀ b, (K b).1 ∉ ([23, 24, 37] : List Nat) → va_up f_1 x_18 (.inl (cy 0, 8, .inl (upd g_24 v3.toNatClampNeg 0))) b = f b := tp_fr hfr hx_18 (by decide)
        refine tp_iast (cy := cy) hx hb hK hP hD hS hx_18.1 hf_23 hn_30 dX11_findGiven_54 (fun H locs hP hD hS => ?_)
        have hP : va_P D vwCl (va_pl L (va_up f_1 x_18 (.inl (cy 0, 8, .inl (upd g_24 v3.toNatClampNeg 0))))) H := hP
        generalize hfe : va_up f_1 x_18 (.inl (cy 0, 8, .inl (upd g_24 v3.toNatClampNeg 0))) = f_31 at hP hI9 hfr9
        have hD : va_D A (va_pl L f_31) := tp_D hL hAL
        have hf_32 : f_31 x_18 = .inl (cy 0, 8, .inl (upd g_24 v3.toNatClampNeg 0)) := by rw [← hfe]; exact va_up_self _ _ _
        clear hfe
        have hI := hI9
        have hfr := hfr9
        clear hI9 hfr9
        refine lv_lload_n hx hb dX11_findGiven_55 rfl (lv_at hl 2 rfl) ?_
        refine lv_aload_n hx hb dX11_findGiven_56 rfl (lv_at hl 3 rfl) ?_
        refine tp_get (cy := cy) (ci := 11) (v := .ref x_18) (C := RX11) (T := TX11) (N := 16) hx hb hta inlX11 hown hK hP ho.1 ((tp_un hfr ho (by decide)).trans hf_2) rfl 15 (by decide) (hta _ wk_53) (fun _ h9 => h9) rfl dX11_findGiven_57 ?_
        refine lv_iload_n hx hb dX11_findGiven_60 rfl (lv_at hl 1 rfl) ?_
        obtain ⟨g_34, hf_33, hg_35⟩ := (show tp_ai cy 37 (8) (f_31 x_18) from hI.at hx_18)
        have hn_36 : vp_in v3 (8) := tl_in (by omega) (by omega)
        refine tp_iald (cy := cy) hx hb hK hP hx_18.1 hf_33 hn_36 dX11_findGiven_61 ?_
        refine lv_topi (fun z_37 ez_37 => ?_)
        refine lv_i2l (v := z_37.toInt64) hx hb dX11_findGiven_62 (by first | rfl | decide) ?_
        refine lv_ladd hx hb dX11_findGiven_63 ?_
        refine lv_topl (fun z_38 ez_38 => ?_)
        refine lv_lstore_n (lv' := [(1, .long z_38), (4, .null), (3, .int v3), (0, .ref o)]) hx hb dX11_findGiven_64 rfl hl (by decide) rfl (fun ls hl => ?_)
        obtain ⟨z_39, ez_39⟩ : ∃ y : Int32, y = v3 + 1 := ⟨_, rfl⟩
        refine lv_iinc (v := z_39) (lv' := [(3, .int z_39), (1, .long z_38), (4, .null), (0, .ref o)]) hx hb dX11_findGiven_65 hl (k := 2) rfl (by rw [ez_39]; rfl) (by decide) rfl (fun ls hl => ?_)
        try have iz_39 : z_39.toInt = v3.toInt + 1 := by rw [ez_39]; exact tl_addL v3 1 (by decide) (by omega) (by omega)
        refine lv_goto (tgt := 4) hx hb dX11_findGiven_68 (by decide) ?_
        exact ih4 (f_31, z_39, z_38) H locs ls (by show (8 - z_39.toInt).toNat < (8 - v3.toInt).toNat; omega) ⟨(show 0 ≤ z_39.toInt from (by omega)), (show z_39.toInt ≤ 8 from (by omega)), hP, hI, hfr, hS, lv_sub hl [0, 1, 3] rfl⟩
      · have hb_29 := hw_27 _ rfl
        have hb_29 : tp_r L K 18 (0) 0 b_29 := hb_29
        refine W.eq (g2 := F0 m 32 ls ([.ref b_29])) (by rfl) ?_
        refine lv_astore (lv' := [(4, .ref b_29), (3, .int v3), (1, .long v1), (0, .ref o)]) hx hb dX11_findGiven_32 hl (by decide) rfl (fun ls hl => ?_)
        refine lv_aload_n hx hb dX11_findGiven_34 rfl (lv_at hl 3 rfl) ?_
        refine tp_get (cy := cy) (ci := 11) (v := .ref x_18) (C := RX11) (T := TX11) (N := 16) hx hb hta inlX11 hown hK hP ho.1 ((tp_un hfr ho (by decide)).trans hf_2) rfl 15 (by decide) (hta _ wk_53) (fun _ h9 => h9) rfl dX11_findGiven_35 ?_
        refine lv_iload_n hx hb dX11_findGiven_38 rfl (lv_at hl 1 rfl) ?_
        refine lv_aload hx hb dX11_findGiven_39 (lv_at hl 0 rfl) ?_
        refine lv_ifnonnull (tgt := 48) hx hb dX11_findGiven_41 (by decide) ?_
        refine lv_aload_n hx hb dX11_findGiven_48 rfl (lv_at hl 3 rfl) ?_
        refine lv_aload hx hb dX11_findGiven_49 (lv_at hl 0 rfl) ?_
        refine tq_ci hS (hAf _ hS.1) (tq_rV (As := [.ref b_29]) (rest := [.int v3, .ref x_18]) ⟨hx, hb, hml, hown, hta⟩ (tp_P.pre hK hN hL hU hI hP) (tp_recv hK hP ho.1 ((tp_un hfr ho (by decide)).trans hf_2) rfl) lk_X11_471 (t_X11_givenBy l D cy H.size L K Γ f_1 o b_29 ho hb_29) rfl rfl ⟨Nat.le_of_ble_eq_true rfl, Nat.le_of_ble_eq_true rfl⟩ rfl hl.1 rfl (Nat.le_of_ble_eq_true rfl) dX11_findGiven_51 ⟨Nat.le_of_ble_eq_true rfl, Nat.le_of_ble_eq_true rfl⟩) (fun r_41 f_42 H locs hw_40 hP hI hc_43 hS => ?_)
        have hD : va_D A (va_pl L f_42) := tp_D hL hAL
        have hfr := tp_fr2 hfr hc_43 (by decide)
        have hf_44 := (tp_un hc_43 hx_18 (by decide)).trans hf_23
        have hn_45 : vp_in v3 (8) := tl_in (by omega) (by omega)
        have hI9 : tp_I cy L K Γ (va_up f_42 x_18 (.inl (cy 0, 8, .inl (upd g_24 v3.toNatClampNeg r_41)))) := hI.set hx_18 (show tp_ai cy 37 (8) _ from ⟨_, rfl, tp_pi_upd hg_25 trivial⟩)
        have hfr9 : ∀ b, (K b).1 ∉ ([23, 24, 37] : List Nat) → va_up f_42 x_18 (.inl (cy 0, 8, .inl (upd g_24 v3.toNatClampNeg r_41))) b = f b := tp_fr hfr hx_18 (by decide)
        refine tp_iast (cy := cy) hx hb hK hP hD hS hx_18.1 hf_44 hn_45 dX11_findGiven_54 (fun H locs hP hD hS => ?_)
        have hP : va_P D vwCl (va_pl L (va_up f_42 x_18 (.inl (cy 0, 8, .inl (upd g_24 v3.toNatClampNeg r_41))))) H := hP
        generalize hfe : va_up f_42 x_18 (.inl (cy 0, 8, .inl (upd g_24 v3.toNatClampNeg r_41))) = f_46 at hP hI9 hfr9
        have hD : va_D A (va_pl L f_46) := tp_D hL hAL
        have hf_47 : f_46 x_18 = .inl (cy 0, 8, .inl (upd g_24 v3.toNatClampNeg r_41)) := by rw [← hfe]; exact va_up_self _ _ _
        clear hfe
        have hI := hI9
        have hfr := hfr9
        clear hI9 hfr9
        refine lv_lload_n hx hb dX11_findGiven_55 rfl (lv_at hl 2 rfl) ?_
        refine lv_aload_n hx hb dX11_findGiven_56 rfl (lv_at hl 3 rfl) ?_
        refine tp_get (cy := cy) (ci := 11) (v := .ref x_18) (C := RX11) (T := TX11) (N := 16) hx hb hta inlX11 hown hK hP ho.1 ((tp_un hfr ho (by decide)).trans hf_2) rfl 15 (by decide) (hta _ wk_53) (fun _ h9 => h9) rfl dX11_findGiven_57 ?_
        refine lv_iload_n hx hb dX11_findGiven_60 rfl (lv_at hl 1 rfl) ?_
        obtain ⟨g_49, hf_48, hg_50⟩ := (show tp_ai cy 37 (8) (f_46 x_18) from hI.at hx_18)
        have hn_51 : vp_in v3 (8) := tl_in (by omega) (by omega)
        refine tp_iald (cy := cy) hx hb hK hP hx_18.1 hf_48 hn_51 dX11_findGiven_61 ?_
        refine lv_topi (fun z_52 ez_52 => ?_)
        refine lv_i2l (v := z_52.toInt64) hx hb dX11_findGiven_62 (by first | rfl | decide) ?_
        refine lv_ladd hx hb dX11_findGiven_63 ?_
        refine lv_topl (fun z_53 ez_53 => ?_)
        refine lv_lstore_n (lv' := [(1, .long z_53), (4, .ref b_29), (3, .int v3), (0, .ref o)]) hx hb dX11_findGiven_64 rfl hl (by decide) rfl (fun ls hl => ?_)
        obtain ⟨z_54, ez_54⟩ : ∃ y : Int32, y = v3 + 1 := ⟨_, rfl⟩
        refine lv_iinc (v := z_54) (lv' := [(3, .int z_54), (1, .long z_53), (4, .ref b_29), (0, .ref o)]) hx hb dX11_findGiven_65 hl (k := 2) rfl (by rw [ez_54]; rfl) (by decide) rfl (fun ls hl => ?_)
        try have iz_54 : z_54.toInt = v3.toInt + 1 := by rw [ez_54]; exact tl_addL v3 1 (by decide) (by omega) (by omega)
        refine lv_goto (tgt := 4) hx hb dX11_findGiven_68 (by decide) ?_
        exact ih4 (f_46, z_54, z_53) H locs ls (by show (8 - z_54.toInt).toNat < (8 - v3.toInt).toNat; omega) ⟨(show 0 ≤ z_54.toInt from (by omega)), (show z_54.toInt ≤ 8 from (by omega)), hP, hI, hfr, hS, lv_sub hl [0, 1, 3] rfl⟩
set_option maxHeartbeats 4000000 in
set_option maxRecDepth 100000 in
theorem t_X11_gives (l : Launch) (D : va_G) (cy : Nat → ClassId) (sz : Nat) (L : List Nat) (K : Nat → tk_K) (Γ : tk_G) (f : Nat → va_E) (o : Nat) (p0 : Int32) (ho : tp_r L K 0 (0) 0 o) : Met l yX11_gives (tl_w yX11_gives cX11_gives 3 (some .int)) ({ frames := 4, cells := 0, slots := 0, locals := 99 }) (va_Pc [.ref o, .int p0] (tp_P D cy L K Γ f sz)) (va_Qi (fun (r : Int32) (u : Nat → va_E) => True) (tp_B D cy L K Γ f [23, 24]) (tp_A L sz)) 0 0 (tp_A L sz) := by
  refine Met.ofW (cc := cX11_gives) (maxL := 3) (ret := (some .int)) (by decide) rfl ?_
  intro p e s m args below meth c s₁ B hml hv
  obtain ⟨rfl, hsz, hP, hK, hL, hI, hN, hU⟩ := hv
  have hx := B.exec
  have hb := B.bytes
  have hr := B.returns
  have hta := tl_hta (atoms_spec (ws := tl_w yX11_gives cX11_gives 3 (some .int)) B.pre)
  have hown : s.vm.findClass RX11 = some m.cls := findClass_of_methodNamed B.named
  have hlocks := B.notSynchronized
  subst hsz
  have hI0 := hI
  generalize hAe : tp_A L s.heap.size = A
  have hA : ∀ q : Nat, s.heap.size ≤ q → A q := fun q h => by rw [← hAe]; exact Or.inr h
  have hAL : ∀ q ∈ L, A q := fun q h => by rw [← hAe]; exact Or.inl h
  have hAf : ∀ (H : Heap), s.heap.size ≤ H.size → ∀ q, tp_A L H.size q → A q := fun H h q hq => hq.elim (hAL q) (fun h2 => hA q (Nat.le_trans h h2))
  have hS : va_S A s.heap s.heap [] := va_S.rf
  have hD : va_D A (va_pl L f) := tp_D hL hAL
  have hfr : ∀ b, (K b).1 ∉ ([23, 24] : List Nat) → f b = f b := fun _ _ => rfl
  have hl := lv_entry ([.ref o, .int p0]) (n := 3) (Nat.le_of_ble_eq_true rfl)
  rw [lg_entry_eq]
  generalize (lg_sl ([.ref o, .int p0]) ++ List.replicate (3 - (lg_sl ([.ref o, .int p0])).length) Slot.unset).toArray = ls at hl ⊢
  have hl : lv_has ls 3 [(0, .ref o), (1, .int p0)] := hl
  refine lv_aload_n hx hb dX11_gives_0 rfl (lv_at hl 0 rfl) ?_
  obtain ⟨x_2, x_3, x_4, x_5, x_6, x_7, x_8, x_9, x_10, x_11, x_12, x_13, x_14, x_15, x_16, x_17, hf_1, hx_2, hx_3, hx_4, hx_5, hx_6, hx_7, hx_8, hx_9, hx_10, hx_11, hx_12, hx_13, hx_14, hx_15, hx_16, hx_17⟩ := (show tp_o_X L K (0) 0 (Γ (0, 0, 0)) (f o) from hI0.at ho)
  refine tp_get (cy := cy) (ci := 11) (v := .ref x_6) (C := RX11) (T := TX11) (N := 16) hx hb hta inlX11 hown hK hP ho.1 hf_1 rfl 4 (by decide) (hta _ wk_22) (fun _ h9 => h9) rfl dX11_gives_1 ?_
  refine lv_iload_n hx hb dX11_gives_4 rfl (lv_at hl 1 rfl) ?_
  obtain ⟨x_19, x_20, hf_18, hx_19, hx_20⟩ := (show tp_o_TEXTS L K (8) 0 (Γ (13, 8, 0)) (f x_6) from hI0.at hx_6)
  refine tl_sq (tq_rVN hN (As := [.int p0]) (rest := []) ⟨hx, hb, hml, hown, hta⟩ (tp_P.pre hK hN hL hU hI hP) (tp_recv hK hP hx_6.1 hf_18 rfl) lk_X11_201 (t_X8_at l D cy s.heap.size L K Γ f 8 x_6 p0 hx_6 (by first | omega | (simp only [Int32.toInt_toInt64]; omega) | decide | assumption)) rfl rfl ⟨Nat.le_of_ble_eq_true rfl, Nat.le_of_ble_eq_true rfl⟩ rfl hl.1 rfl (Nat.le_of_ble_eq_true rfl) dX11_gives_5 ⟨Nat.le_of_ble_eq_true rfl, Nat.le_of_ble_eq_true rfl⟩) (fun r_22 hw_21 => ?_)
  rcases r_22 with _ | b_23
  · refine W.eq (g2 := F0 m 8 ls ([.null])) (by rfl) ?_
    refine lv_astore_nN (lv' := [(2, .null), (0, .ref o), (1, .int p0)]) hx hb dX11_gives_8 rfl hl (by decide) rfl (fun ls hl => ?_)
    refine lv_aload_nN hx hb dX11_gives_9 rfl (lv_at hl 0 rfl) ?_
    refine lv_ifnonnullN hx hb dX11_gives_10 ?_
    refine lv_iconst (v := (-1)) hx hb dX11_gives_13 (by decide) ?_
    refine lv_goto (tgt := 22) hx hb dX11_gives_14 (by decide) ?_
    exact W.iret (v := (-1)) hx hb hr (fun t ht hW => ⟨⟨_, f, rfl, trivial, by rw [ht]; exact hP, hI, hfr⟩, hS.F ht⟩) hS.2.2 dX11_gives_22
  · have hb_23 := hw_21 _ rfl
    have hb_23 : tp_r L K 18 (0) 0 b_23 := hb_23
    refine W.eq (g2 := F0 m 8 ls ([.ref b_23])) (by rfl) ?_
    refine lv_astore_n (lv' := [(2, .ref b_23), (0, .ref o), (1, .int p0)]) hx hb dX11_gives_8 rfl hl (by decide) rfl (fun ls hl => ?_)
    refine lv_aload_n hx hb dX11_gives_9 rfl (lv_at hl 0 rfl) ?_
    refine lv_ifnonnull (tgt := 17) hx hb dX11_gives_10 (by decide) ?_
    refine lv_aload_n hx hb dX11_gives_17 rfl (lv_at hl 1 rfl) ?_
    refine lv_aload_n hx hb dX11_gives_18 rfl (lv_at hl 0 rfl) ?_
    refine tq_ci hS (hAf _ hS.1) (tq_rV (As := [.ref b_23]) (rest := []) ⟨hx, hb, hml, hown, hta⟩ (tp_P.pre hK hN hL hU hI hP) (tp_recv hK hP ho.1 hf_1 rfl) lk_X11_471 (t_X11_givenBy l D cy s.heap.size L K Γ f o b_23 ho hb_23) rfl rfl ⟨Nat.le_of_ble_eq_true rfl, Nat.le_of_ble_eq_true rfl⟩ rfl hl.1 rfl (Nat.le_of_ble_eq_true rfl) dX11_gives_19 ⟨Nat.le_of_ble_eq_true rfl, Nat.le_of_ble_eq_true rfl⟩) (fun r_25 f_26 H locs hw_24 hP hI hc_27 hS => ?_)
    have hD : va_D A (va_pl L f_26) := tp_D hL hAL
    have hfr := tp_fr2 hfr hc_27 (by decide)
    exact W.iret (v := r_25) hx hb hr (fun t ht hW => ⟨⟨_, f_26, rfl, trivial, by rw [ht]; exact hP, hI, hfr⟩, hS.F ht⟩) hS.2.2 dX11_gives_22
set_option maxHeartbeats 4000000 in
set_option maxRecDepth 100000 in
theorem t_X11_brief (l : Launch) (D : va_G) (cy : Nat → ClassId) (sz : Nat) (L : List Nat) (K : Nat → tk_K) (Γ : tk_G) (f : Nat → va_E) (o : Nat) (p0 : Int32) (ho : tp_r L K 0 (0) 0 o) : Met l yX11_brief (tl_w yX11_brief cX11_brief 2 (some .int)) ({ frames := 5, cells := 0, slots := 0, locals := 123 }) (va_Pc [.ref o, .int p0] (tp_P D cy L K Γ f sz)) (va_Qi (fun (r : Int32) (u : Nat → va_E) => True) (tp_B D cy L K Γ f [23, 24, 37]) (tp_A L sz)) 0 0 (tp_A L sz) := by
  refine Met.ofW (cc := cX11_brief) (maxL := 2) (ret := (some .int)) (by decide) rfl ?_
  intro p e s m args below meth c s₁ B hml hv
  obtain ⟨rfl, hsz, hP, hK, hL, hI, hN, hU⟩ := hv
  have hx := B.exec
  have hb := B.bytes
  have hr := B.returns
  have hta := tl_hta (atoms_spec (ws := tl_w yX11_brief cX11_brief 2 (some .int)) B.pre)
  have hown : s.vm.findClass RX11 = some m.cls := findClass_of_methodNamed B.named
  have hlocks := B.notSynchronized
  subst hsz
  have hI0 := hI
  generalize hAe : tp_A L s.heap.size = A
  have hA : ∀ q : Nat, s.heap.size ≤ q → A q := fun q h => by rw [← hAe]; exact Or.inr h
  have hAL : ∀ q ∈ L, A q := fun q h => by rw [← hAe]; exact Or.inl h
  have hAf : ∀ (H : Heap), s.heap.size ≤ H.size → ∀ q, tp_A L H.size q → A q := fun H h q hq => hq.elim (hAL q) (fun h2 => hA q (Nat.le_trans h h2))
  have hS : va_S A s.heap s.heap [] := va_S.rf
  have hD : va_D A (va_pl L f) := tp_D hL hAL
  have hfr : ∀ b, (K b).1 ∉ ([23, 24, 37] : List Nat) → f b = f b := fun _ _ => rfl
  have hl := lv_entry ([.ref o, .int p0]) (n := 2) (Nat.le_of_ble_eq_true rfl)
  rw [lg_entry_eq]
  generalize (lg_sl ([.ref o, .int p0]) ++ List.replicate (2 - (lg_sl ([.ref o, .int p0])).length) Slot.unset).toArray = ls at hl ⊢
  have hl : lv_has ls 2 [(0, .ref o), (1, .int p0)] := hl
  refine lv_iload_n hx hb dX11_brief_0 rfl (lv_at hl 1 rfl) ?_
  refine tl_si (tq_rS (As := [.int p0]) (rest := []) ⟨hx, hb, hml, hown, hta⟩ (tp_P.pre hK hN hL hU hI hP) lk_X11_474 (t_X11_isNeed l D cy s.heap.size L K Γ f p0 ) rfl rfl ⟨Nat.le_of_ble_eq_true rfl, Nat.le_of_ble_eq_true rfl⟩ rfl hl.1 rfl (Nat.le_of_ble_eq_true rfl) dX11_brief_1 ⟨Nat.le_of_ble_eq_true rfl, Nat.le_of_ble_eq_true rfl⟩) (fun r_2 hw_1 => ?_)
  have hw_1 : tl_E r_2 (0 ≤ p0.toInt ∧ p0.toInt ≤ 999999999) 1 0 := hw_1
  refine lv_if_ne (tgt := 9) hx hb dX11_brief_4 (by decide) (fun c_3 => ?_) (fun c_3 => ?_)
  · have c_3 := hw_1.t c_3
    refine lv_lconst (v := 0) hx hb dX11_brief_9 (by decide) ?_
    refine lv_iload_n hx hb dX11_brief_10 rfl (lv_at hl 1 rfl) ?_
    refine lv_i2l (v := p0.toInt64) hx hb dX11_brief_11 (by first | rfl | decide) ?_
    refine lv_aload_n hx hb dX11_brief_12 rfl (lv_at hl 0 rfl) ?_
    obtain ⟨x_5, x_6, x_7, x_8, x_9, x_10, x_11, x_12, x_13, x_14, x_15, x_16, x_17, x_18, x_19, x_20, hf_4, hx_5, hx_6, hx_7, hx_8, hx_9, hx_10, hx_11, hx_12, hx_13, hx_14, hx_15, hx_16, hx_17, hx_18, hx_19, hx_20⟩ := (show tp_o_X L K (0) 0 (Γ (0, 0, 0)) (f o) from hI0.at ho)
    refine tq_cl hS (hAf _ hS.1) (tq_rV (As := []) (rest := [.long p0.toInt64, .long 0]) ⟨hx, hb, hml, hown, hta⟩ (tp_P.pre hK hN hL hU hI hP) (tp_recv hK hP ho.1 hf_4 rfl) lk_X11_477 (t_X11_findGiven l D cy s.heap.size L K Γ f o ho) rfl rfl ⟨Nat.le_of_ble_eq_true rfl, Nat.le_of_ble_eq_true rfl⟩ rfl hl.1 rfl (Nat.le_of_ble_eq_true rfl) dX11_brief_13 ⟨Nat.le_of_ble_eq_true rfl, Nat.le_of_ble_eq_true rfl⟩) (fun r_22 f_23 H locs hw_21 hP hI hc_24 hS => ?_)
    have hD : va_D A (va_pl L f_23) := tp_D hL hAL
    have hfr := tp_fr2 hfr hc_24 (by decide)
    refine lv_lsub hx hb dX11_brief_16 ?_
    refine lv_topl (fun z_25 ez_25 => ?_)
    refine va_mmax_long hx hb (by rw [hml]; exact hl.1.symm) hown (hta _ wk_762) (hta _ wk_763) (hta _ wk_83) (hta _ wk_764) (Nat.le_of_ble_eq_true rfl) (Nat.le_of_ble_eq_true rfl) (Nat.le_of_ble_eq_true rfl) (Nat.le_of_ble_eq_true rfl) dX11_brief_17 ?_
    refine lv_topl (fun z_26 ez_26 => ?_)
    have iz_26 : (z_26.toInt = (z_25 : Int64).toInt ∧ (0 : Int64).toInt ≤ (z_25 : Int64).toInt) ∨ (z_26.toInt = (0 : Int64).toInt ∧ (z_25 : Int64).toInt ≤ (0 : Int64).toInt) := by rw [ez_26]; exact tl_maxFL.symm
    refine lv_l2i hx hb dX11_brief_20 rfl ?_
    refine lv_topi (fun z_27 ez_27 => ?_)
    exact W.iret (v := z_27) hx hb hr (fun t ht hW => ⟨⟨_, f_23, rfl, trivial, by rw [ht]; exact hP, hI, hfr⟩, hS.F ht⟩) hS.2.2 dX11_brief_21
  · have c_3 := hw_1.f c_3
    refine lv_iconst (v := (-1)) hx hb dX11_brief_7 (by decide) ?_
    exact W.iret (v := (-1)) hx hb hr (fun t ht hW => ⟨⟨_, f, rfl, trivial, by rw [ht]; exact hP, hI, hfr⟩, hS.F ht⟩) hS.2.2 dX11_brief_8
set_option maxHeartbeats 4000000 in
set_option maxRecDepth 100000 in
theorem t_X11_givenTogether (l : Launch) (D : va_G) (cy : Nat → ClassId) (sz : Nat) (L : List Nat) (K : Nat → tk_K) (Γ : tk_G) (f : Nat → va_E) (o : Nat) (p0 : Int32) (ho : tp_r L K 0 (0) 0 o) : Met l yX11_givenTogether (tl_w yX11_givenTogether cX11_givenTogether 5 (some .long)) ({ frames := 0, cells := 0, slots := 0, locals := 0 }) (va_Pc [.ref o, .int p0] (tp_P D cy L K Γ f sz)) (vp_Sl (fun r : Int64 => True)) 0 0 (fun _ => False) := by
  refine Met.ofW (cc := cX11_givenTogether) (maxL := 5) (ret := (some .long)) (by decide) rfl ?_
  intro p e s m args below meth c s₁ B hml hv
  obtain ⟨rfl, hsz, hP, hK, hL, hI, hN, hU⟩ := hv
  have hx := B.exec
  have hb := B.bytes
  have hr := B.returns
  have hta := tl_hta (atoms_spec (ws := tl_w yX11_givenTogether cX11_givenTogether 5 (some .long)) B.pre)
  have hown : s.vm.findClass RX11 = some m.cls := findClass_of_methodNamed B.named
  have hlocks := B.notSynchronized
  subst hsz
  have hI0 := hI
  have hl := lv_entry ([.ref o, .int p0]) (n := 5) (Nat.le_of_ble_eq_true rfl)
  rw [lg_entry_eq]
  generalize (lg_sl ([.ref o, .int p0]) ++ List.replicate (5 - (lg_sl ([.ref o, .int p0])).length) Slot.unset).toArray = ls at hl ⊢
  have hl : lv_has ls 5 [(0, .ref o), (1, .int p0)] := hl
  refine lv_lconst (v := 0) hx hb dX11_givenTogether_0 (by decide) ?_
  refine lv_lstore_n (lv' := [(2, .long 0), (0, .ref o), (1, .int p0)]) hx hb dX11_givenTogether_1 rfl hl (by decide) rfl (fun ls hl => ?_)
  refine lv_iconst (v := 0) hx hb dX11_givenTogether_2 (by decide) ?_
  refine lv_istore (lv' := [(4, .int 0), (2, .long 0), (0, .ref o), (1, .int p0)]) hx hb dX11_givenTogether_3 hl (by decide) rfl (fun ls hl => ?_)
  refine tl_indR (G := fun ls => W p l e ((headSpec (tl_w yX11_givenTogether cX11_givenTogether 5 (some .long)) ({ frames := 0, cells := 0, slots := 0, locals := 0 })).room) s m #[.ref o, .int p0] below meth c s.heap [] 0 0 (MQ below (vp_Sl (fun r : Int64 => True)) #[.ref o, .int p0] s 0 0 (fun _ => False)) (F0 m 5 ls [])) (α := Int32 × Int64) (fun aq => (8 - aq.1.toInt).toNat) (fun aq ls => (0 ≤ aq.1.toInt) ∧ (aq.1.toInt ≤ 8) ∧ lv_has ls 5 [(4, .int aq.1), (2, .long aq.2), (0, .ref o), (1, .int p0)]) ?_ ((0 : Int32), (0 : Int64)) ls ⟨(show 0 ≤ (0 : Int) from (by omega)), (show (0 : Int) ≤ 8 from (by omega)), lv_sub hl [0, 1, 2, 3] rfl⟩
  rintro ⟨v4, v2⟩ ls ⟨h0, h1, hl⟩ ih5
  have h0 : 0 ≤ v4.toInt := h0
  have h1 : v4.toInt ≤ 8 := h1
  have hl : lv_has ls 5 [(4, .int v4), (2, .long v2), (0, .ref o), (1, .int p0)] := hl
  refine lv_iload hx hb dX11_givenTogether_5 (lv_at hl 0 rfl) ?_
  refine lv_aload_n hx hb dX11_givenTogether_7 rfl (lv_at hl 2 rfl) ?_
  obtain ⟨x_2, x_3, x_4, x_5, x_6, x_7, x_8, x_9, x_10, x_11, x_12, x_13, x_14, x_15, x_16, x_17, hf_1, hx_2, hx_3, hx_4, hx_5, hx_6, hx_7, hx_8, hx_9, hx_10, hx_11, hx_12, hx_13, hx_14, hx_15, hx_16, hx_17⟩ := (show tp_o_X L K (0) 0 (Γ (0, 0, 0)) (f o) from hI0.at ho)
  refine tp_get (cy := cy) (ci := 11) (v := .ref x_17) (C := RX11) (T := TX11) (N := 16) hx hb hta inlX11 hown hK hP ho.1 hf_1 rfl 15 (by decide) (hta _ wk_53) (fun _ h9 => h9) rfl dX11_givenTogether_8 ?_
  obtain ⟨g_19, hf_18, hg_20⟩ := (show tp_ai cy 37 (8) (f x_17) from hI0.at hx_17)
  refine tp_alen (cy := cy) (t0 := 0) (v := 8) hx hb hK hP hx_17.1 rfl hf_18 rfl dX11_givenTogether_11 ?_
  refine lv_icmp_ge (tgt := 39) hx hb dX11_givenTogether_12 (by decide) (fun c_21 => ?_) (fun c_21 => ?_)
  · have c_21 : (8 : Int) ≤ v4.toInt := tl_le c_21
    refine lv_lload_n hx hb dX11_givenTogether_39 rfl (lv_at hl 1 rfl) ?_
    exact W.lret (v := v2) hx hb hr (fun t ht hW => ⟨_, rfl, trivial, ht⟩) (fun q h => by cases h) dX11_givenTogether_40
  · have c_21 : v4.toInt < (8 : Int) := tl_nle c_21
    refine lv_lload_n hx hb dX11_givenTogether_15 rfl (lv_at hl 1 rfl) ?_
    refine lv_iload_n hx hb dX11_givenTogether_16 rfl (lv_at hl 3 rfl) ?_
    refine lv_iload hx hb dX11_givenTogether_17 (lv_at hl 0 rfl) ?_
    refine lv_ishr hx hb dX11_givenTogether_19 ?_
    refine lv_topi (fun z_22 ez_22 => ?_)
    refine lv_iconst (v := 1) hx hb dX11_givenTogether_20 (by decide) ?_
    refine lv_iand hx hb dX11_givenTogether_21 ?_
    refine lv_topi (fun z_23 ez_23 => ?_)
    refine lv_aload_n hx hb dX11_givenTogether_22 rfl (lv_at hl 2 rfl) ?_
    refine tp_get (cy := cy) (ci := 11) (v := .ref x_17) (C := RX11) (T := TX11) (N := 16) hx hb hta inlX11 hown hK hP ho.1 hf_1 rfl 15 (by decide) (hta _ wk_53) (fun _ h9 => h9) rfl dX11_givenTogether_23 ?_
    refine lv_iload hx hb dX11_givenTogether_26 (lv_at hl 0 rfl) ?_
    have hn_24 : vp_in v4 (8) := tl_in (by omega) (by omega)
    refine tp_iald (cy := cy) hx hb hK hP hx_17.1 hf_18 hn_24 dX11_givenTogether_28 ?_
    refine lv_topi (fun z_25 ez_25 => ?_)
    refine lv_imul hx hb dX11_givenTogether_29 ?_
    refine lv_topi (fun z_26 ez_26 => ?_)
    try have iz_26 : z_26.toInt = z_23.toInt * z_25.toInt := by rw [ez_26]; exact tl_mulN z_23 z_25 rfl rfl (by omega) (by omega)
    refine lv_i2l (v := z_26.toInt64) hx hb dX11_givenTogether_30 (by first | rfl | decide) ?_
    refine lv_ladd hx hb dX11_givenTogether_31 ?_
    refine lv_topl (fun z_27 ez_27 => ?_)
    refine lv_lstore_n (lv' := [(2, .long z_27), (4, .int v4), (0, .ref o), (1, .int p0)]) hx hb dX11_givenTogether_32 rfl hl (by decide) rfl (fun ls hl => ?_)
    obtain ⟨z_28, ez_28⟩ : ∃ y : Int32, y = v4 + 1 := ⟨_, rfl⟩
    refine lv_iinc (v := z_28) (lv' := [(4, .int z_28), (2, .long z_27), (0, .ref o), (1, .int p0)]) hx hb dX11_givenTogether_33 hl (k := 1) rfl (by rw [ez_28]; rfl) (by decide) rfl (fun ls hl => ?_)
    try have iz_28 : z_28.toInt = v4.toInt + 1 := by rw [ez_28]; exact tl_addL v4 1 (by decide) (by omega) (by omega)
    refine lv_goto (tgt := 5) hx hb dX11_givenTogether_36 (by decide) ?_
    exact ih5 (z_28, z_27) ls (by show (8 - z_28.toInt).toNat < (8 - v4.toInt).toNat; omega) ⟨(show 0 ≤ z_28.toInt from (by omega)), (show z_28.toInt ≤ 8 from (by omega)), lv_sub hl [0, 1, 2, 3] rfl⟩
set_option maxHeartbeats 4000000 in
set_option maxRecDepth 100000 in
theorem t_X11_fewest (l : Launch) (D : va_G) (cy : Nat → ClassId) (sz : Nat) (L : List Nat) (K : Nat → tk_K) (Γ : tk_G) (f : Nat → va_E) (o : Nat) (p0 : Int32) (p1 : Int32) (ho : tp_r L K 0 (0) 0 o) : Met l yX11_fewest (tl_w yX11_fewest cX11_fewest 12 (some .int)) ({ frames := 5, cells := 0, slots := 0, locals := 123 }) (va_Pc [.ref o, .int p0, .int p1] (tp_P D cy L K Γ f sz)) (va_Qi (fun (r : Int32) (u : Nat → va_E) => True) (tp_B D cy L K Γ f [23, 24, 37]) (tp_A L sz)) 0 0 (tp_A L sz) := by
  refine Met.ofW (cc := cX11_fewest) (maxL := 12) (ret := (some .int)) (by decide) rfl ?_
  intro p e s m args below meth c s₁ B hml hv
  obtain ⟨rfl, hsz, hP, hK, hL, hI, hN, hU⟩ := hv
  have hx := B.exec
  have hb := B.bytes
  have hr := B.returns
  have hta := tl_hta (atoms_spec (ws := tl_w yX11_fewest cX11_fewest 12 (some .int)) B.pre)
  have hown : s.vm.findClass RX11 = some m.cls := findClass_of_methodNamed B.named
  have hlocks := B.notSynchronized
  subst hsz
  have hI0 := hI
  generalize hAe : tp_A L s.heap.size = A
  have hA : ∀ q : Nat, s.heap.size ≤ q → A q := fun q h => by rw [← hAe]; exact Or.inr h
  have hAL : ∀ q ∈ L, A q := fun q h => by rw [← hAe]; exact Or.inl h
  have hAf : ∀ (H : Heap), s.heap.size ≤ H.size → ∀ q, tp_A L H.size q → A q := fun H h q hq => hq.elim (hAL q) (fun h2 => hA q (Nat.le_trans h h2))
  have hS : va_S A s.heap s.heap [] := va_S.rf
  have hD : va_D A (va_pl L f) := tp_D hL hAL
  have hfr : ∀ b, (K b).1 ∉ ([23, 24, 37] : List Nat) → f b = f b := fun _ _ => rfl
  have hl := lv_entry ([.ref o, .int p0, .int p1]) (n := 12) (Nat.le_of_ble_eq_true rfl)
  rw [lg_entry_eq]
  generalize (lg_sl ([.ref o, .int p0, .int p1]) ++ List.replicate (12 - (lg_sl ([.ref o, .int p0, .int p1])).length) Slot.unset).toArray = ls at hl ⊢
  have hl : lv_has ls 12 [(0, .ref o), (1, .int p0), (2, .int p1)] := hl
  refine lv_iload_n hx hb dX11_fewest_0 rfl (lv_at hl 1 rfl) ?_
  refine tl_si (tq_rS (As := [.int p0]) (rest := []) ⟨hx, hb, hml, hown, hta⟩ (tp_P.pre hK hN hL hU hI hP) lk_X11_474 (t_X11_isNeed l D cy s.heap.size L K Γ f p0 ) rfl rfl ⟨Nat.le_of_ble_eq_true rfl, Nat.le_of_ble_eq_true rfl⟩ rfl hl.1 rfl (Nat.le_of_ble_eq_true rfl) dX11_fewest_1 ⟨Nat.le_of_ble_eq_true rfl, Nat.le_of_ble_eq_true rfl⟩) (fun r_2 hw_1 => ?_)
  have hw_1 : tl_E r_2 (0 ≤ p0.toInt ∧ p0.toInt ≤ 999999999) 1 0 := hw_1
  refine lv_if_eq (tgt := 16) hx hb dX11_fewest_4 (by decide) (fun c_3 => ?_) (fun c_3 => ?_)
  · have c_3 := hw_1.f c_3
    refine lv_iconst (v := (-1)) hx hb dX11_fewest_16 (by decide) ?_
    exact W.iret (v := (-1)) hx hb hr (fun t ht hW => ⟨⟨_, f, rfl, trivial, by rw [ht]; exact hP, hI, hfr⟩, hS.F ht⟩) hS.2.2 dX11_fewest_17
  · have c_3 := hw_1.t c_3
    refine lv_iload_n hx hb dX11_fewest_7 rfl (lv_at hl 2 rfl) ?_
    refine lv_iconst (v := 0) hx hb dX11_fewest_8 (by decide) ?_
    refine lv_iconst (v := 1) hx hb dX11_fewest_9 (by decide) ?_
    refine tl_si (tq_rS (As := [.int p1, .int 0, .int 1]) (rest := []) ⟨hx, hb, hml, hown, hta⟩ (tp_P.pre hK hN hL hU hI hP) lk_X11_105 (t_X11_isIn l D cy s.heap.size L K Γ f p1 0 1 ) rfl rfl ⟨Nat.le_of_ble_eq_true rfl, Nat.le_of_ble_eq_true rfl⟩ rfl hl.1 rfl (Nat.le_of_ble_eq_true rfl) dX11_fewest_10 ⟨Nat.le_of_ble_eq_true rfl, Nat.le_of_ble_eq_true rfl⟩) (fun r_5 hw_4 => ?_)
    have hw_4 : tl_E r_5 ((0 : Int) ≤ p1.toInt ∧ p1.toInt ≤ (1 : Int)) 1 0 := hw_4
    refine lv_if_ne (tgt := 18) hx hb dX11_fewest_13 (by decide) (fun c_6 => ?_) (fun c_6 => ?_)
    · have c_6 := hw_4.t c_6
      refine lv_aload_n hx hb dX11_fewest_18 rfl (lv_at hl 0 rfl) ?_
      obtain ⟨x_8, x_9, x_10, x_11, x_12, x_13, x_14, x_15, x_16, x_17, x_18, x_19, x_20, x_21, x_22, x_23, hf_7, hx_8, hx_9, hx_10, hx_11, hx_12, hx_13, hx_14, hx_15, hx_16, hx_17, hx_18, hx_19, hx_20, hx_21, hx_22, hx_23⟩ := (show tp_o_X L K (0) 0 (Γ (0, 0, 0)) (f o) from hI0.at ho)
      refine tq_cl hS (hAf _ hS.1) (tq_rV (As := []) (rest := []) ⟨hx, hb, hml, hown, hta⟩ (tp_P.pre hK hN hL hU hI hP) (tp_recv hK hP ho.1 hf_7 rfl) lk_X11_477 (t_X11_findGiven l D cy s.heap.size L K Γ f o ho) rfl rfl ⟨Nat.le_of_ble_eq_true rfl, Nat.le_of_ble_eq_true rfl⟩ rfl hl.1 rfl (Nat.le_of_ble_eq_true rfl) dX11_fewest_19 ⟨Nat.le_of_ble_eq_true rfl, Nat.le_of_ble_eq_true rfl⟩) (fun r_25 f_26 H locs hw_24 hP hI hc_27 hS => ?_)
      have hD : va_D A (va_pl L f_26) := tp_D hL hAL
      have hfr := tp_fr2 hfr hc_27 (by decide)
      refine lv_iload_n hx hb dX11_fewest_22 rfl (lv_at hl 1 rfl) ?_
      refine lv_i2l (v := p0.toInt64) hx hb dX11_fewest_23 (by first | rfl | decide) ?_
      refine W.lcmp hx hb dX11_fewest_24 ?_
      refine lv_if_ge (tgt := 31) hx hb dX11_fewest_25 (by decide) (fun c_28 => ?_) (fun c_28 => ?_)
      · have c_28 : r_25.toInt ≥ p0.toInt := by have h9 := tl_cmp_ge c_28; simp only [Int32.toInt_toInt64] at h9; exact h9
        refine lv_iconst (v := (-1)) hx hb dX11_fewest_31 (by decide) ?_
        refine lv_istore_n (lv' := [(3, .int (-1)), (0, .ref o), (1, .int p0), (2, .int p1)]) hx hb dX11_fewest_32 rfl hl (by decide) rfl (fun ls hl => ?_)
        refine lv_iconst (v := 0) hx hb dX11_fewest_33 (by decide) ?_
        refine lv_istore (lv' := [(4, .int 0), (3, .int (-1)), (0, .ref o), (1, .int p0), (2, .int p1)]) hx hb dX11_fewest_34 hl (by decide) rfl (fun ls hl => ?_)
        refine lv_lconst (v := 0) hx hb dX11_fewest_36 (by decide) ?_
        refine lv_lstore (lv' := [(5, .long 0), (4, .int 0), (3, .int (-1)), (0, .ref o), (1, .int p0), (2, .int p1)]) hx hb dX11_fewest_37 hl (by decide) rfl (fun ls hl => ?_)
        refine lv_iconst (v := 0) hx hb dX11_fewest_39 (by decide) ?_
        refine lv_istore (lv' := [(7, .int 0), (5, .long 0), (4, .int 0), (3, .int (-1)), (0, .ref o), (1, .int p0), (2, .int p1)]) hx hb dX11_fewest_40 hl (by decide) rfl (fun ls hl => ?_)
        refine tl_ind (G := fun H locs ls => W p l e ((headSpec (tl_w yX11_fewest cX11_fewest 12 (some .int)) ({ frames := 5, cells := 0, slots := 0, locals := 123 })).room) s m #[.ref o, .int p0, .int p1] below meth c H locs 0 0 (MQ below (va_Qi (fun (r : Int32) (u : Nat → va_E) => True) (tp_B D cy L K Γ f [23, 24, 37]) A) #[.ref o, .int p0, .int p1] s 0 0 A) (F0 m 42 ls [])) (α := (Nat → va_E) × Int32 × Int64 × Int32 × Int32) (fun aq => (2147483647 - aq.2.1.toInt).toNat) (fun aq H locs ls => (0 ≤ aq.2.1.toInt) ∧ va_P D vwCl (va_pl L aq.1) H ∧ tp_I cy L K Γ aq.1 ∧ (∀ b, (K b).1 ∉ ([23, 24, 37] : List Nat) → aq.1 b = f b) ∧ va_S A s.heap H locs ∧ lv_has ls 12 [(7, .int aq.2.1), (5, .long aq.2.2.1), (4, .int aq.2.2.2.1), (3, .int aq.2.2.2.2), (0, .ref o), (1, .int p0), (2, .int p1)]) ?_ (f_26, (0 : Int32), (0 : Int64), (0 : Int32), ((-1) : Int32)) H locs ls ⟨(show 0 ≤ (0 : Int) from (by omega)), hP, hI, hfr, hS, lv_sub hl [0, 1, 2, 3, 4, 5, 6] rfl⟩
        rintro ⟨f_29, v7, v5, v4, v3⟩ H locs ls ⟨h0, hP, hI, hfr, hS, hl⟩ ih42
        have hP : va_P D vwCl (va_pl L f_29) H := hP
        have hI : tp_I cy L K Γ f_29 := hI
        have hfr : ∀ b, (K b).1 ∉ ([23, 24, 37] : List Nat) → f_29 b = f b := hfr
        have hD : va_D A (va_pl L f_29) := tp_D hL hAL
        have h0 : 0 ≤ v7.toInt := h0
        have hl : lv_has ls 12 [(7, .int v7), (5, .long v5), (4, .int v4), (3, .int v3), (0, .ref o), (1, .int p0), (2, .int p1)] := hl
        refine lv_iload hx hb dX11_fewest_42 (lv_at hl 0 rfl) ?_
        refine lv_iconst (v := 1) hx hb dX11_fewest_44 (by decide) ?_
        refine lv_aload_n hx hb dX11_fewest_45 rfl (lv_at hl 4 rfl) ?_
        refine tp_get (cy := cy) (ci := 11) (v := .ref x_12) (C := RX11) (T := TX11) (N := 16) hx hb hta inlX11 hown hK hP ho.1 ((tp_un hfr ho (by decide)).trans hf_7) rfl 4 (by decide) (hta _ wk_22) (fun _ h9 => h9) rfl dX11_fewest_46 ?_
        obtain ⟨x_31, x_32, hf_30, hx_31, hx_32⟩ := (show tp_o_TEXTS L K (8) 0 (Γ (13, 8, 0)) (f x_12) from hI0.at hx_12)
        refine tp_getN (cy := cy) (ci := 8) (v := .int x_32) (C := RX8) (T := TX8) (N := 2) hx hb hta inlX8 hown hK hP hx_12.1 ((tp_un hfr hx_12 (by decide)).trans hf_30) rfl 1 (by decide) (va_Nw.use rfl (hN.1 28 _ nk_28)) (fun _ h9 => h9) rfl dX11_fewest_49 ?_
        refine lv_ishl hx hb dX11_fewest_52 ?_
        refine lv_topi (fun z_33 ez_33 => ?_)
        have rz_33 := tl_rng z_33
        refine lv_icmp_ge (tgt := 135) hx hb dX11_fewest_53 (by decide) (fun c_34 => ?_) (fun c_34 => ?_)
        · have c_34 : z_33.toInt ≤ v7.toInt := tl_le c_34
          refine lv_iload_n hx hb dX11_fewest_135 rfl (lv_at hl 6 rfl) ?_
          refine lv_if_ne (tgt := 144) hx hb dX11_fewest_136 (by decide) (fun c_35 => ?_) (fun c_35 => ?_)
          · have c_35 : ¬ p1.toInt = (0 : Int) := tl_neq c_35
            refine lv_iload_n hx hb dX11_fewest_144 rfl (lv_at hl 3 rfl) ?_
            exact W.iret (v := v3) hx hb hr (fun t ht hW => ⟨⟨_, f_29, rfl, trivial, by rw [ht]; exact hP, hI, hfr⟩, hS.F ht⟩) hS.2.2 dX11_fewest_145
          · have c_35 : p1.toInt = (0 : Int) := tl_eq c_35
            refine lv_iload hx hb dX11_fewest_139 (lv_at hl 2 rfl) ?_
            refine lv_goto (tgt := 145) hx hb dX11_fewest_141 (by decide) ?_
            exact W.iret (v := v4) hx hb hr (fun t ht hW => ⟨⟨_, f_29, rfl, trivial, by rw [ht]; exact hP, hI, hfr⟩, hS.F ht⟩) hS.2.2 dX11_fewest_145
        · have c_34 : v7.toInt < z_33.toInt := tl_nle c_34
          refine lv_iload hx hb dX11_fewest_56 (lv_at hl 0 rfl) ?_
          refine tl_si (tq_rS (As := [.int v7]) (rest := []) ⟨hx, hb, hml, hown, hta⟩ (tp_P.pre hK hN hL hU hI hP) lk_X11_480 (t_J6_bitCount_0f7a4 l D cy H.size L K Γ f_29 v7 ) rfl rfl ⟨Nat.le_of_ble_eq_true rfl, Nat.le_of_ble_eq_true rfl⟩ rfl hl.1 rfl (Nat.le_of_ble_eq_true rfl) dX11_fewest_58 ⟨Nat.le_of_ble_eq_true rfl, Nat.le_of_ble_eq_true rfl⟩) (fun r_37 hw_36 => ?_)
          refine lv_istore (lv' := [(8, .int r_37), (7, .int v7), (5, .long v5), (4, .int v4), (3, .int v3), (0, .ref o), (1, .int p0), (2, .int p1)]) hx hb dX11_fewest_61 hl (by decide) rfl (fun ls hl => ?_)
          refine lv_aload_n hx hb dX11_fewest_63 rfl (lv_at hl 5 rfl) ?_
          refine lv_iload hx hb dX11_fewest_64 (lv_at hl 1 rfl) ?_
          refine tl_sl (tq_rV (As := [.int v7]) (rest := []) ⟨hx, hb, hml, hown, hta⟩ (tp_P.pre hK hN hL hU hI hP) (tp_recv hK hP ho.1 ((tp_un hfr ho (by decide)).trans hf_7) rfl) lk_X11_485 (t_X11_givenTogether l D cy H.size L K Γ f_29 o v7 ho) rfl rfl ⟨Nat.le_of_ble_eq_true rfl, Nat.le_of_ble_eq_true rfl⟩ rfl hl.1 rfl (Nat.le_of_ble_eq_true rfl) dX11_fewest_66 ⟨Nat.le_of_ble_eq_true rfl, Nat.le_of_ble_eq_true rfl⟩) (fun r_39 hw_38 => ?_)
          refine lv_lstore (lv' := [(9, .long r_39), (8, .int r_37), (7, .int v7), (5, .long v5), (4, .int v4), (3, .int v3), (0, .ref o), (1, .int p0), (2, .int p1)]) hx hb dX11_fewest_69 hl (by decide) rfl (fun ls hl => ?_)
          refine lv_iload_n hx hb dX11_fewest_71 rfl (lv_at hl 5 rfl) ?_
          refine lv_iconst (v := (-1)) hx hb dX11_fewest_72 (by decide) ?_
          refine lv_icmp_eq (tgt := 98) hx hb dX11_fewest_73 (by decide) (fun c_40 => ?_) (fun c_40 => ?_)
          · have c_40 : v3.toInt = (-1 : Int) := tl_eq c_40
            refine lv_iconst (v := 1) hx hb dX11_fewest_98 (by decide) ?_
            refine lv_goto (tgt := 103) hx hb dX11_fewest_99 (by decide) ?_
            refine lv_istore (lv' := [(11, .int 1), (9, .long r_39), (8, .int r_37), (7, .int v7), (5, .long v5), (4, .int v4), (3, .int v3), (0, .ref o), (1, .int p0), (2, .int p1)]) hx hb dX11_fewest_103 hl (by decide) rfl (fun ls hl => ?_)
            refine lv_lload hx hb dX11_fewest_105 (lv_at hl 1 rfl) ?_
            refine lv_iload_n hx hb dX11_fewest_107 rfl (lv_at hl 8 rfl) ?_
            refine lv_i2l (v := p0.toInt64) hx hb dX11_fewest_108 (by first | rfl | decide) ?_
            refine W.lcmp hx hb dX11_fewest_109 ?_
            refine lv_if_lt (tgt := 129) hx hb dX11_fewest_110 (by decide) (fun c_41 => ?_) (fun c_41 => ?_)
            · have c_41 : r_39.toInt < p0.toInt := by have h9 := tl_cmp_lt c_41; simp only [Int32.toInt_toInt64] at h9; exact h9
              obtain ⟨z_42, ez_42⟩ : ∃ y : Int32, y = v7 + 1 := ⟨_, rfl⟩
              refine lv_iinc (v := z_42) (lv' := [(7, .int z_42), (11, .int 1), (9, .long r_39), (8, .int r_37), (5, .long v5), (4, .int v4), (3, .int v3), (0, .ref o), (1, .int p0), (2, .int p1)]) hx hb dX11_fewest_129 hl (k := 3) rfl (by rw [ez_42]; rfl) (by decide) rfl (fun ls hl => ?_)
              try have iz_42 : z_42.toInt = v7.toInt + 1 := by rw [ez_42]; exact tl_addL v7 1 (by decide) (by omega) (by omega)
              refine lv_goto (tgt := 42) hx hb dX11_fewest_132 (by decide) ?_
              exact ih42 (f_29, z_42, v5, v4, v3) H locs ls (by show (2147483647 - z_42.toInt).toNat < (2147483647 - v7.toInt).toNat; omega) ⟨(show 0 ≤ z_42.toInt from (by omega)), hP, hI, hfr, hS, lv_sub hl [0, 4, 5, 6, 7, 8, 9] rfl⟩
            · have c_41 : r_39.toInt ≥ p0.toInt := by have h9 := tl_cmp_nlt c_41; simp only [Int32.toInt_toInt64] at h9; exact h9
              refine lv_iload hx hb dX11_fewest_113 (lv_at hl 0 rfl) ?_
              refine lv_if_eq (tgt := 129) hx hb dX11_fewest_115 (by decide) (fun c => absurd c (by decide)) (fun _ => ?_)
              refine lv_iload hx hb dX11_fewest_118 (lv_at hl 3 rfl) ?_
              refine lv_istore_n (lv' := [(3, .int v7), (11, .int 1), (9, .long r_39), (8, .int r_37), (7, .int v7), (5, .long v5), (4, .int v4), (0, .ref o), (1, .int p0), (2, .int p1)]) hx hb dX11_fewest_120 rfl hl (by decide) rfl (fun ls hl => ?_)
              refine lv_iload hx hb dX11_fewest_121 (lv_at hl 3 rfl) ?_
              refine lv_istore (lv' := [(4, .int r_37), (3, .int v7), (11, .int 1), (9, .long r_39), (8, .int r_37), (7, .int v7), (5, .long v5), (0, .ref o), (1, .int p0), (2, .int p1)]) hx hb dX11_fewest_123 hl (by decide) rfl (fun ls hl => ?_)
              refine lv_lload hx hb dX11_fewest_125 (lv_at hl 3 rfl) ?_
              refine lv_lstore (lv' := [(5, .long r_39), (4, .int r_37), (3, .int v7), (11, .int 1), (9, .long r_39), (8, .int r_37), (7, .int v7), (0, .ref o), (1, .int p0), (2, .int p1)]) hx hb dX11_fewest_127 hl (by decide) rfl (fun ls hl => ?_)
              obtain ⟨z_43, ez_43⟩ : ∃ y : Int32, y = v7 + 1 := ⟨_, rfl⟩
              refine lv_iinc (v := z_43) (lv' := [(7, .int z_43), (5, .long r_39), (4, .int r_37), (3, .int v7), (11, .int 1), (9, .long r_39), (8, .int r_37), (0, .ref o), (1, .int p0), (2, .int p1)]) hx hb dX11_fewest_129 hl (k := 6) rfl (by rw [ez_43]; rfl) (by decide) rfl (fun ls hl => ?_)
              try have iz_43 : z_43.toInt = v7.toInt + 1 := by rw [ez_43]; exact tl_addL v7 1 (by decide) (by omega) (by omega)
              refine lv_goto (tgt := 42) hx hb dX11_fewest_132 (by decide) ?_
              exact ih42 (f_29, z_43, r_39, r_37, v7) H locs ls (by show (2147483647 - z_43.toInt).toNat < (2147483647 - v7.toInt).toNat; omega) ⟨(show 0 ≤ z_43.toInt from (by omega)), hP, hI, hfr, hS, lv_sub hl [0, 1, 2, 3, 7, 8, 9] rfl⟩
          · have c_40 : ¬ v3.toInt = (-1 : Int) := tl_neq c_40
            refine lv_iload hx hb dX11_fewest_76 (lv_at hl 1 rfl) ?_
            refine lv_iload hx hb dX11_fewest_78 (lv_at hl 4 rfl) ?_
            refine lv_icmp_lt (tgt := 98) hx hb dX11_fewest_80 (by decide) (fun c_44 => ?_) (fun c_44 => ?_)
            · have c_44 : r_37.toInt < v4.toInt := tl_lt c_44
              refine lv_iconst (v := 1) hx hb dX11_fewest_98 (by decide) ?_
              refine lv_goto (tgt := 103) hx hb dX11_fewest_99 (by decide) ?_
              refine lv_istore (lv' := [(11, .int 1), (9, .long r_39), (8, .int r_37), (7, .int v7), (5, .long v5), (4, .int v4), (3, .int v3), (0, .ref o), (1, .int p0), (2, .int p1)]) hx hb dX11_fewest_103 hl (by decide) rfl (fun ls hl => ?_)
              refine lv_lload hx hb dX11_fewest_105 (lv_at hl 1 rfl) ?_
              refine lv_iload_n hx hb dX11_fewest_107 rfl (lv_at hl 8 rfl) ?_
              refine lv_i2l (v := p0.toInt64) hx hb dX11_fewest_108 (by first | rfl | decide) ?_
              refine W.lcmp hx hb dX11_fewest_109 ?_
              refine lv_if_lt (tgt := 129) hx hb dX11_fewest_110 (by decide) (fun c_45 => ?_) (fun c_45 => ?_)
              · have c_45 : r_39.toInt < p0.toInt := by have h9 := tl_cmp_lt c_45; simp only [Int32.toInt_toInt64] at h9; exact h9
                obtain ⟨z_46, ez_46⟩ : ∃ y : Int32, y = v7 + 1 := ⟨_, rfl⟩
                refine lv_iinc (v := z_46) (lv' := [(7, .int z_46), (11, .int 1), (9, .long r_39), (8, .int r_37), (5, .long v5), (4, .int v4), (3, .int v3), (0, .ref o), (1, .int p0), (2, .int p1)]) hx hb dX11_fewest_129 hl (k := 3) rfl (by rw [ez_46]; rfl) (by decide) rfl (fun ls hl => ?_)
                try have iz_46 : z_46.toInt = v7.toInt + 1 := by rw [ez_46]; exact tl_addL v7 1 (by decide) (by omega) (by omega)
                refine lv_goto (tgt := 42) hx hb dX11_fewest_132 (by decide) ?_
                exact ih42 (f_29, z_46, v5, v4, v3) H locs ls (by show (2147483647 - z_46.toInt).toNat < (2147483647 - v7.toInt).toNat; omega) ⟨(show 0 ≤ z_46.toInt from (by omega)), hP, hI, hfr, hS, lv_sub hl [0, 4, 5, 6, 7, 8, 9] rfl⟩
              · have c_45 : r_39.toInt ≥ p0.toInt := by have h9 := tl_cmp_nlt c_45; simp only [Int32.toInt_toInt64] at h9; exact h9
                refine lv_iload hx hb dX11_fewest_113 (lv_at hl 0 rfl) ?_
                refine lv_if_eq (tgt := 129) hx hb dX11_fewest_115 (by decide) (fun c => absurd c (by decide)) (fun _ => ?_)
                refine lv_iload hx hb dX11_fewest_118 (lv_at hl 3 rfl) ?_
                refine lv_istore_n (lv' := [(3, .int v7), (11, .int 1), (9, .long r_39), (8, .int r_37), (7, .int v7), (5, .long v5), (4, .int v4), (0, .ref o), (1, .int p0), (2, .int p1)]) hx hb dX11_fewest_120 rfl hl (by decide) rfl (fun ls hl => ?_)
                refine lv_iload hx hb dX11_fewest_121 (lv_at hl 3 rfl) ?_
                refine lv_istore (lv' := [(4, .int r_37), (3, .int v7), (11, .int 1), (9, .long r_39), (8, .int r_37), (7, .int v7), (5, .long v5), (0, .ref o), (1, .int p0), (2, .int p1)]) hx hb dX11_fewest_123 hl (by decide) rfl (fun ls hl => ?_)
                refine lv_lload hx hb dX11_fewest_125 (lv_at hl 3 rfl) ?_
                refine lv_lstore (lv' := [(5, .long r_39), (4, .int r_37), (3, .int v7), (11, .int 1), (9, .long r_39), (8, .int r_37), (7, .int v7), (0, .ref o), (1, .int p0), (2, .int p1)]) hx hb dX11_fewest_127 hl (by decide) rfl (fun ls hl => ?_)
                obtain ⟨z_47, ez_47⟩ : ∃ y : Int32, y = v7 + 1 := ⟨_, rfl⟩
                refine lv_iinc (v := z_47) (lv' := [(7, .int z_47), (5, .long r_39), (4, .int r_37), (3, .int v7), (11, .int 1), (9, .long r_39), (8, .int r_37), (0, .ref o), (1, .int p0), (2, .int p1)]) hx hb dX11_fewest_129 hl (k := 6) rfl (by rw [ez_47]; rfl) (by decide) rfl (fun ls hl => ?_)
                try have iz_47 : z_47.toInt = v7.toInt + 1 := by rw [ez_47]; exact tl_addL v7 1 (by decide) (by omega) (by omega)
                refine lv_goto (tgt := 42) hx hb dX11_fewest_132 (by decide) ?_
                exact ih42 (f_29, z_47, r_39, r_37, v7) H locs ls (by show (2147483647 - z_47.toInt).toNat < (2147483647 - v7.toInt).toNat; omega) ⟨(show 0 ≤ z_47.toInt from (by omega)), hP, hI, hfr, hS, lv_sub hl [0, 1, 2, 3, 7, 8, 9] rfl⟩
            · have c_44 : v4.toInt ≤ r_37.toInt := tl_nlt c_44
              refine lv_iload hx hb dX11_fewest_83 (lv_at hl 1 rfl) ?_
              refine lv_iload hx hb dX11_fewest_85 (lv_at hl 4 rfl) ?_
              refine lv_icmp_ne (tgt := 102) hx hb dX11_fewest_87 (by decide) (fun c_48 => ?_) (fun c_48 => ?_)
              · have c_48 : ¬ r_37.toInt = v4.toInt := tl_neq c_48
                refine lv_iconst (v := 0) hx hb dX11_fewest_102 (by decide) ?_
                refine lv_istore (lv' := [(11, .int 0), (9, .long r_39), (8, .int r_37), (7, .int v7), (5, .long v5), (4, .int v4), (3, .int v3), (0, .ref o), (1, .int p0), (2, .int p1)]) hx hb dX11_fewest_103 hl (by decide) rfl (fun ls hl => ?_)
                refine lv_lload hx hb dX11_fewest_105 (lv_at hl 1 rfl) ?_
                refine lv_iload_n hx hb dX11_fewest_107 rfl (lv_at hl 8 rfl) ?_
                refine lv_i2l (v := p0.toInt64) hx hb dX11_fewest_108 (by first | rfl | decide) ?_
                refine W.lcmp hx hb dX11_fewest_109 ?_
                refine lv_if_lt (tgt := 129) hx hb dX11_fewest_110 (by decide) (fun c_49 => ?_) (fun c_49 => ?_)
                · have c_49 : r_39.toInt < p0.toInt := by have h9 := tl_cmp_lt c_49; simp only [Int32.toInt_toInt64] at h9; exact h9
                  obtain ⟨z_50, ez_50⟩ : ∃ y : Int32, y = v7 + 1 := ⟨_, rfl⟩
                  refine lv_iinc (v := z_50) (lv' := [(7, .int z_50), (11, .int 0), (9, .long r_39), (8, .int r_37), (5, .long v5), (4, .int v4), (3, .int v3), (0, .ref o), (1, .int p0), (2, .int p1)]) hx hb dX11_fewest_129 hl (k := 3) rfl (by rw [ez_50]; rfl) (by decide) rfl (fun ls hl => ?_)
                  try have iz_50 : z_50.toInt = v7.toInt + 1 := by rw [ez_50]; exact tl_addL v7 1 (by decide) (by omega) (by omega)
                  refine lv_goto (tgt := 42) hx hb dX11_fewest_132 (by decide) ?_
                  exact ih42 (f_29, z_50, v5, v4, v3) H locs ls (by show (2147483647 - z_50.toInt).toNat < (2147483647 - v7.toInt).toNat; omega) ⟨(show 0 ≤ z_50.toInt from (by omega)), hP, hI, hfr, hS, lv_sub hl [0, 4, 5, 6, 7, 8, 9] rfl⟩
                · have c_49 : r_39.toInt ≥ p0.toInt := by have h9 := tl_cmp_nlt c_49; simp only [Int32.toInt_toInt64] at h9; exact h9
                  refine lv_iload hx hb dX11_fewest_113 (lv_at hl 0 rfl) ?_
                  refine lv_if_eq (tgt := 129) hx hb dX11_fewest_115 (by decide) (fun _ => ?_) (fun c => absurd c (by decide))
                  obtain ⟨z_51, ez_51⟩ : ∃ y : Int32, y = v7 + 1 := ⟨_, rfl⟩
                  refine lv_iinc (v := z_51) (lv' := [(7, .int z_51), (11, .int 0), (9, .long r_39), (8, .int r_37), (5, .long v5), (4, .int v4), (3, .int v3), (0, .ref o), (1, .int p0), (2, .int p1)]) hx hb dX11_fewest_129 hl (k := 3) rfl (by rw [ez_51]; rfl) (by decide) rfl (fun ls hl => ?_)
                  try have iz_51 : z_51.toInt = v7.toInt + 1 := by rw [ez_51]; exact tl_addL v7 1 (by decide) (by omega) (by omega)
                  refine lv_goto (tgt := 42) hx hb dX11_fewest_132 (by decide) ?_
                  exact ih42 (f_29, z_51, v5, v4, v3) H locs ls (by show (2147483647 - z_51.toInt).toNat < (2147483647 - v7.toInt).toNat; omega) ⟨(show 0 ≤ z_51.toInt from (by omega)), hP, hI, hfr, hS, lv_sub hl [0, 4, 5, 6, 7, 8, 9] rfl⟩
              · have c_48 : r_37.toInt = v4.toInt := tl_eq c_48
                refine lv_lload hx hb dX11_fewest_90 (lv_at hl 0 rfl) ?_
                refine lv_lload hx hb dX11_fewest_92 (lv_at hl 3 rfl) ?_
                refine W.lcmp hx hb dX11_fewest_94 ?_
                refine lv_if_le (tgt := 102) hx hb dX11_fewest_95 (by decide) (fun c_52 => ?_) (fun c_52 => ?_)
                · have c_52 : r_39.toInt ≤ v5.toInt := tl_cmp_le c_52
                  refine lv_iconst (v := 0) hx hb dX11_fewest_102 (by decide) ?_
                  refine lv_istore (lv' := [(11, .int 0), (9, .long r_39), (8, .int r_37), (7, .int v7), (5, .long v5), (4, .int v4), (3, .int v3), (0, .ref o), (1, .int p0), (2, .int p1)]) hx hb dX11_fewest_103 hl (by decide) rfl (fun ls hl => ?_)
                  refine lv_lload hx hb dX11_fewest_105 (lv_at hl 1 rfl) ?_
                  refine lv_iload_n hx hb dX11_fewest_107 rfl (lv_at hl 8 rfl) ?_
                  refine lv_i2l (v := p0.toInt64) hx hb dX11_fewest_108 (by first | rfl | decide) ?_
                  refine W.lcmp hx hb dX11_fewest_109 ?_
                  refine lv_if_lt (tgt := 129) hx hb dX11_fewest_110 (by decide) (fun c_53 => ?_) (fun c_53 => ?_)
                  · have c_53 : r_39.toInt < p0.toInt := by have h9 := tl_cmp_lt c_53; simp only [Int32.toInt_toInt64] at h9; exact h9
                    obtain ⟨z_54, ez_54⟩ : ∃ y : Int32, y = v7 + 1 := ⟨_, rfl⟩
                    refine lv_iinc (v := z_54) (lv' := [(7, .int z_54), (11, .int 0), (9, .long r_39), (8, .int r_37), (5, .long v5), (4, .int v4), (3, .int v3), (0, .ref o), (1, .int p0), (2, .int p1)]) hx hb dX11_fewest_129 hl (k := 3) rfl (by rw [ez_54]; rfl) (by decide) rfl (fun ls hl => ?_)
                    try have iz_54 : z_54.toInt = v7.toInt + 1 := by rw [ez_54]; exact tl_addL v7 1 (by decide) (by omega) (by omega)
                    refine lv_goto (tgt := 42) hx hb dX11_fewest_132 (by decide) ?_
                    exact ih42 (f_29, z_54, v5, v4, v3) H locs ls (by show (2147483647 - z_54.toInt).toNat < (2147483647 - v7.toInt).toNat; omega) ⟨(show 0 ≤ z_54.toInt from (by omega)), hP, hI, hfr, hS, lv_sub hl [0, 4, 5, 6, 7, 8, 9] rfl⟩
                  · have c_53 : r_39.toInt ≥ p0.toInt := by have h9 := tl_cmp_nlt c_53; simp only [Int32.toInt_toInt64] at h9; exact h9
                    refine lv_iload hx hb dX11_fewest_113 (lv_at hl 0 rfl) ?_
                    refine lv_if_eq (tgt := 129) hx hb dX11_fewest_115 (by decide) (fun _ => ?_) (fun c => absurd c (by decide))
                    obtain ⟨z_55, ez_55⟩ : ∃ y : Int32, y = v7 + 1 := ⟨_, rfl⟩
                    refine lv_iinc (v := z_55) (lv' := [(7, .int z_55), (11, .int 0), (9, .long r_39), (8, .int r_37), (5, .long v5), (4, .int v4), (3, .int v3), (0, .ref o), (1, .int p0), (2, .int p1)]) hx hb dX11_fewest_129 hl (k := 3) rfl (by rw [ez_55]; rfl) (by decide) rfl (fun ls hl => ?_)
                    try have iz_55 : z_55.toInt = v7.toInt + 1 := by rw [ez_55]; exact tl_addL v7 1 (by decide) (by omega) (by omega)
                    refine lv_goto (tgt := 42) hx hb dX11_fewest_132 (by decide) ?_
                    exact ih42 (f_29, z_55, v5, v4, v3) H locs ls (by show (2147483647 - z_55.toInt).toNat < (2147483647 - v7.toInt).toNat; omega) ⟨(show 0 ≤ z_55.toInt from (by omega)), hP, hI, hfr, hS, lv_sub hl [0, 4, 5, 6, 7, 8, 9] rfl⟩
                · have c_52 : r_39.toInt > v5.toInt := tl_cmp_nle c_52
                  refine lv_iconst (v := 1) hx hb dX11_fewest_98 (by decide) ?_
                  refine lv_goto (tgt := 103) hx hb dX11_fewest_99 (by decide) ?_
                  refine lv_istore (lv' := [(11, .int 1), (9, .long r_39), (8, .int r_37), (7, .int v7), (5, .long v5), (4, .int v4), (3, .int v3), (0, .ref o), (1, .int p0), (2, .int p1)]) hx hb dX11_fewest_103 hl (by decide) rfl (fun ls hl => ?_)
                  refine lv_lload hx hb dX11_fewest_105 (lv_at hl 1 rfl) ?_
                  refine lv_iload_n hx hb dX11_fewest_107 rfl (lv_at hl 8 rfl) ?_
                  refine lv_i2l (v := p0.toInt64) hx hb dX11_fewest_108 (by first | rfl | decide) ?_
                  refine W.lcmp hx hb dX11_fewest_109 ?_
                  refine lv_if_lt (tgt := 129) hx hb dX11_fewest_110 (by decide) (fun c_56 => ?_) (fun c_56 => ?_)
                  · have c_56 : r_39.toInt < p0.toInt := by have h9 := tl_cmp_lt c_56; simp only [Int32.toInt_toInt64] at h9; exact h9
                    obtain ⟨z_57, ez_57⟩ : ∃ y : Int32, y = v7 + 1 := ⟨_, rfl⟩
                    refine lv_iinc (v := z_57) (lv' := [(7, .int z_57), (11, .int 1), (9, .long r_39), (8, .int r_37), (5, .long v5), (4, .int v4), (3, .int v3), (0, .ref o), (1, .int p0), (2, .int p1)]) hx hb dX11_fewest_129 hl (k := 3) rfl (by rw [ez_57]; rfl) (by decide) rfl (fun ls hl => ?_)
                    try have iz_57 : z_57.toInt = v7.toInt + 1 := by rw [ez_57]; exact tl_addL v7 1 (by decide) (by omega) (by omega)
                    refine lv_goto (tgt := 42) hx hb dX11_fewest_132 (by decide) ?_
                    exact ih42 (f_29, z_57, v5, v4, v3) H locs ls (by show (2147483647 - z_57.toInt).toNat < (2147483647 - v7.toInt).toNat; omega) ⟨(show 0 ≤ z_57.toInt from (by omega)), hP, hI, hfr, hS, lv_sub hl [0, 4, 5, 6, 7, 8, 9] rfl⟩
                  · have c_56 : r_39.toInt ≥ p0.toInt := by have h9 := tl_cmp_nlt c_56; simp only [Int32.toInt_toInt64] at h9; exact h9
                    refine lv_iload hx hb dX11_fewest_113 (lv_at hl 0 rfl) ?_
                    refine lv_if_eq (tgt := 129) hx hb dX11_fewest_115 (by decide) (fun c => absurd c (by decide)) (fun _ => ?_)
                    refine lv_iload hx hb dX11_fewest_118 (lv_at hl 3 rfl) ?_
                    refine lv_istore_n (lv' := [(3, .int v7), (11, .int 1), (9, .long r_39), (8, .int r_37), (7, .int v7), (5, .long v5), (4, .int v4), (0, .ref o), (1, .int p0), (2, .int p1)]) hx hb dX11_fewest_120 rfl hl (by decide) rfl (fun ls hl => ?_)
                    refine lv_iload hx hb dX11_fewest_121 (lv_at hl 3 rfl) ?_
                    refine lv_istore (lv' := [(4, .int r_37), (3, .int v7), (11, .int 1), (9, .long r_39), (8, .int r_37), (7, .int v7), (5, .long v5), (0, .ref o), (1, .int p0), (2, .int p1)]) hx hb dX11_fewest_123 hl (by decide) rfl (fun ls hl => ?_)
                    refine lv_lload hx hb dX11_fewest_125 (lv_at hl 3 rfl) ?_
                    refine lv_lstore (lv' := [(5, .long r_39), (4, .int r_37), (3, .int v7), (11, .int 1), (9, .long r_39), (8, .int r_37), (7, .int v7), (0, .ref o), (1, .int p0), (2, .int p1)]) hx hb dX11_fewest_127 hl (by decide) rfl (fun ls hl => ?_)
                    obtain ⟨z_58, ez_58⟩ : ∃ y : Int32, y = v7 + 1 := ⟨_, rfl⟩
                    refine lv_iinc (v := z_58) (lv' := [(7, .int z_58), (5, .long r_39), (4, .int r_37), (3, .int v7), (11, .int 1), (9, .long r_39), (8, .int r_37), (0, .ref o), (1, .int p0), (2, .int p1)]) hx hb dX11_fewest_129 hl (k := 6) rfl (by rw [ez_58]; rfl) (by decide) rfl (fun ls hl => ?_)
                    try have iz_58 : z_58.toInt = v7.toInt + 1 := by rw [ez_58]; exact tl_addL v7 1 (by decide) (by omega) (by omega)
                    refine lv_goto (tgt := 42) hx hb dX11_fewest_132 (by decide) ?_
                    exact ih42 (f_29, z_58, r_39, r_37, v7) H locs ls (by show (2147483647 - z_58.toInt).toNat < (2147483647 - v7.toInt).toNat; omega) ⟨(show 0 ≤ z_58.toInt from (by omega)), hP, hI, hfr, hS, lv_sub hl [0, 1, 2, 3, 7, 8, 9] rfl⟩
      · have c_28 : r_25.toInt < p0.toInt := by have h9 := tl_cmp_nge c_28; simp only [Int32.toInt_toInt64] at h9; exact h9
        refine lv_bipush (v := (-2)) hx hb dX11_fewest_28 (by decide) ?_
        exact W.iret (v := (-2)) hx hb hr (fun t ht hW => ⟨⟨_, f_26, rfl, trivial, by rw [ht]; exact hP, hI, hfr⟩, hS.F ht⟩) hS.2.2 dX11_fewest_30
    · have c_6 := hw_4.f c_6
      refine lv_iconst (v := (-1)) hx hb dX11_fewest_16 (by decide) ?_
      exact W.iret (v := (-1)) hx hb hr (fun t ht hW => ⟨⟨_, f, rfl, trivial, by rw [ht]; exact hP, hI, hfr⟩, hS.F ht⟩) hS.2.2 dX11_fewest_17
