theorem dX12_givesOf_0 : decode cX12_givesOf 0 = .ok (.bipush 14, 2) := by decide +kernel
theorem dX12_givesOf_2 : decode cX12_givesOf 2 = .ok (.iload_n 1, 1) := by decide +kernel
theorem dX12_givesOf_3 : decode cX12_givesOf 3 = .ok (.iadd, 1) := by decide +kernel
theorem dX12_givesOf_4 : decode cX12_givesOf 4 = .ok (.istore_n 2, 1) := by decide +kernel
theorem dX12_givesOf_5 : decode cX12_givesOf 5 = .ok (.iconst 0, 1) := by decide +kernel
theorem dX12_givesOf_6 : decode cX12_givesOf 6 = .ok (.istore_n 3, 1) := by decide +kernel
theorem dX12_givesOf_7 : decode cX12_givesOf 7 = .ok (.iload_n 3, 1) := by decide +kernel
theorem dX12_givesOf_8 : decode cX12_givesOf 8 = .ok (.iconst 4, 1) := by decide +kernel
theorem dX12_givesOf_9 : decode cX12_givesOf 9 = .ok (.if_icmp .ge 24, 3) := by decide +kernel
theorem dX12_givesOf_12 : decode cX12_givesOf 12 = .ok (.aload_n 0, 1) := by decide +kernel
theorem dX12_givesOf_13 : decode cX12_givesOf 13 = .ok (.getfield 66, 3) := by decide +kernel
theorem dX12_givesOf_16 : decode cX12_givesOf 16 = .ok (.iload_n 3, 1) := by decide +kernel
theorem dX12_givesOf_17 : decode cX12_givesOf 17 = .ok (.aload_n 0, 1) := by decide +kernel
theorem dX12_givesOf_18 : decode cX12_givesOf 18 = .ok (.getfield 7, 3) := by decide +kernel
theorem dX12_givesOf_21 : decode cX12_givesOf 21 = .ok (.iconst 5, 1) := by decide +kernel
theorem dX12_givesOf_22 : decode cX12_givesOf 22 = .ok (.iload_n 3, 1) := by decide +kernel
theorem dX12_givesOf_23 : decode cX12_givesOf 23 = .ok (.iadd, 1) := by decide +kernel
theorem dX12_givesOf_24 : decode cX12_givesOf 24 = .ok (.iaload, 1) := by decide +kernel
theorem dX12_givesOf_25 : decode cX12_givesOf 25 = .ok (.i2l, 1) := by decide +kernel
theorem dX12_givesOf_26 : decode cX12_givesOf 26 = .ok (.lastore, 1) := by decide +kernel
theorem dX12_givesOf_27 : decode cX12_givesOf 27 = .ok (.iinc 3 1, 3) := by decide +kernel
theorem dX12_givesOf_30 : decode cX12_givesOf 30 = .ok (.goto (-23), 3) := by decide +kernel
theorem dX12_givesOf_33 : decode cX12_givesOf 33 = .ok (.aload_n 0, 1) := by decide +kernel
theorem dX12_givesOf_34 : decode cX12_givesOf 34 = .ok (.getfield 66, 3) := by decide +kernel
theorem dX12_givesOf_37 : decode cX12_givesOf 37 = .ok (.iconst 4, 1) := by decide +kernel
theorem dX12_givesOf_38 : decode cX12_givesOf 38 = .ok (.aload_n 0, 1) := by decide +kernel
theorem dX12_givesOf_39 : decode cX12_givesOf 39 = .ok (.getfield 7, 3) := by decide +kernel
theorem dX12_givesOf_42 : decode cX12_givesOf 42 = .ok (.iconst 0, 1) := by decide +kernel
theorem dX12_givesOf_43 : decode cX12_givesOf 43 = .ok (.iaload, 1) := by decide +kernel
theorem dX12_givesOf_44 : decode cX12_givesOf 44 = .ok (.i2l, 1) := by decide +kernel
theorem dX12_givesOf_45 : decode cX12_givesOf 45 = .ok (.lastore, 1) := by decide +kernel
theorem dX12_givesOf_46 : decode cX12_givesOf 46 = .ok (.lconst 0, 1) := by decide +kernel
theorem dX12_givesOf_47 : decode cX12_givesOf 47 = .ok (.lstore_n 3, 1) := by decide +kernel
theorem dX12_givesOf_48 : decode cX12_givesOf 48 = .ok (.iconst 0, 1) := by decide +kernel
theorem dX12_givesOf_49 : decode cX12_givesOf 49 = .ok (.istore 5, 2) := by decide +kernel
theorem dX12_givesOf_51 : decode cX12_givesOf 51 = .ok (.iload 5, 2) := by decide +kernel
theorem dX12_givesOf_53 : decode cX12_givesOf 53 = .ok (.aload_n 0, 1) := by decide +kernel
theorem dX12_givesOf_54 : decode cX12_givesOf 54 = .ok (.getfield 29, 3) := by decide +kernel
theorem dX12_givesOf_57 : decode cX12_givesOf 57 = .ok (.iload_n 2, 1) := by decide +kernel
theorem dX12_givesOf_58 : decode cX12_givesOf 58 = .ok (.iaload, 1) := by decide +kernel
theorem dX12_givesOf_59 : decode cX12_givesOf 59 = .ok (.if_icmp .ge 29, 3) := by decide +kernel
theorem dX12_givesOf_62 : decode cX12_givesOf 62 = .ok (.aload_n 0, 1) := by decide +kernel
theorem dX12_givesOf_63 : decode cX12_givesOf 63 = .ok (.iload_n 2, 1) := by decide +kernel
theorem dX12_givesOf_64 : decode cX12_givesOf 64 = .ok (.iload 5, 2) := by decide +kernel
theorem dX12_givesOf_66 : decode cX12_givesOf 66 = .ok (.invokevirtual 355, 3) := by decide +kernel
theorem dX12_givesOf_69 : decode cX12_givesOf 69 = .ok (.ifCond .eq 13, 3) := by decide +kernel
theorem dX12_givesOf_72 : decode cX12_givesOf 72 = .ok (.lload_n 3, 1) := by decide +kernel
theorem dX12_givesOf_73 : decode cX12_givesOf 73 = .ok (.aload_n 0, 1) := by decide +kernel
theorem dX12_givesOf_74 : decode cX12_givesOf 74 = .ok (.iload_n 2, 1) := by decide +kernel
theorem dX12_givesOf_75 : decode cX12_givesOf 75 = .ok (.iload 5, 2) := by decide +kernel
theorem dX12_givesOf_77 : decode cX12_givesOf 77 = .ok (.invokevirtual 358, 3) := by decide +kernel
theorem dX12_givesOf_80 : decode cX12_givesOf 80 = .ok (.ladd, 1) := by decide +kernel
theorem dX12_givesOf_81 : decode cX12_givesOf 81 = .ok (.lstore_n 3, 1) := by decide +kernel
theorem dX12_givesOf_82 : decode cX12_givesOf 82 = .ok (.iinc 5 1, 3) := by decide +kernel
theorem dX12_givesOf_85 : decode cX12_givesOf 85 = .ok (.goto (-34), 3) := by decide +kernel
theorem dX12_givesOf_88 : decode cX12_givesOf 88 = .ok (.lload_n 3, 1) := by decide +kernel
theorem dX12_givesOf_89 : decode cX12_givesOf 89 = .ok (.lconst 0, 1) := by decide +kernel
theorem dX12_givesOf_90 : decode cX12_givesOf 90 = .ok (.ldc2_w 540, 3) := by decide +kernel
theorem dX12_givesOf_93 : decode cX12_givesOf 93 = .ok (.invokestatic 366, 3) := by decide +kernel
theorem dX12_givesOf_96 : decode cX12_givesOf 96 = .ok (.l2i, 1) := by decide +kernel
theorem dX12_givesOf_97 : decode cX12_givesOf 97 = .ok (.ireturn, 1) := by decide +kernel
theorem wk_815 : Cond.methodLink RX12 358 yX12_summed ∈ tl_L := List.mem_filter.mpr ⟨lw_m7 (i := 233) rfl, rfl⟩
theorem wk_816 : Cond.instanceMethod yX12_summed ∈ tl_L := List.mem_filter.mpr ⟨lw_m7 (i := 235) rfl, rfl⟩
theorem wk_817 : Cond.selects RX12 yX12_summed yX12_summed ∈ tl_L := List.mem_filter.mpr ⟨lw_s10 (i := 1) (q := (yX12_summed, 49)) rfl, rfl⟩
theorem wk_818 : Cond.code yX12_summed cX12_summed 3 (some .long) ∈ tl_L := List.mem_filter.mpr ⟨lw_m7 (i := 236) rfl, rfl⟩
theorem wk_819 : Cond.methodLink RX12 366 yX12_held ∈ tl_L := List.mem_filter.mpr ⟨lw_m7 (i := 239) rfl, rfl⟩
theorem wk_820 : Cond.static yX12_held ∈ tl_L := List.mem_filter.mpr ⟨lw_m8 (i := 0) rfl, rfl⟩
theorem wk_821 : Cond.code yX12_held cX12_held 6 (some .long) ∈ tl_L := List.mem_filter.mpr ⟨lw_m8 (i := 1) rfl, rfl⟩
theorem wk_1443 : Cond.constantLong RX12 540 (99999999) ∈ tl_L := List.mem_filter.mpr ⟨lw_m9 (i := 26) rfl, rfl⟩
theorem lk_X12_358 : tl_kV RX12 358 RX12 yX12_summed cX12_summed 3 (some .long) 2 := ⟨wk_818, wk_815, wk_816, wk_817, wk_5, ⟨by decide +kernel, by decide +kernel, by decide +kernel⟩⟩
theorem lk_X12_366 : tl_kS RX12 366 yX12_held cX12_held 6 (some .long) 3 := ⟨wk_821, wk_819, wk_820, wk_5, ⟨by decide +kernel, by decide +kernel, by decide +kernel⟩⟩
theorem dX12_gives_0 : decode cX12_gives 0 = .ok (.aload_n 0, 1) := by decide +kernel
theorem dX12_gives_1 : decode cX12_gives 1 = .ok (.iconst 2, 1) := by decide +kernel
theorem dX12_gives_2 : decode cX12_gives 2 = .ok (.iload_n 1, 1) := by decide +kernel
theorem dX12_gives_3 : decode cX12_gives 3 = .ok (.invokevirtual 382, 3) := by decide +kernel
theorem dX12_gives_6 : decode cX12_gives 6 = .ok (.ifCond .eq 11, 3) := by decide +kernel
theorem dX12_gives_9 : decode cX12_gives 9 = .ok (.aload_n 0, 1) := by decide +kernel
theorem dX12_gives_10 : decode cX12_gives 10 = .ok (.iload_n 1, 1) := by decide +kernel
theorem dX12_gives_11 : decode cX12_gives 11 = .ok (.invokevirtual 542, 3) := by decide +kernel
theorem dX12_gives_14 : decode cX12_gives 14 = .ok (.goto 4, 3) := by decide +kernel
theorem dX12_gives_17 : decode cX12_gives 17 = .ok (.iconst (-1), 1) := by decide +kernel
theorem dX12_gives_18 : decode cX12_gives 18 = .ok (.ireturn, 1) := by decide +kernel
theorem wk_1439 : Cond.methodLink RX12 542 yX12_givesOf ∈ tl_L := List.mem_filter.mpr ⟨lw_m9 (i := 22) rfl, rfl⟩
theorem wk_1440 : Cond.instanceMethod yX12_givesOf ∈ tl_L := List.mem_filter.mpr ⟨lw_m9 (i := 24) rfl, rfl⟩
theorem wk_1441 : Cond.selects RX12 yX12_givesOf yX12_givesOf ∈ tl_L := List.mem_filter.mpr ⟨lw_s11 (i := 14) (q := (yX12_givesOf, 49)) rfl, rfl⟩
theorem wk_1442 : Cond.code yX12_givesOf cX12_givesOf 6 (some .int) ∈ tl_L := List.mem_filter.mpr ⟨lw_m9 (i := 25) rfl, rfl⟩
theorem lk_X12_542 : tl_kV RX12 542 RX12 yX12_givesOf cX12_givesOf 6 (some .int) 1 := ⟨wk_1442, wk_1439, wk_1440, wk_1441, wk_5, ⟨by decide +kernel, by decide +kernel, by decide +kernel⟩⟩
theorem dX12_givenBy_0 : decode cX12_givenBy 0 = .ok (.iconst 0, 1) := by decide +kernel
theorem dX12_givenBy_1 : decode cX12_givenBy 1 = .ok (.istore_n 2, 1) := by decide +kernel
theorem dX12_givenBy_2 : decode cX12_givenBy 2 = .ok (.iconst 0, 1) := by decide +kernel
theorem dX12_givenBy_3 : decode cX12_givenBy 3 = .ok (.istore_n 3, 1) := by decide +kernel
theorem dX12_givenBy_4 : decode cX12_givenBy 4 = .ok (.iload_n 3, 1) := by decide +kernel
theorem dX12_givenBy_5 : decode cX12_givenBy 5 = .ok (.aload_n 0, 1) := by decide +kernel
theorem dX12_givenBy_6 : decode cX12_givenBy 6 = .ok (.getfield 17, 3) := by decide +kernel
theorem dX12_givenBy_9 : decode cX12_givenBy 9 = .ok (.iconst 2, 1) := by decide +kernel
theorem dX12_givenBy_10 : decode cX12_givenBy 10 = .ok (.iaload, 1) := by decide +kernel
theorem dX12_givenBy_11 : decode cX12_givenBy 11 = .ok (.if_icmp .ge 30, 3) := by decide +kernel
theorem dX12_givenBy_14 : decode cX12_givenBy 14 = .ok (.iload_n 2, 1) := by decide +kernel
theorem dX12_givenBy_15 : decode cX12_givenBy 15 = .ok (.iload_n 1, 1) := by decide +kernel
theorem dX12_givenBy_16 : decode cX12_givenBy 16 = .ok (.iload_n 3, 1) := by decide +kernel
theorem dX12_givenBy_17 : decode cX12_givenBy 17 = .ok (.ishr, 1) := by decide +kernel
theorem dX12_givenBy_18 : decode cX12_givenBy 18 = .ok (.iconst 1, 1) := by decide +kernel
theorem dX12_givenBy_19 : decode cX12_givenBy 19 = .ok (.iand, 1) := by decide +kernel
theorem dX12_givenBy_20 : decode cX12_givenBy 20 = .ok (.iconst 1, 1) := by decide +kernel
theorem dX12_givenBy_21 : decode cX12_givenBy 21 = .ok (.if_icmp .ne 11, 3) := by decide +kernel
theorem dX12_givenBy_24 : decode cX12_givenBy 24 = .ok (.aload_n 0, 1) := by decide +kernel
theorem dX12_givenBy_25 : decode cX12_givenBy 25 = .ok (.iload_n 3, 1) := by decide +kernel
theorem dX12_givenBy_26 : decode cX12_givenBy 26 = .ok (.invokevirtual 542, 3) := by decide +kernel
theorem dX12_givenBy_29 : decode cX12_givenBy 29 = .ok (.goto 4, 3) := by decide +kernel
theorem dX12_givenBy_32 : decode cX12_givenBy 32 = .ok (.iconst 0, 1) := by decide +kernel
theorem dX12_givenBy_33 : decode cX12_givenBy 33 = .ok (.iadd, 1) := by decide +kernel
theorem dX12_givenBy_34 : decode cX12_givenBy 34 = .ok (.istore_n 2, 1) := by decide +kernel
theorem dX12_givenBy_35 : decode cX12_givenBy 35 = .ok (.iinc 3 1, 3) := by decide +kernel
theorem dX12_givenBy_38 : decode cX12_givenBy 38 = .ok (.goto (-34), 3) := by decide +kernel
theorem dX12_givenBy_41 : decode cX12_givenBy 41 = .ok (.iload_n 2, 1) := by decide +kernel
theorem dX12_givenBy_42 : decode cX12_givenBy 42 = .ok (.ireturn, 1) := by decide +kernel
theorem dX12_brief_0 : decode cX12_brief 0 = .ok (.iload_n 1, 1) := by decide +kernel
theorem dX12_brief_1 : decode cX12_brief 1 = .ok (.i2l, 1) := by decide +kernel
theorem dX12_brief_2 : decode cX12_brief 2 = .ok (.lconst 0, 1) := by decide +kernel
theorem dX12_brief_3 : decode cX12_brief 3 = .ok (.ldc2_w 545, 3) := by decide +kernel
theorem dX12_brief_6 : decode cX12_brief 6 = .ok (.invokestatic 112, 3) := by decide +kernel
theorem dX12_brief_9 : decode cX12_brief 9 = .ok (.ifCond .ne 5, 3) := by decide +kernel
theorem dX12_brief_12 : decode cX12_brief 12 = .ok (.iconst (-1), 1) := by decide +kernel
theorem dX12_brief_13 : decode cX12_brief 13 = .ok (.ireturn, 1) := by decide +kernel
theorem dX12_brief_14 : decode cX12_brief 14 = .ok (.iload_n 1, 1) := by decide +kernel
theorem dX12_brief_15 : decode cX12_brief 15 = .ok (.aload_n 0, 1) := by decide +kernel
theorem dX12_brief_16 : decode cX12_brief 16 = .ok (.sipush 255, 3) := by decide +kernel
theorem dX12_brief_19 : decode cX12_brief 19 = .ok (.invokevirtual 547, 3) := by decide +kernel
theorem dX12_brief_22 : decode cX12_brief 22 = .ok (.isub, 1) := by decide +kernel
theorem dX12_brief_23 : decode cX12_brief 23 = .ok (.istore_n 2, 1) := by decide +kernel
theorem dX12_brief_24 : decode cX12_brief 24 = .ok (.iload_n 2, 1) := by decide +kernel
theorem dX12_brief_25 : decode cX12_brief 25 = .ok (.ifCond .ge 7, 3) := by decide +kernel
theorem dX12_brief_28 : decode cX12_brief 28 = .ok (.iconst 0, 1) := by decide +kernel
theorem dX12_brief_29 : decode cX12_brief 29 = .ok (.goto 4, 3) := by decide +kernel
theorem dX12_brief_32 : decode cX12_brief 32 = .ok (.iload_n 2, 1) := by decide +kernel
theorem dX12_brief_33 : decode cX12_brief 33 = .ok (.ireturn, 1) := by decide +kernel
theorem wk_1460 : Cond.constantLong RX12 545 (999999999) ∈ tl_L := List.mem_filter.mpr ⟨lw_m9 (i := 31) rfl, rfl⟩
theorem wk_1461 : Cond.methodLink RX12 547 yX12_givenBy ∈ tl_L := List.mem_filter.mpr ⟨lw_m9 (i := 32) rfl, rfl⟩
theorem wk_1462 : Cond.instanceMethod yX12_givenBy ∈ tl_L := List.mem_filter.mpr ⟨lw_m9 (i := 34) rfl, rfl⟩
theorem wk_1463 : Cond.selects RX12 yX12_givenBy yX12_givenBy ∈ tl_L := List.mem_filter.mpr ⟨lw_s11 (i := 15) (q := (yX12_givenBy, 49)) rfl, rfl⟩
theorem wk_1464 : Cond.code yX12_givenBy cX12_givenBy 4 (some .int) ∈ tl_L := List.mem_filter.mpr ⟨lw_m9 (i := 35) rfl, rfl⟩
theorem lk_X12_547 : tl_kV RX12 547 RX12 yX12_givenBy cX12_givenBy 4 (some .int) 1 := ⟨wk_1464, wk_1461, wk_1462, wk_1463, wk_5, ⟨by decide +kernel, by decide +kernel, by decide +kernel⟩⟩
theorem dX12_bits_0 : decode cX12_bits 0 = .ok (.iconst 0, 1) := by decide +kernel
theorem dX12_bits_1 : decode cX12_bits 1 = .ok (.istore_n 1, 1) := by decide +kernel
theorem dX12_bits_2 : decode cX12_bits 2 = .ok (.iload_n 0, 1) := by decide +kernel
theorem dX12_bits_3 : decode cX12_bits 3 = .ok (.istore_n 2, 1) := by decide +kernel
theorem dX12_bits_4 : decode cX12_bits 4 = .ok (.iload_n 2, 1) := by decide +kernel
theorem dX12_bits_5 : decode cX12_bits 5 = .ok (.ifCond .eq 15, 3) := by decide +kernel
theorem dX12_bits_8 : decode cX12_bits 8 = .ok (.iinc 1 1, 3) := by decide +kernel
theorem dX12_bits_11 : decode cX12_bits 11 = .ok (.iload_n 2, 1) := by decide +kernel
theorem dX12_bits_12 : decode cX12_bits 12 = .ok (.iload_n 2, 1) := by decide +kernel
theorem dX12_bits_13 : decode cX12_bits 13 = .ok (.iconst 1, 1) := by decide +kernel
theorem dX12_bits_14 : decode cX12_bits 14 = .ok (.isub, 1) := by decide +kernel
theorem dX12_bits_15 : decode cX12_bits 15 = .ok (.iand, 1) := by decide +kernel
theorem dX12_bits_16 : decode cX12_bits 16 = .ok (.istore_n 2, 1) := by decide +kernel
theorem dX12_bits_17 : decode cX12_bits 17 = .ok (.goto (-13), 3) := by decide +kernel
theorem dX12_bits_20 : decode cX12_bits 20 = .ok (.iload_n 1, 1) := by decide +kernel
theorem dX12_bits_21 : decode cX12_bits 21 = .ok (.ireturn, 1) := by decide +kernel
theorem dX12_fewest_0 : decode cX12_fewest 0 = .ok (.iload_n 1, 1) := by decide +kernel
theorem dX12_fewest_1 : decode cX12_fewest 1 = .ok (.i2l, 1) := by decide +kernel
theorem dX12_fewest_2 : decode cX12_fewest 2 = .ok (.lconst 0, 1) := by decide +kernel
theorem dX12_fewest_3 : decode cX12_fewest 3 = .ok (.ldc2_w 545, 3) := by decide +kernel
theorem dX12_fewest_6 : decode cX12_fewest 6 = .ok (.invokestatic 112, 3) := by decide +kernel
theorem dX12_fewest_9 : decode cX12_fewest 9 = .ok (.ifCond .eq 13, 3) := by decide +kernel
theorem dX12_fewest_12 : decode cX12_fewest 12 = .ok (.iload_n 2, 1) := by decide +kernel
theorem dX12_fewest_13 : decode cX12_fewest 13 = .ok (.i2l, 1) := by decide +kernel
theorem dX12_fewest_14 : decode cX12_fewest 14 = .ok (.lconst 0, 1) := by decide +kernel
theorem dX12_fewest_15 : decode cX12_fewest 15 = .ok (.lconst 1, 1) := by decide +kernel
theorem dX12_fewest_16 : decode cX12_fewest 16 = .ok (.invokestatic 112, 3) := by decide +kernel
theorem dX12_fewest_19 : decode cX12_fewest 19 = .ok (.ifCond .ne 5, 3) := by decide +kernel
theorem dX12_fewest_22 : decode cX12_fewest 22 = .ok (.iconst (-1), 1) := by decide +kernel
theorem dX12_fewest_23 : decode cX12_fewest 23 = .ok (.ireturn, 1) := by decide +kernel
theorem dX12_fewest_24 : decode cX12_fewest 24 = .ok (.bipush (-2), 2) := by decide +kernel
theorem dX12_fewest_26 : decode cX12_fewest 26 = .ok (.istore_n 3, 1) := by decide +kernel
theorem dX12_fewest_27 : decode cX12_fewest 27 = .ok (.iconst 0, 1) := by decide +kernel
theorem dX12_fewest_28 : decode cX12_fewest 28 = .ok (.istore 4, 2) := by decide +kernel
theorem dX12_fewest_30 : decode cX12_fewest 30 = .ok (.iconst 0, 1) := by decide +kernel
theorem dX12_fewest_31 : decode cX12_fewest 31 = .ok (.istore 5, 2) := by decide +kernel
theorem dX12_fewest_33 : decode cX12_fewest 33 = .ok (.iload 5, 2) := by decide +kernel
theorem dX12_fewest_35 : decode cX12_fewest 35 = .ok (.iconst 1, 1) := by decide +kernel
theorem dX12_fewest_36 : decode cX12_fewest 36 = .ok (.aload_n 0, 1) := by decide +kernel
theorem dX12_fewest_37 : decode cX12_fewest 37 = .ok (.getfield 17, 3) := by decide +kernel
theorem dX12_fewest_40 : decode cX12_fewest 40 = .ok (.iconst 2, 1) := by decide +kernel
theorem dX12_fewest_41 : decode cX12_fewest 41 = .ok (.iaload, 1) := by decide +kernel
theorem dX12_fewest_42 : decode cX12_fewest 42 = .ok (.ishl, 1) := by decide +kernel
theorem dX12_fewest_43 : decode cX12_fewest 43 = .ok (.if_icmp .ge 68, 3) := by decide +kernel
theorem dX12_fewest_46 : decode cX12_fewest 46 = .ok (.aload_n 0, 1) := by decide +kernel
theorem dX12_fewest_47 : decode cX12_fewest 47 = .ok (.iload 5, 2) := by decide +kernel
theorem dX12_fewest_49 : decode cX12_fewest 49 = .ok (.invokevirtual 547, 3) := by decide +kernel
theorem dX12_fewest_52 : decode cX12_fewest 52 = .ok (.istore 6, 2) := by decide +kernel
theorem dX12_fewest_54 : decode cX12_fewest 54 = .ok (.iload 6, 2) := by decide +kernel
theorem dX12_fewest_56 : decode cX12_fewest 56 = .ok (.iload_n 1, 1) := by decide +kernel
theorem dX12_fewest_57 : decode cX12_fewest 57 = .ok (.if_icmp .lt 48, 3) := by decide +kernel
theorem dX12_fewest_60 : decode cX12_fewest 60 = .ok (.iload_n 3, 1) := by decide +kernel
theorem dX12_fewest_61 : decode cX12_fewest 61 = .ok (.ifCond .lt 37, 3) := by decide +kernel
theorem dX12_fewest_64 : decode cX12_fewest 64 = .ok (.iload 5, 2) := by decide +kernel
theorem dX12_fewest_66 : decode cX12_fewest 66 = .ok (.invokestatic 550, 3) := by decide +kernel
theorem dX12_fewest_69 : decode cX12_fewest 69 = .ok (.iload_n 3, 1) := by decide +kernel
theorem dX12_fewest_70 : decode cX12_fewest 70 = .ok (.invokestatic 550, 3) := by decide +kernel
theorem dX12_fewest_73 : decode cX12_fewest 73 = .ok (.if_icmp .gt 32, 3) := by decide +kernel
theorem dX12_fewest_76 : decode cX12_fewest 76 = .ok (.iload 5, 2) := by decide +kernel
theorem dX12_fewest_78 : decode cX12_fewest 78 = .ok (.invokestatic 550, 3) := by decide +kernel
theorem dX12_fewest_81 : decode cX12_fewest 81 = .ok (.iload_n 3, 1) := by decide +kernel
theorem dX12_fewest_82 : decode cX12_fewest 82 = .ok (.invokestatic 550, 3) := by decide +kernel
theorem dX12_fewest_85 : decode cX12_fewest 85 = .ok (.if_icmp .ne 13, 3) := by decide +kernel
theorem dX12_fewest_88 : decode cX12_fewest 88 = .ok (.iload 6, 2) := by decide +kernel
theorem dX12_fewest_90 : decode cX12_fewest 90 = .ok (.iload 4, 2) := by decide +kernel
theorem dX12_fewest_92 : decode cX12_fewest 92 = .ok (.if_icmp .gt 6, 3) := by decide +kernel
theorem dX12_fewest_95 : decode cX12_fewest 95 = .ok (.goto 10, 3) := by decide +kernel
theorem dX12_fewest_98 : decode cX12_fewest 98 = .ok (.iload 5, 2) := by decide +kernel
theorem dX12_fewest_100 : decode cX12_fewest 100 = .ok (.istore_n 3, 1) := by decide +kernel
theorem dX12_fewest_101 : decode cX12_fewest 101 = .ok (.iload 6, 2) := by decide +kernel
theorem dX12_fewest_103 : decode cX12_fewest 103 = .ok (.istore 4, 2) := by decide +kernel
theorem dX12_fewest_105 : decode cX12_fewest 105 = .ok (.iinc 5 1, 3) := by decide +kernel
theorem dX12_fewest_108 : decode cX12_fewest 108 = .ok (.goto (-75), 3) := by decide +kernel
theorem dX12_fewest_111 : decode cX12_fewest 111 = .ok (.iload_n 3, 1) := by decide +kernel
theorem dX12_fewest_112 : decode cX12_fewest 112 = .ok (.ifCond .ge 8, 3) := by decide +kernel
theorem dX12_fewest_115 : decode cX12_fewest 115 = .ok (.bipush (-2), 2) := by decide +kernel
theorem dX12_fewest_117 : decode cX12_fewest 117 = .ok (.goto 15, 3) := by decide +kernel
theorem dX12_fewest_120 : decode cX12_fewest 120 = .ok (.iload_n 2, 1) := by decide +kernel
theorem dX12_fewest_121 : decode cX12_fewest 121 = .ok (.ifCond .ne 10, 3) := by decide +kernel
theorem dX12_fewest_124 : decode cX12_fewest 124 = .ok (.iload_n 3, 1) := by decide +kernel
theorem dX12_fewest_125 : decode cX12_fewest 125 = .ok (.invokestatic 550, 3) := by decide +kernel
theorem dX12_fewest_128 : decode cX12_fewest 128 = .ok (.goto 4, 3) := by decide +kernel
theorem dX12_fewest_131 : decode cX12_fewest 131 = .ok (.iload_n 3, 1) := by decide +kernel
theorem dX12_fewest_132 : decode cX12_fewest 132 = .ok (.ireturn, 1) := by decide +kernel
theorem wk_1484 : Cond.methodLink RX12 550 yX12_bits ∈ tl_L := List.mem_filter.mpr ⟨lw_m9 (i := 40) rfl, rfl⟩
theorem wk_1485 : Cond.static yX12_bits ∈ tl_L := List.mem_filter.mpr ⟨lw_m9 (i := 41) rfl, rfl⟩
theorem wk_1486 : Cond.code yX12_bits cX12_bits 3 (some .int) ∈ tl_L := List.mem_filter.mpr ⟨lw_m9 (i := 42) rfl, rfl⟩
theorem lk_X12_550 : tl_kS RX12 550 yX12_bits cX12_bits 3 (some .int) 1 := ⟨wk_1486, wk_1484, wk_1485, wk_5, ⟨by decide +kernel, by decide +kernel, by decide +kernel⟩⟩
theorem dX12_count_0 : decode cX12_count 0 = .ok (.iconst 0, 1) := by decide +kernel
theorem dX12_count_1 : decode cX12_count 1 = .ok (.istore_n 2, 1) := by decide +kernel
theorem dX12_count_2 : decode cX12_count 2 = .ok (.iload_n 1, 1) := by decide +kernel
theorem dX12_count_3 : decode cX12_count 3 = .ok (.tableswitch 174 0 10 #[57, 64, 71, 78, 85, 92, 99, 106, 113, 160, 165], 57) := by decide +kernel
theorem dX12_count_60 : decode cX12_count 60 = .ok (.aload_n 0, 1) := by decide +kernel
theorem dX12_count_61 : decode cX12_count 61 = .ok (.getfield 7, 3) := by decide +kernel
theorem dX12_count_64 : decode cX12_count 64 = .ok (.iconst 0, 1) := by decide +kernel
theorem dX12_count_65 : decode cX12_count 65 = .ok (.iaload, 1) := by decide +kernel
theorem dX12_count_66 : decode cX12_count 66 = .ok (.ireturn, 1) := by decide +kernel
theorem dX12_count_67 : decode cX12_count 67 = .ok (.aload_n 0, 1) := by decide +kernel
theorem dX12_count_68 : decode cX12_count 68 = .ok (.getfield 7, 3) := by decide +kernel
theorem dX12_count_71 : decode cX12_count 71 = .ok (.iconst 1, 1) := by decide +kernel
theorem dX12_count_72 : decode cX12_count 72 = .ok (.iaload, 1) := by decide +kernel
theorem dX12_count_73 : decode cX12_count 73 = .ok (.ireturn, 1) := by decide +kernel
theorem dX12_count_74 : decode cX12_count 74 = .ok (.aload_n 0, 1) := by decide +kernel
theorem dX12_count_75 : decode cX12_count 75 = .ok (.getfield 7, 3) := by decide +kernel
theorem dX12_count_78 : decode cX12_count 78 = .ok (.iconst 2, 1) := by decide +kernel
theorem dX12_count_79 : decode cX12_count 79 = .ok (.iaload, 1) := by decide +kernel
theorem dX12_count_80 : decode cX12_count 80 = .ok (.ireturn, 1) := by decide +kernel
theorem dX12_count_81 : decode cX12_count 81 = .ok (.aload_n 0, 1) := by decide +kernel
theorem dX12_count_82 : decode cX12_count 82 = .ok (.getfield 7, 3) := by decide +kernel
theorem dX12_count_85 : decode cX12_count 85 = .ok (.iconst 3, 1) := by decide +kernel
theorem dX12_count_86 : decode cX12_count 86 = .ok (.iaload, 1) := by decide +kernel
theorem dX12_count_87 : decode cX12_count 87 = .ok (.ireturn, 1) := by decide +kernel
theorem dX12_count_88 : decode cX12_count 88 = .ok (.aload_n 0, 1) := by decide +kernel
theorem dX12_count_89 : decode cX12_count 89 = .ok (.getfield 17, 3) := by decide +kernel
theorem dX12_count_92 : decode cX12_count 92 = .ok (.iconst 0, 1) := by decide +kernel
theorem dX12_count_93 : decode cX12_count 93 = .ok (.iaload, 1) := by decide +kernel
theorem dX12_count_94 : decode cX12_count 94 = .ok (.ireturn, 1) := by decide +kernel
theorem dX12_count_95 : decode cX12_count 95 = .ok (.aload_n 0, 1) := by decide +kernel
theorem dX12_count_96 : decode cX12_count 96 = .ok (.getfield 17, 3) := by decide +kernel
theorem dX12_count_99 : decode cX12_count 99 = .ok (.iconst 1, 1) := by decide +kernel
theorem dX12_count_100 : decode cX12_count 100 = .ok (.iaload, 1) := by decide +kernel
theorem dX12_count_101 : decode cX12_count 101 = .ok (.ireturn, 1) := by decide +kernel
theorem dX12_count_102 : decode cX12_count 102 = .ok (.aload_n 0, 1) := by decide +kernel
theorem dX12_count_103 : decode cX12_count 103 = .ok (.getfield 17, 3) := by decide +kernel
theorem dX12_count_106 : decode cX12_count 106 = .ok (.iconst 2, 1) := by decide +kernel
theorem dX12_count_107 : decode cX12_count 107 = .ok (.iaload, 1) := by decide +kernel
theorem dX12_count_108 : decode cX12_count 108 = .ok (.ireturn, 1) := by decide +kernel
theorem dX12_count_109 : decode cX12_count 109 = .ok (.aload_n 0, 1) := by decide +kernel
theorem dX12_count_110 : decode cX12_count 110 = .ok (.getfield 7, 3) := by decide +kernel
theorem dX12_count_113 : decode cX12_count 113 = .ok (.iconst 4, 1) := by decide +kernel
theorem dX12_count_114 : decode cX12_count 114 = .ok (.iaload, 1) := by decide +kernel
theorem dX12_count_115 : decode cX12_count 115 = .ok (.ireturn, 1) := by decide +kernel
theorem dX12_count_116 : decode cX12_count 116 = .ok (.iconst 0, 1) := by decide +kernel
theorem dX12_count_117 : decode cX12_count 117 = .ok (.istore_n 3, 1) := by decide +kernel
theorem dX12_count_118 : decode cX12_count 118 = .ok (.iload_n 3, 1) := by decide +kernel
theorem dX12_count_119 : decode cX12_count 119 = .ok (.sipush 300, 3) := by decide +kernel
theorem dX12_count_122 : decode cX12_count 122 = .ok (.aload_n 0, 1) := by decide +kernel
theorem dX12_count_123 : decode cX12_count 123 = .ok (.getfield 7, 3) := by decide +kernel
theorem dX12_count_126 : decode cX12_count 126 = .ok (.iconst 1, 1) := by decide +kernel
theorem dX12_count_127 : decode cX12_count 127 = .ok (.iaload, 1) := by decide +kernel
theorem dX12_count_128 : decode cX12_count 128 = .ok (.imul, 1) := by decide +kernel
theorem dX12_count_129 : decode cX12_count 129 = .ok (.if_icmp .ge 32, 3) := by decide +kernel
theorem dX12_count_132 : decode cX12_count 132 = .ok (.iload_n 2, 1) := by decide +kernel
theorem dX12_count_133 : decode cX12_count 133 = .ok (.aload_n 0, 1) := by decide +kernel
theorem dX12_count_134 : decode cX12_count 134 = .ok (.getfield 7, 3) := by decide +kernel
theorem dX12_count_137 : decode cX12_count 137 = .ok (.sipush 441, 3) := by decide +kernel
theorem dX12_count_140 : decode cX12_count 140 = .ok (.iload_n 3, 1) := by decide +kernel
theorem dX12_count_141 : decode cX12_count 141 = .ok (.iadd, 1) := by decide +kernel
theorem dX12_count_142 : decode cX12_count 142 = .ok (.iaload, 1) := by decide +kernel
theorem dX12_count_143 : decode cX12_count 143 = .ok (.ldc 109, 2) := by decide +kernel
theorem dX12_count_145 : decode cX12_count 145 = .ok (.if_icmp .ne 7, 3) := by decide +kernel
theorem dX12_count_148 : decode cX12_count 148 = .ok (.iconst 0, 1) := by decide +kernel
theorem dX12_count_149 : decode cX12_count 149 = .ok (.goto 4, 3) := by decide +kernel
theorem dX12_count_152 : decode cX12_count 152 = .ok (.iconst 1, 1) := by decide +kernel
theorem dX12_count_153 : decode cX12_count 153 = .ok (.iadd, 1) := by decide +kernel
theorem dX12_count_154 : decode cX12_count 154 = .ok (.istore_n 2, 1) := by decide +kernel
theorem dX12_count_155 : decode cX12_count 155 = .ok (.iinc 3 1, 3) := by decide +kernel
theorem dX12_count_158 : decode cX12_count 158 = .ok (.goto (-40), 3) := by decide +kernel
theorem dX12_count_161 : decode cX12_count 161 = .ok (.iload_n 2, 1) := by decide +kernel
theorem dX12_count_162 : decode cX12_count 162 = .ok (.ireturn, 1) := by decide +kernel
theorem dX12_count_163 : decode cX12_count 163 = .ok (.aload_n 0, 1) := by decide +kernel
theorem dX12_count_164 : decode cX12_count 164 = .ok (.getfield 153, 3) := by decide +kernel
theorem dX12_count_167 : decode cX12_count 167 = .ok (.ireturn, 1) := by decide +kernel
theorem dX12_count_168 : decode cX12_count 168 = .ok (.aload_n 0, 1) := by decide +kernel
theorem dX12_count_169 : decode cX12_count 169 = .ok (.getfield 7, 3) := by decide +kernel
theorem dX12_count_172 : decode cX12_count 172 = .ok (.sipush 7665, 3) := by decide +kernel
theorem dX12_count_175 : decode cX12_count 175 = .ok (.iaload, 1) := by decide +kernel
theorem dX12_count_176 : decode cX12_count 176 = .ok (.ireturn, 1) := by decide +kernel
theorem dX12_count_177 : decode cX12_count 177 = .ok (.iconst (-1), 1) := by decide +kernel
theorem dX12_count_178 : decode cX12_count 178 = .ok (.ireturn, 1) := by decide +kernel
set_option maxHeartbeats 4000000 in
set_option maxRecDepth 100000 in
theorem r_X12_givesOf (l : Launch) (D : va_G) (cy : Nat → ClassId) (sz : Nat) (L : List Nat) (K : Nat → tk_K) (Γ : tk_G) (f : Nat → va_E) (o : Nat) (p0 : Int32) (ho : tp_r L K 39 (0) 0 o) (htx : tx_ok (Γ (43, 8800, 0)) (Γ (45, 1056, 0)) (Γ (46, 22, 0)) (Γ (47, 6, 0)) (Γ (48, 22, 0)) (Γ (49, 22, 0)) (Γ (50, 22, 0)) (Γ (51, 22, 0)) (Γ (42, 3, 0))) (hwy : 0 ≤ p0.toInt ∧ p0.toInt < Γ (42, 3, 0) 2) : Met l yX12_givesOf (tl_w yX12_givesOf cX12_givesOf 6 (some .int)) ({ frames := 3, cells := 0, slots := 0, locals := 77 }) (va_Pc [.ref o, .int p0] (tp_P D cy L K Γ f sz)) (va_Qi (fun (r : Int32) (u : (Nat → va_E) × tk_G) => u.2 (39, 0, 0) 0 = Γ (39, 0, 0) 0 ∧ u.2 (39, 0, 0) 10 = Γ (39, 0, 0) 10 ∧ u.2 (39, 0, 0) 11 = Γ (39, 0, 0) 11 ∧ u.2 (39, 0, 0) 12 = Γ (39, 0, 0) 12 ∧ u.2 (39, 0, 0) 13 = Γ (39, 0, 0) 13 ∧ u.2 (39, 0, 0) 14 = Γ (39, 0, 0) 14 ∧ u.2 (39, 0, 0) 15 = Γ (39, 0, 0) 15) (tp_BG D cy L K Γ f [39, 58, 57]) (tp_A L sz)) 0 0 (tp_A L sz) := by
  refine Met.ofW (cc := cX12_givesOf) (maxL := 6) (ret := (some .int)) (by decide) rfl ?_
  intro p e s m args below meth c s₁ B hml hv
  obtain ⟨rfl, hsz, hP, hK, hL, hI, hN, hU⟩ := hv
  have hx := B.exec
  have hb := B.bytes
  have hr := B.returns
  have hta := tl_hta (atoms_spec (ws := tl_w yX12_givesOf cX12_givesOf 6 (some .int)) B.pre)
  have hown : s.vm.findClass RX12 = some m.cls := findClass_of_methodNamed B.named
  have hlocks := B.notSynchronized
  subst hsz
  have hI0 := hI
  generalize hAe : tp_A L s.heap.size = A
  have hA : ∀ q : Nat, s.heap.size ≤ q → A q := fun q h => by rw [← hAe]; exact Or.inr h
  have hAL : ∀ q ∈ L, A q := fun q h => by rw [← hAe]; exact Or.inl h
  have hAf : ∀ (H : Heap), s.heap.size ≤ H.size → ∀ q, tp_A L H.size q → A q := fun H h q hq => hq.elim (hAL q) (fun h2 => hA q (Nat.le_trans h h2))
  have hS : va_S A s.heap s.heap [] := va_S.rf
  have hD : va_D A (va_pl L f) := tp_D hL hAL
  have hfr : ∀ b, (K b).1 ∉ ([39, 58, 57] : List Nat) → f b = f b := fun _ _ => rfl
  have hgr : ∀ κ : tk_K, κ.1 ∉ ([39, 58, 57] : List Nat) → Γ κ = Γ κ := fun _ _ => rfl
  have hl := lv_entry ([.ref o, .int p0]) (n := 6) (Nat.le_of_ble_eq_true rfl)
  rw [lg_entry_eq]
  generalize (lg_sl ([.ref o, .int p0]) ++ List.replicate (6 - (lg_sl ([.ref o, .int p0])).length) Slot.unset).toArray = ls at hl ⊢
  have hl : lv_has ls 6 [(0, .ref o), (1, .int p0)] := hl
  have htb := htx.1
  obtain ⟨hnc, htst, hsum, _⟩ := htx.2 (14 + p0.toInt) (by omega)
  have hsu := hsum (Or.inr (by omega))
  refine lv_bipush (v := 14) hx hb dX12_givesOf_0 (by decide) ?_
  refine lv_iload_n hx hb dX12_givesOf_2 rfl (lv_at hl 1 rfl) ?_
  refine lv_iadd hx hb dX12_givesOf_3 ?_
  refine lv_topi (fun z_1 ez_1 => ?_)
  try have iz_1 : z_1.toInt = (14 : Int) + p0.toInt := by rw [ez_1]; exact tl_addN 14 p0 rfl rfl (by omega) (by omega)
  refine lv_istore_n (lv' := [(2, .int z_1), (0, .ref o), (1, .int p0)]) hx hb dX12_givesOf_4 rfl hl (by decide) rfl (fun ls hl => ?_)
  refine lv_iconst (v := 0) hx hb dX12_givesOf_5 (by decide) ?_
  refine lv_istore_n (lv' := [(3, .int 0), (2, .int z_1), (0, .ref o), (1, .int p0)]) hx hb dX12_givesOf_6 rfl hl (by decide) rfl (fun ls hl => ?_)
  refine tq_start hP hS (fun H locs hP hS => ?_)
  refine tl_ind (G := fun H locs ls => W p l e ((headSpec (tl_w yX12_givesOf cX12_givesOf 6 (some .int)) ({ frames := 3, cells := 0, slots := 0, locals := 77 })).room) s m #[.ref o, .int p0] below meth c H locs 0 0 (MQ below (va_Qi (fun (r : Int32) (u : (Nat → va_E) × tk_G) => u.2 (39, 0, 0) 0 = Γ (39, 0, 0) 0 ∧ u.2 (39, 0, 0) 10 = Γ (39, 0, 0) 10 ∧ u.2 (39, 0, 0) 11 = Γ (39, 0, 0) 11 ∧ u.2 (39, 0, 0) 12 = Γ (39, 0, 0) 12 ∧ u.2 (39, 0, 0) 13 = Γ (39, 0, 0) 13 ∧ u.2 (39, 0, 0) 14 = Γ (39, 0, 0) 14 ∧ u.2 (39, 0, 0) 15 = Γ (39, 0, 0) 15) (tp_BG D cy L K Γ f [39, 58, 57]) A) #[.ref o, .int p0] s 0 0 A) (F0 m 7 ls [])) (α := (Nat → va_E) × Int32) (fun aq => (4 - aq.2.toInt).toNat) (fun aq H locs ls => (0 ≤ aq.2.toInt) ∧ va_P D vwCl (va_pl L aq.1) H ∧ tp_I cy L K Γ aq.1 ∧ (∀ b, (K b).1 ∉ ([39, 58, 57] : List Nat) → aq.1 b = f b) ∧ va_S A s.heap H locs ∧ lv_has ls 6 [(3, .int aq.2), (2, .int z_1), (0, .ref o), (1, .int p0)]) ?_ (f, (0 : Int32)) H locs ls ⟨(show 0 ≤ (0 : Int) from (by omega)), hP, hI, hfr, hS, lv_sub hl [0, 1, 2, 3] rfl⟩
  rintro ⟨f_2, v3⟩ H locs ls ⟨hr3, hP, hI, hfr, hS, hl⟩ ih7
  have hP : va_P D vwCl (va_pl L f_2) H := hP
  have hI : tp_I cy L K Γ f_2 := hI
  have hfr : ∀ b, (K b).1 ∉ ([39, 58, 57] : List Nat) → f_2 b = f b := hfr
  have hD : va_D A (va_pl L f_2) := tp_D hL hAL
  have hr3 : 0 ≤ v3.toInt := hr3
  have hl : lv_has ls 6 [(3, .int v3), (2, .int z_1), (0, .ref o), (1, .int p0)] := hl
  refine lv_iload_n hx hb dX12_givesOf_7 rfl (lv_at hl 0 rfl) ?_
  refine lv_iconst (v := 4) hx hb dX12_givesOf_8 (by decide) ?_
  refine lv_icmp_ge (tgt := 33) hx hb dX12_givesOf_9 (by decide) (fun c_3 => ?_) (fun c_3 => ?_)
  · have c_3 : (4 : Int) ≤ v3.toInt := tl_le c_3
    refine lv_aload_n hx hb dX12_givesOf_33 rfl (lv_at hl 2 rfl) ?_
    obtain ⟨r_5, v_6, q_7, hf_4, hr_8, hv_9⟩ := (show tp_o_M L K 0 0 (Γ (39, 0, 0)) (f_2 o) from hI.at ho)
    refine tp_get (cy := cy) (ci := 12) (v := .ref (r_5 18)) (C := RX12) (T := TX12) (N := 49) hx hb hta inlX12 hown hK hP ho.1 hf_4 rfl 28 (by decide) (hta _ wk_168) (fun _ h9 => h9) rfl dX12_givesOf_34 ?_
    refine lv_iconst (v := 4) hx hb dX12_givesOf_37 (by decide) ?_
    refine lv_aload_n hx hb dX12_givesOf_38 rfl (lv_at hl 2 rfl) ?_
    refine tp_get (cy := cy) (ci := 12) (v := .ref (r_5 0)) (C := RX12) (T := TX12) (N := 49) hx hb hta inlX12 hown hK hP ho.1 hf_4 rfl 0 (by decide) (hta _ wk_149) (fun _ h9 => h9) rfl dX12_givesOf_39 ?_
    refine lv_iconst (v := 0) hx hb dX12_givesOf_42 (by decide) ?_
    obtain ⟨g_19, hf_18, hg_20⟩ := (show tp_gi cy (7666) (Γ (40, 7666, 0)) (f (r_5 0)) from hI0.at (show tp_r L K 40 7666 0 (r_5 0) from hr_8 0 (by decide)))
    have hn_21 : vp_in 0 (7666) := tl_in (by decide) (by decide)
    refine tp_iald (cy := cy) hx hb hK hP (show tp_r L K 40 7666 0 (r_5 0) from hr_8 0 (by decide)).1 ((tp_un hfr (show tp_r L K 40 7666 0 (r_5 0) from hr_8 0 (by decide)) (by decide)).trans hf_18) hn_21 dX12_givesOf_43 ?_
    refine lv_topi (fun z_22 ez_22 => ?_)
    have iz_22 : z_22.toInt = Γ (40, 7666, 0) 0 := by rw [ez_22]; exact hg_20 _ (tp_pin hn_21)
    refine lv_i2l (v := z_22.toInt64) hx hb dX12_givesOf_44 (by first | rfl | decide) ?_
    obtain ⟨g_24, hf_23⟩ := (show tp_aj cy (5) (f_2 (r_5 18)) from hI.at (show tp_r L K 58 5 0 (r_5 18) from hr_8 18 (by decide)))
    have hn_26 : vp_in 4 (5) := tl_in (by decide) (by decide)
    have hI9 : tp_I cy L K Γ (va_up f_2 (r_5 18) (.inl (cy 1, 5, .inr (.inl (vp_updL g_24 (4 : Int32).toNatClampNeg z_22.toInt64))))) := hI.set (show tp_r L K 58 5 0 (r_5 18) from hr_8 18 (by decide)) (show tp_aj cy (5) _ from ⟨_, rfl⟩)
    have hfr9 : ∀ b, (K b).1 ∉ ([39, 58, 57] : List Nat) → va_up f_2 (r_5 18) (.inl (cy 1, 5, .inr (.inl (vp_updL g_24 (4 : Int32).toNatClampNeg z_22.toInt64)))) b = f b := tp_fr hfr (show tp_r L K 58 5 0 (r_5 18) from hr_8 18 (by decide)) (by decide)
    refine tp_last (cy := cy) hx hb hK hP hD hS (show tp_r L K 58 5 0 (r_5 18) from hr_8 18 (by decide)).1 hf_23 hn_26 dX12_givesOf_45 (fun H locs hP hD hS => ?_)
    have hP : va_P D vwCl (va_pl L (va_up f_2 (r_5 18) (.inl (cy 1, 5, .inr (.inl (vp_updL g_24 (4 : Int32).toNatClampNeg z_22.toInt64)))))) H := hP
    generalize hfe : va_up f_2 (r_5 18) (.inl (cy 1, 5, .inr (.inl (vp_updL g_24 (4 : Int32).toNatClampNeg z_22.toInt64)))) = f_27 at hP hI9 hfr9
    have hD : va_D A (va_pl L f_27) := tp_D hL hAL
    have hf_28 := (show f_27 o = _ from by rw [← hfe, va_up_ne _ _ (tp_ne ho (show tp_r L K 58 5 0 (r_5 18) from hr_8 18 (by decide)) (by decide))]).trans hf_4
    have hf_29 : f_27 (r_5 18) = .inl (cy 1, 5, .inr (.inl (vp_updL g_24 (4 : Int32).toNatClampNeg z_22.toInt64))) := by rw [← hfe]; exact va_up_self _ _ _
    clear hfe
    have hI := hI9
    have hfr := hfr9
    clear hI9 hfr9
    refine lv_lconst (v := 0) hx hb dX12_givesOf_46 (by decide) ?_
    refine lv_lstore_n (lv' := [(3, .long 0), (2, .int z_1), (0, .ref o), (1, .int p0)]) hx hb dX12_givesOf_47 rfl hl (by decide) rfl (fun ls hl => ?_)
    refine lv_iconst (v := 0) hx hb dX12_givesOf_48 (by decide) ?_
    refine lv_istore (lv' := [(5, .int 0), (3, .long 0), (2, .int z_1), (0, .ref o), (1, .int p0)]) hx hb dX12_givesOf_49 hl (by decide) rfl (fun ls hl => ?_)
    refine tl_ind (G := fun H locs ls => W p l e ((headSpec (tl_w yX12_givesOf cX12_givesOf 6 (some .int)) ({ frames := 3, cells := 0, slots := 0, locals := 77 })).room) s m #[.ref o, .int p0] below meth c H locs 0 0 (MQ below (va_Qi (fun (r : Int32) (u : (Nat → va_E) × tk_G) => u.2 (39, 0, 0) 0 = Γ (39, 0, 0) 0 ∧ u.2 (39, 0, 0) 10 = Γ (39, 0, 0) 10 ∧ u.2 (39, 0, 0) 11 = Γ (39, 0, 0) 11 ∧ u.2 (39, 0, 0) 12 = Γ (39, 0, 0) 12 ∧ u.2 (39, 0, 0) 13 = Γ (39, 0, 0) 13 ∧ u.2 (39, 0, 0) 14 = Γ (39, 0, 0) 14 ∧ u.2 (39, 0, 0) 15 = Γ (39, 0, 0) 15) (tp_BG D cy L K Γ f [39, 58, 57]) A) #[.ref o, .int p0] s 0 0 A) (F0 m 51 ls [])) (α := (Nat → va_E) × tk_G × Int32 × Int64) (fun aq => (12 - aq.2.2.1.toInt).toNat) (fun aq H locs ls => (0 ≤ aq.2.2.1.toInt ∧ aq.2.2.1.toInt ≤ 12) ∧ (aq.2.1 (39, 0, 0) 0 = Γ (39, 0, 0) 0) ∧ (aq.2.1 (39, 0, 0) 10 = Γ (39, 0, 0) 10) ∧ (aq.2.1 (39, 0, 0) 11 = Γ (39, 0, 0) 11) ∧ (aq.2.1 (39, 0, 0) 12 = Γ (39, 0, 0) 12) ∧ (aq.2.1 (39, 0, 0) 13 = Γ (39, 0, 0) 13) ∧ (aq.2.1 (39, 0, 0) 14 = Γ (39, 0, 0) 14) ∧ (aq.2.1 (39, 0, 0) 15 = Γ (39, 0, 0) 15) ∧ va_P D vwCl (va_pl L aq.1) H ∧ tp_I cy L K aq.2.1 aq.1 ∧ (∀ b, (K b).1 ∉ ([39, 58, 57] : List Nat) → aq.1 b = f b) ∧ (∀ κ : tk_K, κ.1 ∉ ([39, 58, 57] : List Nat) → aq.2.1 κ = Γ κ) ∧ va_S A s.heap H locs ∧ lv_has ls 6 [(5, .int aq.2.2.1), (3, .long aq.2.2.2), (2, .int z_1), (0, .ref o), (1, .int p0)]) ?_ (f_27, Γ, (0 : Int32), (0 : Int64)) H locs ls ⟨(show 0 ≤ (0 : Int) ∧ (0 : Int) ≤ 12 from (by omega)), (show Γ (39, 0, 0) 0 = Γ (39, 0, 0) 0 from (by omega)), (show Γ (39, 0, 0) 10 = Γ (39, 0, 0) 10 from (by omega)), (show Γ (39, 0, 0) 11 = Γ (39, 0, 0) 11 from (by omega)), (show Γ (39, 0, 0) 12 = Γ (39, 0, 0) 12 from (by omega)), (show Γ (39, 0, 0) 13 = Γ (39, 0, 0) 13 from (by omega)), (show Γ (39, 0, 0) 14 = Γ (39, 0, 0) 14 from (by omega)), (show Γ (39, 0, 0) 15 = Γ (39, 0, 0) 15 from (by omega)), hP, hI, hfr, hgr, hS, lv_sub hl [0, 1, 2, 3, 4] rfl⟩
    rintro ⟨f_30, Γ_31, v5, v3⟩ H locs ls ⟨hr5, q0, q10, q11, q12, q13, q14, q15, hP, hI, hfr, hgr, hS, hl⟩ ih51
    have hgr : ∀ κ : tk_K, κ.1 ∉ ([39, 58, 57] : List Nat) → Γ_31 κ = Γ κ := hgr
    have hP : va_P D vwCl (va_pl L f_30) H := hP
    have hI : tp_I cy L K Γ_31 f_30 := hI
    have hfr : ∀ b, (K b).1 ∉ ([39, 58, 57] : List Nat) → f_30 b = f b := hfr
    have hD : va_D A (va_pl L f_30) := tp_D hL hAL
    have hr5 : 0 ≤ v5.toInt ∧ v5.toInt ≤ 12 := hr5
    have q0 : Γ_31 (39, 0, 0) 0 = Γ (39, 0, 0) 0 := q0
    have q10 : Γ_31 (39, 0, 0) 10 = Γ (39, 0, 0) 10 := q10
    have q11 : Γ_31 (39, 0, 0) 11 = Γ (39, 0, 0) 11 := q11
    have q12 : Γ_31 (39, 0, 0) 12 = Γ (39, 0, 0) 12 := q12
    have q13 : Γ_31 (39, 0, 0) 13 = Γ (39, 0, 0) 13 := q13
    have q14 : Γ_31 (39, 0, 0) 14 = Γ (39, 0, 0) 14 := q14
    have q15 : Γ_31 (39, 0, 0) 15 = Γ (39, 0, 0) 15 := q15
    have hl : lv_has ls 6 [(5, .int v5), (3, .long v3), (2, .int z_1), (0, .ref o), (1, .int p0)] := hl
    refine lv_iload hx hb dX12_givesOf_51 (lv_at hl 0 rfl) ?_
    refine lv_aload_n hx hb dX12_givesOf_53 rfl (lv_at hl 3 rfl) ?_
    obtain ⟨r_33, v_34, q_35, hf_32, hr_36, hv_37⟩ := (show tp_o_M L K 0 0 (Γ_31 (39, 0, 0)) (f_30 o) from hI.at ho)
    refine tp_get (cy := cy) (ci := 12) (v := .ref (r_33 6)) (C := RX12) (T := TX12) (N := 49) hx hb hta inlX12 hown hK hP ho.1 hf_32 rfl 7 (by decide) (hta _ wk_156) (fun _ h9 => h9) rfl dX12_givesOf_54 ?_
    refine lv_iload_n hx hb dX12_givesOf_57 rfl (lv_at hl 2 rfl) ?_
    obtain ⟨g_47, hf_46, hg_48⟩ := (show tp_gi cy (22) (Γ (46, 22, 0)) (f (r_33 6)) from hI0.at (show tp_r L K 46 22 0 (r_33 6) from hr_36 6 (by decide)))
    have hn_49 : vp_in z_1 (22) := tl_in (by omega) (by omega)
    refine tp_iald (cy := cy) hx hb hK hP (show tp_r L K 46 22 0 (r_33 6) from hr_36 6 (by decide)).1 ((tp_un hfr (show tp_r L K 46 22 0 (r_33 6) from hr_36 6 (by decide)) (by decide)).trans hf_46) hn_49 dX12_givesOf_58 ?_
    refine lv_topi (fun z_50 ez_50 => ?_)
    have iz_50 : z_50.toInt = Γ (46, 22, 0) z_1.toInt.toNat := by rw [ez_50]; exact hg_48 _ (tp_pin hn_49)
    have kz_50 : z_50.toInt = Γ (46, 22, 0) (14 + p0.toInt).toNat := iz_50.trans (congrArg _ (by omega))
    refine lv_icmp_ge (tgt := 88) hx hb dX12_givesOf_59 (by decide) (fun c_51 => ?_) (fun c_51 => ?_)
    · have c_51 : z_50.toInt ≤ v5.toInt := tl_le c_51
      refine lv_lload_n hx hb dX12_givesOf_88 rfl (lv_at hl 1 rfl) ?_
      refine lv_lconst (v := 0) hx hb dX12_givesOf_89 (by decide) ?_
      refine lv_ldc2 (v := 99999999) hx hb hown (hta _ wk_1443) dX12_givesOf_90 ?_
      refine tl_sl (tq_rS (As := [.long v3, .long 0, .long 99999999]) (rest := []) ⟨hx, hb, hml, hown, hta⟩ (tp_P.pre hK hN hL hU hI hP) lk_X12_366 (r_X12_held l D cy H.size L K Γ_31 f_30 v3 0 99999999 ) rfl rfl ⟨Nat.le_of_ble_eq_true rfl, Nat.le_of_ble_eq_true rfl⟩ rfl hl.1 rfl (Nat.le_of_ble_eq_true rfl) dX12_givesOf_93 ⟨Nat.le_of_ble_eq_true rfl, Nat.le_of_ble_eq_true rfl⟩) (fun r_53 hw_52 => ?_)
      refine lv_l2i hx hb dX12_givesOf_96 rfl ?_
      refine lv_topi (fun z_54 ez_54 => ?_)
      have hpo9 : Γ_31 (39, 0, 0) 0 = Γ (39, 0, 0) 0 ∧ Γ_31 (39, 0, 0) 10 = Γ (39, 0, 0) 10 ∧ Γ_31 (39, 0, 0) 11 = Γ (39, 0, 0) 11 ∧ Γ_31 (39, 0, 0) 12 = Γ (39, 0, 0) 12 ∧ Γ_31 (39, 0, 0) 13 = Γ (39, 0, 0) 13 ∧ Γ_31 (39, 0, 0) 14 = Γ (39, 0, 0) 14 ∧ Γ_31 (39, 0, 0) 15 = Γ (39, 0, 0) 15 := ⟨(by omega), (by omega), (by omega), (by omega), (by omega), (by omega), (by omega)⟩
      exact W.iret (v := z_54) hx hb hr (fun t ht hW => ⟨⟨_, (f_30, Γ_31), rfl, hpo9, by rw [ht]; exact hP, hI, hfr, hgr⟩, hS.F ht⟩) hS.2.2 dX12_givesOf_97
    · have c_51 : v5.toInt < z_50.toInt := tl_nle c_51
      refine lv_aload_n hx hb dX12_givesOf_62 rfl (lv_at hl 3 rfl) ?_
      refine lv_iload_n hx hb dX12_givesOf_63 rfl (lv_at hl 2 rfl) ?_
      refine lv_iload hx hb dX12_givesOf_64 (lv_at hl 0 rfl) ?_
      refine tq_ciR hS (hAf _ hS.1) (tq_rV (As := [.int z_1, .int v5]) (rest := []) ⟨hx, hb, hml, hown, hta⟩ (tp_P.pre hK hN hL hU hI hP) (tp_recv hK hP ho.1 hf_32 rfl) lk_X12_355 (r_X12_isHolding l D cy H.size L K Γ_31 f_30 o z_1 v5 ho (by first | omega | (simp only [Int32.toInt_toInt64]; omega) | decide | assumption) (by first | omega | (simp only [Int32.toInt_toInt64]; omega) | decide | assumption) (by rw [hgr (45, 1056, 0) (by decide), hgr (43, 8800, 0) (by decide)]; have q9 := htst v5.toInt.toNat (by omega); rw [show ((v5.toInt.toNat : Nat) : Int) = v5.toInt from by omega, show (14 + p0.toInt) = z_1.toInt from by omega] at q9; exact q9)) rfl rfl ⟨Nat.le_of_ble_eq_true rfl, Nat.le_of_ble_eq_true rfl⟩ rfl hl.1 rfl (Nat.le_of_ble_eq_true rfl) dX12_givesOf_66 ⟨Nat.le_of_ble_eq_true rfl, Nat.le_of_ble_eq_true rfl⟩) (fun r_56 f_57 Γ_59 H locs hw_55 hP hI hc_58 hcg_60 hS => ?_)
      have hD : va_D A (va_pl L f_57) := tp_D hL hAL
      have hfr := tp_fr2 hfr hc_58 (by decide)
      have hgr : ∀ κ : tk_K, κ.1 ∉ ([39, 58, 57] : List Nat) → Γ_59 κ = Γ κ := tg_fr2 hgr hcg_60 (by decide)
      obtain ⟨hE_61, hw_55⟩ := hw_55
      have hE_61 : tl_J r_56 (True) := hE_61
      have hw_55 : Γ_59 (39, 0, 0) 0 = Γ_31 (39, 0, 0) 0 ∧ Γ_59 (39, 0, 0) 10 = Γ_31 (39, 0, 0) 10 ∧ Γ_59 (39, 0, 0) 11 = Γ_31 (39, 0, 0) 11 ∧ Γ_59 (39, 0, 0) 12 = Γ_31 (39, 0, 0) 12 ∧ Γ_59 (39, 0, 0) 13 = Γ_31 (39, 0, 0) 13 ∧ Γ_59 (39, 0, 0) 14 = Γ_31 (39, 0, 0) 14 ∧ Γ_59 (39, 0, 0) 15 = Γ_31 (39, 0, 0) 15 := hw_55
      refine lv_if_eq (tgt := 82) hx hb dX12_givesOf_69 (by decide) (fun c_62 => ?_) (fun c_62 => ?_)
      · have c_62 := c_62
        obtain ⟨z_63, ez_63⟩ : ∃ y : Int32, y = v5 + 1 := ⟨_, rfl⟩
        refine lv_iinc (v := z_63) (lv' := [(5, .int z_63), (3, .long v3), (2, .int z_1), (0, .ref o), (1, .int p0)]) hx hb dX12_givesOf_82 hl (k := 0) rfl (by rw [ez_63]; rfl) (by decide) rfl (fun ls hl => ?_)
        try have iz_63 : z_63.toInt = v5.toInt + 1 := by rw [ez_63]; exact tl_addL v5 1 (by decide) (by omega) (by omega)
        refine lv_goto (tgt := 51) hx hb dX12_givesOf_85 (by decide) ?_
        exact ih51 (f_57, Γ_59, z_63, v3) H locs ls (by show (12 - z_63.toInt).toNat < (12 - v5.toInt).toNat; omega) ⟨(show 0 ≤ z_63.toInt ∧ z_63.toInt ≤ 12 from (by omega)), (show Γ_59 (39, 0, 0) 0 = Γ (39, 0, 0) 0 from (by omega)), (show Γ_59 (39, 0, 0) 10 = Γ (39, 0, 0) 10 from (by omega)), (show Γ_59 (39, 0, 0) 11 = Γ (39, 0, 0) 11 from (by omega)), (show Γ_59 (39, 0, 0) 12 = Γ (39, 0, 0) 12 from (by omega)), (show Γ_59 (39, 0, 0) 13 = Γ (39, 0, 0) 13 from (by omega)), (show Γ_59 (39, 0, 0) 14 = Γ (39, 0, 0) 14 from (by omega)), (show Γ_59 (39, 0, 0) 15 = Γ (39, 0, 0) 15 from (by omega)), hP, hI, hfr, hgr, hS, lv_sub hl [0, 1, 2, 3, 4] rfl⟩
      · have c_62 := hE_61.t c_62
        refine lv_lload_n hx hb dX12_givesOf_72 rfl (lv_at hl 1 rfl) ?_
        refine lv_aload_n hx hb dX12_givesOf_73 rfl (lv_at hl 3 rfl) ?_
        refine lv_iload_n hx hb dX12_givesOf_74 rfl (lv_at hl 2 rfl) ?_
        refine lv_iload hx hb dX12_givesOf_75 (lv_at hl 0 rfl) ?_
        obtain ⟨r_65, v_66, q_67, hf_64, hr_68, hv_69⟩ := (show tp_o_M L K 0 0 (Γ_59 (39, 0, 0)) (f_57 o) from hI.at ho)
        refine tq_clR hS (hAf _ hS.1) (tq_rV (As := [.int z_1, .int v5]) (rest := [.long v3]) ⟨hx, hb, hml, hown, hta⟩ (tp_P.pre hK hN hL hU hI hP) (tp_recv hK hP ho.1 hf_64 rfl) lk_X12_358 (r_X12_summed l D cy H.size L K Γ_59 f_57 o z_1 v5 ho (by first | omega | (simp only [Int32.toInt_toInt64]; omega) | decide | assumption) (by first | omega | (simp only [Int32.toInt_toInt64]; omega) | decide | assumption) (by rw [hgr (45, 1056, 0) (by decide), hgr (43, 8800, 0) (by decide)]; have q9 := hsu v5.toInt.toNat (by omega); rw [show ((v5.toInt.toNat : Nat) : Int) = v5.toInt from by omega, show (14 + p0.toInt) = z_1.toInt from by omega] at q9; exact q9)) rfl rfl ⟨Nat.le_of_ble_eq_true rfl, Nat.le_of_ble_eq_true rfl⟩ rfl hl.1 rfl (Nat.le_of_ble_eq_true rfl) dX12_givesOf_77 ⟨Nat.le_of_ble_eq_true rfl, Nat.le_of_ble_eq_true rfl⟩) (fun r_79 f_80 Γ_82 H locs hw_78 hP hI hc_81 hcg_83 hS => ?_)
        have hD : va_D A (va_pl L f_80) := tp_D hL hAL
        have hfr := tp_fr2 hfr hc_81 (by decide)
        have hgr : ∀ κ : tk_K, κ.1 ∉ ([39, 58, 57] : List Nat) → Γ_82 κ = Γ κ := tg_fr2 hgr hcg_83 (by decide)
        have hw_78 : Γ_82 (39, 0, 0) 0 = Γ_59 (39, 0, 0) 0 ∧ Γ_82 (39, 0, 0) 10 = Γ_59 (39, 0, 0) 10 ∧ Γ_82 (39, 0, 0) 11 = Γ_59 (39, 0, 0) 11 ∧ Γ_82 (39, 0, 0) 12 = Γ_59 (39, 0, 0) 12 ∧ Γ_82 (39, 0, 0) 13 = Γ_59 (39, 0, 0) 13 ∧ Γ_82 (39, 0, 0) 14 = Γ_59 (39, 0, 0) 14 ∧ Γ_82 (39, 0, 0) 15 = Γ_59 (39, 0, 0) 15 := hw_78
        refine lv_ladd hx hb dX12_givesOf_80 ?_
        refine lv_topl (fun z_84 ez_84 => ?_)
        refine lv_lstore_n (lv' := [(3, .long z_84), (5, .int v5), (2, .int z_1), (0, .ref o), (1, .int p0)]) hx hb dX12_givesOf_81 rfl hl (by decide) rfl (fun ls hl => ?_)
        obtain ⟨z_85, ez_85⟩ : ∃ y : Int32, y = v5 + 1 := ⟨_, rfl⟩
        refine lv_iinc (v := z_85) (lv' := [(5, .int z_85), (3, .long z_84), (2, .int z_1), (0, .ref o), (1, .int p0)]) hx hb dX12_givesOf_82 hl (k := 1) rfl (by rw [ez_85]; rfl) (by decide) rfl (fun ls hl => ?_)
        try have iz_85 : z_85.toInt = v5.toInt + 1 := by rw [ez_85]; exact tl_addL v5 1 (by decide) (by omega) (by omega)
        refine lv_goto (tgt := 51) hx hb dX12_givesOf_85 (by decide) ?_
        exact ih51 (f_80, Γ_82, z_85, z_84) H locs ls (by show (12 - z_85.toInt).toNat < (12 - v5.toInt).toNat; omega) ⟨(show 0 ≤ z_85.toInt ∧ z_85.toInt ≤ 12 from (by omega)), (show Γ_82 (39, 0, 0) 0 = Γ (39, 0, 0) 0 from (by omega)), (show Γ_82 (39, 0, 0) 10 = Γ (39, 0, 0) 10 from (by omega)), (show Γ_82 (39, 0, 0) 11 = Γ (39, 0, 0) 11 from (by omega)), (show Γ_82 (39, 0, 0) 12 = Γ (39, 0, 0) 12 from (by omega)), (show Γ_82 (39, 0, 0) 13 = Γ (39, 0, 0) 13 from (by omega)), (show Γ_82 (39, 0, 0) 14 = Γ (39, 0, 0) 14 from (by omega)), (show Γ_82 (39, 0, 0) 15 = Γ (39, 0, 0) 15 from (by omega)), hP, hI, hfr, hgr, hS, lv_sub hl [0, 1, 2, 3, 4] rfl⟩
  · have c_3 : v3.toInt < (4 : Int) := tl_nle c_3
    refine lv_aload_n hx hb dX12_givesOf_12 rfl (lv_at hl 2 rfl) ?_
    obtain ⟨r_87, v_88, q_89, hf_86, hr_90, hv_91⟩ := (show tp_o_M L K 0 0 (Γ (39, 0, 0)) (f_2 o) from hI.at ho)
    refine tp_get (cy := cy) (ci := 12) (v := .ref (r_87 18)) (C := RX12) (T := TX12) (N := 49) hx hb hta inlX12 hown hK hP ho.1 hf_86 rfl 28 (by decide) (hta _ wk_168) (fun _ h9 => h9) rfl dX12_givesOf_13 ?_
    refine lv_iload_n hx hb dX12_givesOf_16 rfl (lv_at hl 0 rfl) ?_
    refine lv_aload_n hx hb dX12_givesOf_17 rfl (lv_at hl 2 rfl) ?_
    refine tp_get (cy := cy) (ci := 12) (v := .ref (r_87 0)) (C := RX12) (T := TX12) (N := 49) hx hb hta inlX12 hown hK hP ho.1 hf_86 rfl 0 (by decide) (hta _ wk_149) (fun _ h9 => h9) rfl dX12_givesOf_18 ?_
    refine lv_iconst (v := 5) hx hb dX12_givesOf_21 (by decide) ?_
    refine lv_iload_n hx hb dX12_givesOf_22 rfl (lv_at hl 0 rfl) ?_
    refine lv_iadd hx hb dX12_givesOf_23 ?_
    refine lv_topi (fun z_100 ez_100 => ?_)
    try have iz_100 : z_100.toInt = (5 : Int) + v3.toInt := by rw [ez_100]; exact tl_addN 5 v3 rfl rfl (by omega) (by omega)
    obtain ⟨g_102, hf_101, hg_103⟩ := (show tp_gi cy (7666) (Γ (40, 7666, 0)) (f (r_87 0)) from hI0.at (show tp_r L K 40 7666 0 (r_87 0) from hr_90 0 (by decide)))
    have hn_104 : vp_in z_100 (7666) := tl_in (by omega) (by omega)
    refine tp_iald (cy := cy) hx hb hK hP (show tp_r L K 40 7666 0 (r_87 0) from hr_90 0 (by decide)).1 ((tp_un hfr (show tp_r L K 40 7666 0 (r_87 0) from hr_90 0 (by decide)) (by decide)).trans hf_101) hn_104 dX12_givesOf_24 ?_
    refine lv_topi (fun z_105 ez_105 => ?_)
    have iz_105 : z_105.toInt = Γ (40, 7666, 0) z_100.toInt.toNat := by rw [ez_105]; exact hg_103 _ (tp_pin hn_104)
    refine lv_i2l (v := z_105.toInt64) hx hb dX12_givesOf_25 (by first | rfl | decide) ?_
    obtain ⟨g_107, hf_106⟩ := (show tp_aj cy (5) (f_2 (r_87 18)) from hI.at (show tp_r L K 58 5 0 (r_87 18) from hr_90 18 (by decide)))
    have hn_109 : vp_in v3 (5) := tl_in (by omega) (by omega)
    have hI9 : tp_I cy L K Γ (va_up f_2 (r_87 18) (.inl (cy 1, 5, .inr (.inl (vp_updL g_107 v3.toNatClampNeg z_105.toInt64))))) := hI.set (show tp_r L K 58 5 0 (r_87 18) from hr_90 18 (by decide)) (show tp_aj cy (5) _ from ⟨_, rfl⟩)
    have hfr9 : ∀ b, (K b).1 ∉ ([39, 58, 57] : List Nat) → va_up f_2 (r_87 18) (.inl (cy 1, 5, .inr (.inl (vp_updL g_107 v3.toNatClampNeg z_105.toInt64)))) b = f b := tp_fr hfr (show tp_r L K 58 5 0 (r_87 18) from hr_90 18 (by decide)) (by decide)
    refine tp_last (cy := cy) hx hb hK hP hD hS (show tp_r L K 58 5 0 (r_87 18) from hr_90 18 (by decide)).1 hf_106 hn_109 dX12_givesOf_26 (fun H locs hP hD hS => ?_)
    have hP : va_P D vwCl (va_pl L (va_up f_2 (r_87 18) (.inl (cy 1, 5, .inr (.inl (vp_updL g_107 v3.toNatClampNeg z_105.toInt64)))))) H := hP
    generalize hfe : va_up f_2 (r_87 18) (.inl (cy 1, 5, .inr (.inl (vp_updL g_107 v3.toNatClampNeg z_105.toInt64)))) = f_110 at hP hI9 hfr9
    have hD : va_D A (va_pl L f_110) := tp_D hL hAL
    have hf_111 := (show f_110 o = _ from by rw [← hfe, va_up_ne _ _ (tp_ne ho (show tp_r L K 58 5 0 (r_87 18) from hr_90 18 (by decide)) (by decide))]).trans hf_86
    have hf_112 : f_110 (r_87 18) = .inl (cy 1, 5, .inr (.inl (vp_updL g_107 v3.toNatClampNeg z_105.toInt64))) := by rw [← hfe]; exact va_up_self _ _ _
    clear hfe
    have hI := hI9
    have hfr := hfr9
    clear hI9 hfr9
    obtain ⟨z_113, ez_113⟩ : ∃ y : Int32, y = v3 + 1 := ⟨_, rfl⟩
    refine lv_iinc (v := z_113) (lv' := [(3, .int z_113), (2, .int z_1), (0, .ref o), (1, .int p0)]) hx hb dX12_givesOf_27 hl (k := 0) rfl (by rw [ez_113]; rfl) (by decide) rfl (fun ls hl => ?_)
    try have iz_113 : z_113.toInt = v3.toInt + 1 := by rw [ez_113]; exact tl_addL v3 1 (by decide) (by omega) (by omega)
    refine lv_goto (tgt := 7) hx hb dX12_givesOf_30 (by decide) ?_
    exact ih7 (f_110, z_113) H locs ls (by show (4 - z_113.toInt).toNat < (4 - v3.toInt).toNat; omega) ⟨(show 0 ≤ z_113.toInt from (by omega)), hP, hI, hfr, hS, lv_sub hl [0, 1, 2, 3] rfl⟩
set_option maxHeartbeats 4000000 in
set_option maxRecDepth 100000 in
theorem r_X12_gives (l : Launch) (D : va_G) (cy : Nat → ClassId) (sz : Nat) (L : List Nat) (K : Nat → tk_K) (Γ : tk_G) (f : Nat → va_E) (o : Nat) (p0 : Int32) (ho : tp_r L K 39 (0) 0 o) (htx : tx_ok (Γ (43, 8800, 0)) (Γ (45, 1056, 0)) (Γ (46, 22, 0)) (Γ (47, 6, 0)) (Γ (48, 22, 0)) (Γ (49, 22, 0)) (Γ (50, 22, 0)) (Γ (51, 22, 0)) (Γ (42, 3, 0))) : Met l yX12_gives (tl_w yX12_gives cX12_gives 2 (some .int)) ({ frames := 4, cells := 0, slots := 0, locals := 102 }) (va_Pc [.ref o, .int p0] (tp_P D cy L K Γ f sz)) (va_Qi (fun (r : Int32) (u : (Nat → va_E) × tk_G) => u.2 (39, 0, 0) 0 = Γ (39, 0, 0) 0) (tp_BG D cy L K Γ f [39, 58, 57]) (tp_A L sz)) 0 0 (tp_A L sz) := by
  refine Met.ofW (cc := cX12_gives) (maxL := 2) (ret := (some .int)) (by decide) rfl ?_
  intro p e s m args below meth c s₁ B hml hv
  obtain ⟨rfl, hsz, hP, hK, hL, hI, hN, hU⟩ := hv
  have hx := B.exec
  have hb := B.bytes
  have hr := B.returns
  have hta := tl_hta (atoms_spec (ws := tl_w yX12_gives cX12_gives 2 (some .int)) B.pre)
  have hown : s.vm.findClass RX12 = some m.cls := findClass_of_methodNamed B.named
  have hlocks := B.notSynchronized
  subst hsz
  have hI0 := hI
  generalize hAe : tp_A L s.heap.size = A
  have hA : ∀ q : Nat, s.heap.size ≤ q → A q := fun q h => by rw [← hAe]; exact Or.inr h
  have hAL : ∀ q ∈ L, A q := fun q h => by rw [← hAe]; exact Or.inl h
  have hAf : ∀ (H : Heap), s.heap.size ≤ H.size → ∀ q, tp_A L H.size q → A q := fun H h q hq => hq.elim (hAL q) (fun h2 => hA q (Nat.le_trans h h2))
  have hS : va_S A s.heap s.heap [] := va_S.rf
  have hD : va_D A (va_pl L f) := tp_D hL hAL
  have hfr : ∀ b, (K b).1 ∉ ([39, 58, 57] : List Nat) → f b = f b := fun _ _ => rfl
  have hgr : ∀ κ : tk_K, κ.1 ∉ ([39, 58, 57] : List Nat) → Γ κ = Γ κ := fun _ _ => rfl
  have hl := lv_entry ([.ref o, .int p0]) (n := 2) (Nat.le_of_ble_eq_true rfl)
  rw [lg_entry_eq]
  generalize (lg_sl ([.ref o, .int p0]) ++ List.replicate (2 - (lg_sl ([.ref o, .int p0])).length) Slot.unset).toArray = ls at hl ⊢
  have hl : lv_has ls 2 [(0, .ref o), (1, .int p0)] := hl
  have htb := htx.1
  refine lv_aload_n hx hb dX12_gives_0 rfl (lv_at hl 0 rfl) ?_
  refine lv_iconst (v := 2) hx hb dX12_gives_1 (by decide) ?_
  refine lv_iload_n hx hb dX12_gives_2 rfl (lv_at hl 1 rfl) ?_
  obtain ⟨r_2, v_3, q_4, hf_1, hr_5, hv_6⟩ := (show tp_o_M L K 0 0 (Γ (39, 0, 0)) (f o) from hI.at ho)
  refine tl_si (tq_rV (As := [.int 2, .int p0]) (rest := []) ⟨hx, hb, hml, hown, hta⟩ (tp_P.pre hK hN hL hU hI hP) (tp_recv hK hP ho.1 hf_1 rfl) lk_X12_382 (r_isText_2 l D cy s.heap.size L K Γ f o p0 ho) rfl rfl ⟨Nat.le_of_ble_eq_true rfl, Nat.le_of_ble_eq_true rfl⟩ rfl hl.1 rfl (Nat.le_of_ble_eq_true rfl) dX12_gives_3 ⟨Nat.le_of_ble_eq_true rfl, Nat.le_of_ble_eq_true rfl⟩) (fun r_15 hw_14 => ?_)
  have hw_14 : tl_E r_15 (0 ≤ p0.toInt ∧ p0.toInt < Γ (42, 3, 0) 2) 1 0 := hw_14
  refine lv_if_eq (tgt := 17) hx hb dX12_gives_6 (by decide) (fun c_16 => ?_) (fun c_16 => ?_)
  · have c_16 := hw_14.f c_16
    refine lv_iconst (v := (-1)) hx hb dX12_gives_17 (by decide) ?_
    have hpo9 : Γ (39, 0, 0) 0 = Γ (39, 0, 0) 0 := (by omega)
    exact W.iret (v := (-1)) hx hb hr (fun t ht hW => ⟨⟨_, (f, Γ), rfl, hpo9, by rw [ht]; exact hP, hI, hfr, hgr⟩, hS.F ht⟩) hS.2.2 dX12_gives_18
  · have c_16 := hw_14.t c_16
    refine lv_aload_n hx hb dX12_gives_9 rfl (lv_at hl 0 rfl) ?_
    refine lv_iload_n hx hb dX12_gives_10 rfl (lv_at hl 1 rfl) ?_
    refine tq_ciR hS (hAf _ hS.1) (tq_rV (As := [.int p0]) (rest := []) ⟨hx, hb, hml, hown, hta⟩ (tp_P.pre hK hN hL hU hI hP) (tp_recv hK hP ho.1 hf_1 rfl) lk_X12_542 (r_X12_givesOf l D cy s.heap.size L K Γ f o p0 ho (by first | omega | (simp only [Int32.toInt_toInt64]; omega) | decide | assumption) (by first | omega | (simp only [Int32.toInt_toInt64]; omega) | decide | assumption)) rfl rfl ⟨Nat.le_of_ble_eq_true rfl, Nat.le_of_ble_eq_true rfl⟩ rfl hl.1 rfl (Nat.le_of_ble_eq_true rfl) dX12_gives_11 ⟨Nat.le_of_ble_eq_true rfl, Nat.le_of_ble_eq_true rfl⟩) (fun r_18 f_19 Γ_21 H locs hw_17 hP hI hc_20 hcg_22 hS => ?_)
    have hD : va_D A (va_pl L f_19) := tp_D hL hAL
    have hfr := tp_fr2 hfr hc_20 (by decide)
    have hgr : ∀ κ : tk_K, κ.1 ∉ ([39, 58, 57] : List Nat) → Γ_21 κ = Γ κ := tg_fr2 hgr hcg_22 (by decide)
    have hw_17 : Γ_21 (39, 0, 0) 0 = Γ (39, 0, 0) 0 ∧ Γ_21 (39, 0, 0) 10 = Γ (39, 0, 0) 10 ∧ Γ_21 (39, 0, 0) 11 = Γ (39, 0, 0) 11 ∧ Γ_21 (39, 0, 0) 12 = Γ (39, 0, 0) 12 ∧ Γ_21 (39, 0, 0) 13 = Γ (39, 0, 0) 13 ∧ Γ_21 (39, 0, 0) 14 = Γ (39, 0, 0) 14 ∧ Γ_21 (39, 0, 0) 15 = Γ (39, 0, 0) 15 := hw_17
    refine lv_goto (tgt := 18) hx hb dX12_gives_14 (by decide) ?_
    have hpo9 : Γ_21 (39, 0, 0) 0 = Γ (39, 0, 0) 0 := (by omega)
    exact W.iret (v := r_18) hx hb hr (fun t ht hW => ⟨⟨_, (f_19, Γ_21), rfl, hpo9, by rw [ht]; exact hP, hI, hfr, hgr⟩, hS.F ht⟩) hS.2.2 dX12_gives_18
set_option maxHeartbeats 4000000 in
set_option maxRecDepth 100000 in
theorem r_X12_givenBy (l : Launch) (D : va_G) (cy : Nat → ClassId) (sz : Nat) (L : List Nat) (K : Nat → tk_K) (Γ : tk_G) (f : Nat → va_E) (o : Nat) (p0 : Int32) (ho : tp_r L K 39 (0) 0 o) (htx : tx_ok (Γ (43, 8800, 0)) (Γ (45, 1056, 0)) (Γ (46, 22, 0)) (Γ (47, 6, 0)) (Γ (48, 22, 0)) (Γ (49, 22, 0)) (Γ (50, 22, 0)) (Γ (51, 22, 0)) (Γ (42, 3, 0))) : Met l yX12_givenBy (tl_w yX12_givenBy cX12_givenBy 4 (some .int)) ({ frames := 4, cells := 0, slots := 0, locals := 102 }) (va_Pc [.ref o, .int p0] (tp_P D cy L K Γ f sz)) (va_Qi (fun (r : Int32) (u : (Nat → va_E) × tk_G) => u.2 (39, 0, 0) 0 = Γ (39, 0, 0) 0 ∧ u.2 (39, 0, 0) 10 = Γ (39, 0, 0) 10 ∧ u.2 (39, 0, 0) 11 = Γ (39, 0, 0) 11 ∧ u.2 (39, 0, 0) 12 = Γ (39, 0, 0) 12 ∧ u.2 (39, 0, 0) 13 = Γ (39, 0, 0) 13 ∧ u.2 (39, 0, 0) 14 = Γ (39, 0, 0) 14 ∧ u.2 (39, 0, 0) 15 = Γ (39, 0, 0) 15) (tp_BG D cy L K Γ f [39, 58, 57]) (tp_A L sz)) 0 0 (tp_A L sz) := by
  refine Met.ofW (cc := cX12_givenBy) (maxL := 4) (ret := (some .int)) (by decide) rfl ?_
  intro p e s m args below meth c s₁ B hml hv
  obtain ⟨rfl, hsz, hP, hK, hL, hI, hN, hU⟩ := hv
  have hx := B.exec
  have hb := B.bytes
  have hr := B.returns
  have hta := tl_hta (atoms_spec (ws := tl_w yX12_givenBy cX12_givenBy 4 (some .int)) B.pre)
  have hown : s.vm.findClass RX12 = some m.cls := findClass_of_methodNamed B.named
  have hlocks := B.notSynchronized
  subst hsz
  have hI0 := hI
  generalize hAe : tp_A L s.heap.size = A
  have hA : ∀ q : Nat, s.heap.size ≤ q → A q := fun q h => by rw [← hAe]; exact Or.inr h
  have hAL : ∀ q ∈ L, A q := fun q h => by rw [← hAe]; exact Or.inl h
  have hAf : ∀ (H : Heap), s.heap.size ≤ H.size → ∀ q, tp_A L H.size q → A q := fun H h q hq => hq.elim (hAL q) (fun h2 => hA q (Nat.le_trans h h2))
  have hS : va_S A s.heap s.heap [] := va_S.rf
  have hD : va_D A (va_pl L f) := tp_D hL hAL
  have hfr : ∀ b, (K b).1 ∉ ([39, 58, 57] : List Nat) → f b = f b := fun _ _ => rfl
  have hgr : ∀ κ : tk_K, κ.1 ∉ ([39, 58, 57] : List Nat) → Γ κ = Γ κ := fun _ _ => rfl
  have hl := lv_entry ([.ref o, .int p0]) (n := 4) (Nat.le_of_ble_eq_true rfl)
  rw [lg_entry_eq]
  generalize (lg_sl ([.ref o, .int p0]) ++ List.replicate (4 - (lg_sl ([.ref o, .int p0])).length) Slot.unset).toArray = ls at hl ⊢
  have hl : lv_has ls 4 [(0, .ref o), (1, .int p0)] := hl
  have htb := htx.1
  refine lv_iconst (v := 0) hx hb dX12_givenBy_0 (by decide) ?_
  refine lv_istore_n (lv' := [(2, .int 0), (0, .ref o), (1, .int p0)]) hx hb dX12_givenBy_1 rfl hl (by decide) rfl (fun ls hl => ?_)
  refine lv_iconst (v := 0) hx hb dX12_givenBy_2 (by decide) ?_
  refine lv_istore_n (lv' := [(3, .int 0), (2, .int 0), (0, .ref o), (1, .int p0)]) hx hb dX12_givenBy_3 rfl hl (by decide) rfl (fun ls hl => ?_)
  refine tq_start hP hS (fun H locs hP hS => ?_)
  refine tl_ind (G := fun H locs ls => W p l e ((headSpec (tl_w yX12_givenBy cX12_givenBy 4 (some .int)) ({ frames := 4, cells := 0, slots := 0, locals := 102 })).room) s m #[.ref o, .int p0] below meth c H locs 0 0 (MQ below (va_Qi (fun (r : Int32) (u : (Nat → va_E) × tk_G) => u.2 (39, 0, 0) 0 = Γ (39, 0, 0) 0 ∧ u.2 (39, 0, 0) 10 = Γ (39, 0, 0) 10 ∧ u.2 (39, 0, 0) 11 = Γ (39, 0, 0) 11 ∧ u.2 (39, 0, 0) 12 = Γ (39, 0, 0) 12 ∧ u.2 (39, 0, 0) 13 = Γ (39, 0, 0) 13 ∧ u.2 (39, 0, 0) 14 = Γ (39, 0, 0) 14 ∧ u.2 (39, 0, 0) 15 = Γ (39, 0, 0) 15) (tp_BG D cy L K Γ f [39, 58, 57]) A) #[.ref o, .int p0] s 0 0 A) (F0 m 4 ls [])) (α := (Nat → va_E) × tk_G × Int32 × Int32) (fun aq => (8 - aq.2.2.1.toInt).toNat) (fun aq H locs ls => (0 ≤ aq.2.2.1.toInt) ∧ (aq.2.1 (39, 0, 0) 0 = Γ (39, 0, 0) 0) ∧ (aq.2.1 (39, 0, 0) 10 = Γ (39, 0, 0) 10) ∧ (aq.2.1 (39, 0, 0) 11 = Γ (39, 0, 0) 11) ∧ (aq.2.1 (39, 0, 0) 12 = Γ (39, 0, 0) 12) ∧ (aq.2.1 (39, 0, 0) 13 = Γ (39, 0, 0) 13) ∧ (aq.2.1 (39, 0, 0) 14 = Γ (39, 0, 0) 14) ∧ (aq.2.1 (39, 0, 0) 15 = Γ (39, 0, 0) 15) ∧ va_P D vwCl (va_pl L aq.1) H ∧ tp_I cy L K aq.2.1 aq.1 ∧ (∀ b, (K b).1 ∉ ([39, 58, 57] : List Nat) → aq.1 b = f b) ∧ (∀ κ : tk_K, κ.1 ∉ ([39, 58, 57] : List Nat) → aq.2.1 κ = Γ κ) ∧ va_S A s.heap H locs ∧ lv_has ls 4 [(3, .int aq.2.2.1), (2, .int aq.2.2.2), (0, .ref o), (1, .int p0)]) ?_ (f, Γ, (0 : Int32), (0 : Int32)) H locs ls ⟨(show 0 ≤ (0 : Int) from (by omega)), (show Γ (39, 0, 0) 0 = Γ (39, 0, 0) 0 from (by omega)), (show Γ (39, 0, 0) 10 = Γ (39, 0, 0) 10 from (by omega)), (show Γ (39, 0, 0) 11 = Γ (39, 0, 0) 11 from (by omega)), (show Γ (39, 0, 0) 12 = Γ (39, 0, 0) 12 from (by omega)), (show Γ (39, 0, 0) 13 = Γ (39, 0, 0) 13 from (by omega)), (show Γ (39, 0, 0) 14 = Γ (39, 0, 0) 14 from (by omega)), (show Γ (39, 0, 0) 15 = Γ (39, 0, 0) 15 from (by omega)), hP, hI, hfr, hgr, hS, lv_sub hl [0, 1, 2, 3] rfl⟩
  rintro ⟨f_1, Γ_2, v3, v2⟩ H locs ls ⟨hr3, q0, q10, q11, q12, q13, q14, q15, hP, hI, hfr, hgr, hS, hl⟩ ih4
  have hgr : ∀ κ : tk_K, κ.1 ∉ ([39, 58, 57] : List Nat) → Γ_2 κ = Γ κ := hgr
  have hP : va_P D vwCl (va_pl L f_1) H := hP
  have hI : tp_I cy L K Γ_2 f_1 := hI
  have hfr : ∀ b, (K b).1 ∉ ([39, 58, 57] : List Nat) → f_1 b = f b := hfr
  have hD : va_D A (va_pl L f_1) := tp_D hL hAL
  have hr3 : 0 ≤ v3.toInt := hr3
  have q0 : Γ_2 (39, 0, 0) 0 = Γ (39, 0, 0) 0 := q0
  have q10 : Γ_2 (39, 0, 0) 10 = Γ (39, 0, 0) 10 := q10
  have q11 : Γ_2 (39, 0, 0) 11 = Γ (39, 0, 0) 11 := q11
  have q12 : Γ_2 (39, 0, 0) 12 = Γ (39, 0, 0) 12 := q12
  have q13 : Γ_2 (39, 0, 0) 13 = Γ (39, 0, 0) 13 := q13
  have q14 : Γ_2 (39, 0, 0) 14 = Γ (39, 0, 0) 14 := q14
  have q15 : Γ_2 (39, 0, 0) 15 = Γ (39, 0, 0) 15 := q15
  have hl : lv_has ls 4 [(3, .int v3), (2, .int v2), (0, .ref o), (1, .int p0)] := hl
  refine lv_iload_n hx hb dX12_givenBy_4 rfl (lv_at hl 0 rfl) ?_
  refine lv_aload_n hx hb dX12_givenBy_5 rfl (lv_at hl 2 rfl) ?_
  obtain ⟨r_4, v_5, q_6, hf_3, hr_7, hv_8⟩ := (show tp_o_M L K 0 0 (Γ_2 (39, 0, 0)) (f_1 o) from hI.at ho)
  refine tp_get (cy := cy) (ci := 12) (v := .ref (r_4 2)) (C := RX12) (T := TX12) (N := 49) hx hb hta inlX12 hown hK hP ho.1 hf_3 rfl 3 (by decide) (hta _ wk_152) (fun _ h9 => h9) rfl dX12_givenBy_6 ?_
  refine lv_iconst (v := 2) hx hb dX12_givenBy_9 (by decide) ?_
  obtain ⟨g_17, hf_16, hg_18⟩ := (show tp_gi cy (3) (Γ (42, 3, 0)) (f (r_4 2)) from hI0.at (show tp_r L K 42 3 0 (r_4 2) from hr_7 2 (by decide)))
  have hn_19 : vp_in 2 (3) := tl_in (by decide) (by decide)
  refine tp_iald (cy := cy) hx hb hK hP (show tp_r L K 42 3 0 (r_4 2) from hr_7 2 (by decide)).1 ((tp_un hfr (show tp_r L K 42 3 0 (r_4 2) from hr_7 2 (by decide)) (by decide)).trans hf_16) hn_19 dX12_givenBy_10 ?_
  refine lv_topi (fun z_20 ez_20 => ?_)
  have iz_20 : z_20.toInt = Γ (42, 3, 0) 2 := by rw [ez_20]; exact hg_18 _ (tp_pin hn_19)
  refine lv_icmp_ge (tgt := 41) hx hb dX12_givenBy_11 (by decide) (fun c_21 => ?_) (fun c_21 => ?_)
  · have c_21 : z_20.toInt ≤ v3.toInt := tl_le c_21
    refine lv_iload_n hx hb dX12_givenBy_41 rfl (lv_at hl 1 rfl) ?_
    have hpo9 : Γ_2 (39, 0, 0) 0 = Γ (39, 0, 0) 0 ∧ Γ_2 (39, 0, 0) 10 = Γ (39, 0, 0) 10 ∧ Γ_2 (39, 0, 0) 11 = Γ (39, 0, 0) 11 ∧ Γ_2 (39, 0, 0) 12 = Γ (39, 0, 0) 12 ∧ Γ_2 (39, 0, 0) 13 = Γ (39, 0, 0) 13 ∧ Γ_2 (39, 0, 0) 14 = Γ (39, 0, 0) 14 ∧ Γ_2 (39, 0, 0) 15 = Γ (39, 0, 0) 15 := ⟨(by omega), (by omega), (by omega), (by omega), (by omega), (by omega), (by omega)⟩
    exact W.iret (v := v2) hx hb hr (fun t ht hW => ⟨⟨_, (f_1, Γ_2), rfl, hpo9, by rw [ht]; exact hP, hI, hfr, hgr⟩, hS.F ht⟩) hS.2.2 dX12_givenBy_42
  · have c_21 : v3.toInt < z_20.toInt := tl_nle c_21
    refine lv_iload_n hx hb dX12_givenBy_14 rfl (lv_at hl 1 rfl) ?_
    refine lv_iload_n hx hb dX12_givenBy_15 rfl (lv_at hl 3 rfl) ?_
    refine lv_iload_n hx hb dX12_givenBy_16 rfl (lv_at hl 0 rfl) ?_
    refine lv_ishr hx hb dX12_givenBy_17 ?_
    refine lv_topi (fun z_22 ez_22 => ?_)
    refine lv_iconst (v := 1) hx hb dX12_givenBy_18 (by decide) ?_
    refine lv_iand hx hb dX12_givenBy_19 ?_
    refine lv_topi (fun z_23 ez_23 => ?_)
    refine lv_iconst (v := 1) hx hb dX12_givenBy_20 (by decide) ?_
    refine lv_icmp_ne (tgt := 32) hx hb dX12_givenBy_21 (by decide) (fun c_24 => ?_) (fun c_24 => ?_)
    · have c_24 : ¬ z_23.toInt = (1 : Int) := tl_neq c_24
      refine lv_iconst (v := 0) hx hb dX12_givenBy_32 (by decide) ?_
      refine lv_iadd hx hb dX12_givenBy_33 ?_
      refine lv_topi (fun z_25 ez_25 => ?_)
      try have iz_25 : z_25.toInt = v2.toInt + (0 : Int) := by rw [ez_25]; exact tl_addN v2 0 rfl rfl (by omega) (by omega)
      refine lv_istore_n (lv' := [(2, .int z_25), (3, .int v3), (0, .ref o), (1, .int p0)]) hx hb dX12_givenBy_34 rfl hl (by decide) rfl (fun ls hl => ?_)
      obtain ⟨z_26, ez_26⟩ : ∃ y : Int32, y = v3 + 1 := ⟨_, rfl⟩
      refine lv_iinc (v := z_26) (lv' := [(3, .int z_26), (2, .int z_25), (0, .ref o), (1, .int p0)]) hx hb dX12_givenBy_35 hl (k := 1) rfl (by rw [ez_26]; rfl) (by decide) rfl (fun ls hl => ?_)
      try have iz_26 : z_26.toInt = v3.toInt + 1 := by rw [ez_26]; exact tl_addL v3 1 (by decide) (by omega) (by omega)
      refine lv_goto (tgt := 4) hx hb dX12_givenBy_38 (by decide) ?_
      exact ih4 (f_1, Γ_2, z_26, z_25) H locs ls (by show (8 - z_26.toInt).toNat < (8 - v3.toInt).toNat; omega) ⟨(show 0 ≤ z_26.toInt from (by omega)), (show Γ_2 (39, 0, 0) 0 = Γ (39, 0, 0) 0 from (by omega)), (show Γ_2 (39, 0, 0) 10 = Γ (39, 0, 0) 10 from (by omega)), (show Γ_2 (39, 0, 0) 11 = Γ (39, 0, 0) 11 from (by omega)), (show Γ_2 (39, 0, 0) 12 = Γ (39, 0, 0) 12 from (by omega)), (show Γ_2 (39, 0, 0) 13 = Γ (39, 0, 0) 13 from (by omega)), (show Γ_2 (39, 0, 0) 14 = Γ (39, 0, 0) 14 from (by omega)), (show Γ_2 (39, 0, 0) 15 = Γ (39, 0, 0) 15 from (by omega)), hP, hI, hfr, hgr, hS, lv_sub hl [0, 1, 2, 3] rfl⟩
    · have c_24 : z_23.toInt = (1 : Int) := tl_eq c_24
      refine lv_aload_n hx hb dX12_givenBy_24 rfl (lv_at hl 2 rfl) ?_
      refine lv_iload_n hx hb dX12_givenBy_25 rfl (lv_at hl 0 rfl) ?_
      refine tq_ciR hS (hAf _ hS.1) (tq_rV (As := [.int v3]) (rest := [.int v2]) ⟨hx, hb, hml, hown, hta⟩ (tp_P.pre hK hN hL hU hI hP) (tp_recv hK hP ho.1 hf_3 rfl) lk_X12_542 (r_X12_givesOf l D cy H.size L K Γ_2 f_1 o v3 ho (by first | omega | assumption | (rw [hgr (42, 3, 0) (by decide), hgr (43, 8800, 0) (by decide), hgr (45, 1056, 0) (by decide), hgr (46, 22, 0) (by decide), hgr (47, 6, 0) (by decide), hgr (48, 22, 0) (by decide), hgr (49, 22, 0) (by decide), hgr (50, 22, 0) (by decide), hgr (51, 22, 0) (by decide)]; first | exact htx | assumption | omega)) (by first | omega | assumption | (rw [hgr (42, 3, 0) (by decide)]; first | assumption | omega))) rfl rfl ⟨Nat.le_of_ble_eq_true rfl, Nat.le_of_ble_eq_true rfl⟩ rfl hl.1 rfl (Nat.le_of_ble_eq_true rfl) dX12_givenBy_26 ⟨Nat.le_of_ble_eq_true rfl, Nat.le_of_ble_eq_true rfl⟩) (fun r_28 f_29 Γ_31 H locs hw_27 hP hI hc_30 hcg_32 hS => ?_)
      have hD : va_D A (va_pl L f_29) := tp_D hL hAL
      have hfr := tp_fr2 hfr hc_30 (by decide)
      have hgr : ∀ κ : tk_K, κ.1 ∉ ([39, 58, 57] : List Nat) → Γ_31 κ = Γ κ := tg_fr2 hgr hcg_32 (by decide)
      have hw_27 : Γ_31 (39, 0, 0) 0 = Γ_2 (39, 0, 0) 0 ∧ Γ_31 (39, 0, 0) 10 = Γ_2 (39, 0, 0) 10 ∧ Γ_31 (39, 0, 0) 11 = Γ_2 (39, 0, 0) 11 ∧ Γ_31 (39, 0, 0) 12 = Γ_2 (39, 0, 0) 12 ∧ Γ_31 (39, 0, 0) 13 = Γ_2 (39, 0, 0) 13 ∧ Γ_31 (39, 0, 0) 14 = Γ_2 (39, 0, 0) 14 ∧ Γ_31 (39, 0, 0) 15 = Γ_2 (39, 0, 0) 15 := hw_27
      refine lv_goto (tgt := 33) hx hb dX12_givenBy_29 (by decide) ?_
      refine lv_iadd hx hb dX12_givenBy_33 ?_
      refine lv_topi (fun z_33 ez_33 => ?_)
      try have iz_33 : z_33.toInt = v2.toInt + r_28.toInt := by rw [ez_33]; exact tl_addN v2 r_28 rfl rfl (by omega) (by omega)
      refine lv_istore_n (lv' := [(2, .int z_33), (3, .int v3), (0, .ref o), (1, .int p0)]) hx hb dX12_givenBy_34 rfl hl (by decide) rfl (fun ls hl => ?_)
      obtain ⟨z_34, ez_34⟩ : ∃ y : Int32, y = v3 + 1 := ⟨_, rfl⟩
      refine lv_iinc (v := z_34) (lv' := [(3, .int z_34), (2, .int z_33), (0, .ref o), (1, .int p0)]) hx hb dX12_givenBy_35 hl (k := 1) rfl (by rw [ez_34]; rfl) (by decide) rfl (fun ls hl => ?_)
      try have iz_34 : z_34.toInt = v3.toInt + 1 := by rw [ez_34]; exact tl_addL v3 1 (by decide) (by omega) (by omega)
      refine lv_goto (tgt := 4) hx hb dX12_givenBy_38 (by decide) ?_
      exact ih4 (f_29, Γ_31, z_34, z_33) H locs ls (by show (8 - z_34.toInt).toNat < (8 - v3.toInt).toNat; omega) ⟨(show 0 ≤ z_34.toInt from (by omega)), (show Γ_31 (39, 0, 0) 0 = Γ (39, 0, 0) 0 from (by omega)), (show Γ_31 (39, 0, 0) 10 = Γ (39, 0, 0) 10 from (by omega)), (show Γ_31 (39, 0, 0) 11 = Γ (39, 0, 0) 11 from (by omega)), (show Γ_31 (39, 0, 0) 12 = Γ (39, 0, 0) 12 from (by omega)), (show Γ_31 (39, 0, 0) 13 = Γ (39, 0, 0) 13 from (by omega)), (show Γ_31 (39, 0, 0) 14 = Γ (39, 0, 0) 14 from (by omega)), (show Γ_31 (39, 0, 0) 15 = Γ (39, 0, 0) 15 from (by omega)), hP, hI, hfr, hgr, hS, lv_sub hl [0, 1, 2, 3] rfl⟩
set_option maxHeartbeats 4000000 in
set_option maxRecDepth 100000 in
theorem r_X12_brief (l : Launch) (D : va_G) (cy : Nat → ClassId) (sz : Nat) (L : List Nat) (K : Nat → tk_K) (Γ : tk_G) (f : Nat → va_E) (o : Nat) (p0 : Int32) (ho : tp_r L K 39 (0) 0 o) (htx : tx_ok (Γ (43, 8800, 0)) (Γ (45, 1056, 0)) (Γ (46, 22, 0)) (Γ (47, 6, 0)) (Γ (48, 22, 0)) (Γ (49, 22, 0)) (Γ (50, 22, 0)) (Γ (51, 22, 0)) (Γ (42, 3, 0))) : Met l yX12_brief (tl_w yX12_brief cX12_brief 3 (some .int)) ({ frames := 5, cells := 0, slots := 0, locals := 125 }) (va_Pc [.ref o, .int p0] (tp_P D cy L K Γ f sz)) (va_Qi (fun (r : Int32) (u : (Nat → va_E) × tk_G) => u.2 (39, 0, 0) 0 = Γ (39, 0, 0) 0) (tp_BG D cy L K Γ f [39, 58, 57]) (tp_A L sz)) 0 0 (tp_A L sz) := by
  refine Met.ofW (cc := cX12_brief) (maxL := 3) (ret := (some .int)) (by decide) rfl ?_
  intro p e s m args below meth c s₁ B hml hv
  obtain ⟨rfl, hsz, hP, hK, hL, hI, hN, hU⟩ := hv
  have hx := B.exec
  have hb := B.bytes
  have hr := B.returns
  have hta := tl_hta (atoms_spec (ws := tl_w yX12_brief cX12_brief 3 (some .int)) B.pre)
  have hown : s.vm.findClass RX12 = some m.cls := findClass_of_methodNamed B.named
  have hlocks := B.notSynchronized
  subst hsz
  have hI0 := hI
  generalize hAe : tp_A L s.heap.size = A
  have hA : ∀ q : Nat, s.heap.size ≤ q → A q := fun q h => by rw [← hAe]; exact Or.inr h
  have hAL : ∀ q ∈ L, A q := fun q h => by rw [← hAe]; exact Or.inl h
  have hAf : ∀ (H : Heap), s.heap.size ≤ H.size → ∀ q, tp_A L H.size q → A q := fun H h q hq => hq.elim (hAL q) (fun h2 => hA q (Nat.le_trans h h2))
  have hS : va_S A s.heap s.heap [] := va_S.rf
  have hD : va_D A (va_pl L f) := tp_D hL hAL
  have hfr : ∀ b, (K b).1 ∉ ([39, 58, 57] : List Nat) → f b = f b := fun _ _ => rfl
  have hgr : ∀ κ : tk_K, κ.1 ∉ ([39, 58, 57] : List Nat) → Γ κ = Γ κ := fun _ _ => rfl
  have hl := lv_entry ([.ref o, .int p0]) (n := 3) (Nat.le_of_ble_eq_true rfl)
  rw [lg_entry_eq]
  generalize (lg_sl ([.ref o, .int p0]) ++ List.replicate (3 - (lg_sl ([.ref o, .int p0])).length) Slot.unset).toArray = ls at hl ⊢
  have hl : lv_has ls 3 [(0, .ref o), (1, .int p0)] := hl
  have htb := htx.1
  refine lv_iload_n hx hb dX12_brief_0 rfl (lv_at hl 1 rfl) ?_
  refine lv_i2l (v := p0.toInt64) hx hb dX12_brief_1 (by first | rfl | decide) ?_
  refine lv_lconst (v := 0) hx hb dX12_brief_2 (by decide) ?_
  refine lv_ldc2 (v := 999999999) hx hb hown (hta _ wk_1460) dX12_brief_3 ?_
  refine tl_si (tq_rS (As := [.long p0.toInt64, .long 0, .long 999999999]) (rest := []) ⟨hx, hb, hml, hown, hta⟩ (tp_P.pre hK hN hL hU hI hP) lk_X12_112 (r_X12_in l D cy s.heap.size L K Γ f p0.toInt64 0 999999999 ) rfl rfl ⟨Nat.le_of_ble_eq_true rfl, Nat.le_of_ble_eq_true rfl⟩ rfl hl.1 rfl (Nat.le_of_ble_eq_true rfl) dX12_brief_6 ⟨Nat.le_of_ble_eq_true rfl, Nat.le_of_ble_eq_true rfl⟩) (fun r_2 hw_1 => ?_)
  simp only [Int32.toInt_toInt64] at hw_1
  have hw_1 : tl_E r_2 ((0 : Int) ≤ p0.toInt ∧ p0.toInt ≤ (999999999 : Int)) 1 0 := hw_1
  refine lv_if_ne (tgt := 14) hx hb dX12_brief_9 (by decide) (fun c_3 => ?_) (fun c_3 => ?_)
  · have c_3 := hw_1.t c_3
    refine lv_iload_n hx hb dX12_brief_14 rfl (lv_at hl 1 rfl) ?_
    refine lv_aload_n hx hb dX12_brief_15 rfl (lv_at hl 0 rfl) ?_
    refine lv_sipush (v := 255) hx hb dX12_brief_16 (by decide) ?_
    obtain ⟨r_5, v_6, q_7, hf_4, hr_8, hv_9⟩ := (show tp_o_M L K 0 0 (Γ (39, 0, 0)) (f o) from hI.at ho)
    refine tq_ciR hS (hAf _ hS.1) (tq_rV (As := [.int 255]) (rest := [.int p0]) ⟨hx, hb, hml, hown, hta⟩ (tp_P.pre hK hN hL hU hI hP) (tp_recv hK hP ho.1 hf_4 rfl) lk_X12_547 (r_X12_givenBy l D cy s.heap.size L K Γ f o 255 ho (by first | omega | (simp only [Int32.toInt_toInt64]; omega) | decide | assumption)) rfl rfl ⟨Nat.le_of_ble_eq_true rfl, Nat.le_of_ble_eq_true rfl⟩ rfl hl.1 rfl (Nat.le_of_ble_eq_true rfl) dX12_brief_19 ⟨Nat.le_of_ble_eq_true rfl, Nat.le_of_ble_eq_true rfl⟩) (fun r_18 f_19 Γ_21 H locs hw_17 hP hI hc_20 hcg_22 hS => ?_)
    have hD : va_D A (va_pl L f_19) := tp_D hL hAL
    have hfr := tp_fr2 hfr hc_20 (by decide)
    have hgr : ∀ κ : tk_K, κ.1 ∉ ([39, 58, 57] : List Nat) → Γ_21 κ = Γ κ := tg_fr2 hgr hcg_22 (by decide)
    have hw_17 : Γ_21 (39, 0, 0) 0 = Γ (39, 0, 0) 0 ∧ Γ_21 (39, 0, 0) 10 = Γ (39, 0, 0) 10 ∧ Γ_21 (39, 0, 0) 11 = Γ (39, 0, 0) 11 ∧ Γ_21 (39, 0, 0) 12 = Γ (39, 0, 0) 12 ∧ Γ_21 (39, 0, 0) 13 = Γ (39, 0, 0) 13 ∧ Γ_21 (39, 0, 0) 14 = Γ (39, 0, 0) 14 ∧ Γ_21 (39, 0, 0) 15 = Γ (39, 0, 0) 15 := hw_17
    refine lv_isub hx hb dX12_brief_22 ?_
    refine lv_topi (fun z_23 ez_23 => ?_)
    try have iz_23 : z_23.toInt = p0.toInt - r_18.toInt := by rw [ez_23]; exact tl_subN p0 r_18 rfl rfl (by omega) (by omega)
    refine lv_istore_n (lv' := [(2, .int z_23), (0, .ref o), (1, .int p0)]) hx hb dX12_brief_23 rfl hl (by decide) rfl (fun ls hl => ?_)
    refine lv_iload_n hx hb dX12_brief_24 rfl (lv_at hl 0 rfl) ?_
    refine lv_if_ge (tgt := 32) hx hb dX12_brief_25 (by decide) (fun c_24 => ?_) (fun c_24 => ?_)
    · have c_24 : (0 : Int) ≤ z_23.toInt := tl_le c_24
      refine lv_iload_n hx hb dX12_brief_32 rfl (lv_at hl 0 rfl) ?_
      have hpo9 : Γ_21 (39, 0, 0) 0 = Γ (39, 0, 0) 0 := (by omega)
      exact W.iret (v := z_23) hx hb hr (fun t ht hW => ⟨⟨_, (f_19, Γ_21), rfl, hpo9, by rw [ht]; exact hP, hI, hfr, hgr⟩, hS.F ht⟩) hS.2.2 dX12_brief_33
    · have c_24 : z_23.toInt < (0 : Int) := tl_nle c_24
      refine lv_iconst (v := 0) hx hb dX12_brief_28 (by decide) ?_
      refine lv_goto (tgt := 33) hx hb dX12_brief_29 (by decide) ?_
      have hpo9 : Γ_21 (39, 0, 0) 0 = Γ (39, 0, 0) 0 := (by omega)
      exact W.iret (v := 0) hx hb hr (fun t ht hW => ⟨⟨_, (f_19, Γ_21), rfl, hpo9, by rw [ht]; exact hP, hI, hfr, hgr⟩, hS.F ht⟩) hS.2.2 dX12_brief_33
  · have c_3 := hw_1.f c_3
    refine lv_iconst (v := (-1)) hx hb dX12_brief_12 (by decide) ?_
    have hpo9 : Γ (39, 0, 0) 0 = Γ (39, 0, 0) 0 := (by omega)
    exact W.iret (v := (-1)) hx hb hr (fun t ht hW => ⟨⟨_, (f, Γ), rfl, hpo9, by rw [ht]; exact hP, hI, hfr, hgr⟩, hS.F ht⟩) hS.2.2 dX12_brief_13
theorem tl_bitB {x y z : Int32} (e : z = x &&& y) (hy : y.toInt = x.toInt - 1) (hx : 0 < x.toInt) : 0 ≤ z.toInt ∧ z.toInt < x.toInt := by
  have h0 := Int32.toInt_lt x
  have hz : z.toBitVec = x.toBitVec &&& y.toBitVec := by rw [e]; rfl
  have ny : y.toBitVec.toNat = y.toInt.toNat := by
    have h1 : y.toBitVec.toInt = y.toInt := rfl
    rw [← h1, BitVec.toInt_eq_toNat_cond]
    have h2 : y.toBitVec.toInt = y.toInt := rfl
    rw [BitVec.toInt_eq_toNat_cond] at h2
    split at h2 <;> (split <;> omega)
  have nz : z.toBitVec.toNat ≤ y.toBitVec.toNat := by rw [hz, BitVec.toNat_and]; exact Nat.and_le_right
  have iz : z.toInt = (z.toBitVec.toNat : Int) := by
    have h2 : z.toBitVec.toInt = z.toInt := rfl
    rw [BitVec.toInt_eq_toNat_cond] at h2
    split at h2 <;> omega
  omega
set_option maxHeartbeats 4000000 in
set_option maxRecDepth 100000 in
theorem r_X12_bits (l : Launch) (D : va_G) (cy : Nat → ClassId) (sz : Nat) (L : List Nat) (K : Nat → tk_K) (Γ : tk_G) (f : Nat → va_E) (p0 : Int32) (h0 : 0 ≤ p0.toInt) : Met l yX12_bits (tl_w yX12_bits cX12_bits 3 (some .int)) ({ frames := 0, cells := 0, slots := 0, locals := 0 }) (va_Pc [.int p0] (tp_P D cy L K Γ f sz)) (vp_Si (fun r : Int32 => True)) 0 0 (fun _ => False) := by
  refine Met.ofW (cc := cX12_bits) (maxL := 3) (ret := (some .int)) (by decide) rfl ?_
  intro p e s m args below meth c s₁ B hml hv
  obtain ⟨rfl, hsz, hP, hK, hL, hI, hN, hU⟩ := hv
  have hx := B.exec
  have hb := B.bytes
  have hr := B.returns
  have hta := tl_hta (atoms_spec (ws := tl_w yX12_bits cX12_bits 3 (some .int)) B.pre)
  have hown : s.vm.findClass RX12 = some m.cls := findClass_of_methodNamed B.named
  have hlocks := B.notSynchronized
  subst hsz
  have hI0 := hI
  have hl := lv_entry ([.int p0]) (n := 3) (Nat.le_of_ble_eq_true rfl)
  rw [lg_entry_eq]
  generalize (lg_sl ([.int p0]) ++ List.replicate (3 - (lg_sl ([.int p0])).length) Slot.unset).toArray = ls at hl ⊢
  have hl : lv_has ls 3 [(0, .int p0)] := hl
  refine lv_iconst (v := 0) hx hb dX12_bits_0 (by decide) ?_
  refine lv_istore_n (lv' := [(1, .int 0), (0, .int p0)]) hx hb dX12_bits_1 rfl hl (by decide) rfl (fun ls hl => ?_)
  refine lv_iload_n hx hb dX12_bits_2 rfl (lv_at hl 1 rfl) ?_
  refine lv_istore_n (lv' := [(2, .int p0), (1, .int 0), (0, .int p0)]) hx hb dX12_bits_3 rfl hl (by decide) rfl (fun ls hl => ?_)
  refine tl_indR (G := fun ls => W p l e ((headSpec (tl_w yX12_bits cX12_bits 3 (some .int)) ({ frames := 0, cells := 0, slots := 0, locals := 0 })).room) s m #[.int p0] below meth c s.heap [] 0 0 (MQ below (vp_Si (fun r : Int32 => True)) #[.int p0] s 0 0 (fun _ => False)) (F0 m 4 ls [])) (α := Int32 × Int32) (fun aq => aq.1.toInt.toNat) (fun aq ls => (0 ≤ aq.1.toInt) ∧ lv_has ls 3 [(2, .int aq.1), (1, .int aq.2), (0, .int p0)]) ?_ (p0, (0 : Int32)) ls ⟨(show 0 ≤ p0.toInt from (by omega)), lv_sub hl [0, 1, 2] rfl⟩
  rintro ⟨v2, v1⟩ ls ⟨hr2, hl⟩ ih4
  have hr2 : 0 ≤ v2.toInt := hr2
  have hl : lv_has ls 3 [(2, .int v2), (1, .int v1), (0, .int p0)] := hl
  have hv2r := tl_rng v2
  refine lv_iload_n hx hb dX12_bits_4 rfl (lv_at hl 0 rfl) ?_
  refine lv_if_eq (tgt := 20) hx hb dX12_bits_5 (by decide) (fun c_1 => ?_) (fun c_1 => ?_)
  · have c_1 : v2.toInt = (0 : Int) := tl_eq c_1
    refine lv_iload_n hx hb dX12_bits_20 rfl (lv_at hl 1 rfl) ?_
    exact W.iret (v := v1) hx hb hr (fun t ht hW => ⟨_, rfl, trivial, ht⟩) (fun q h => by cases h) dX12_bits_21
  · have c_1 : ¬ v2.toInt = (0 : Int) := tl_neq c_1
    obtain ⟨z_2, ez_2⟩ : ∃ y : Int32, y = v1 + 1 := ⟨_, rfl⟩
    refine lv_iinc (v := z_2) (lv' := [(1, .int z_2), (2, .int v2), (0, .int p0)]) hx hb dX12_bits_8 hl (k := 1) rfl (by rw [ez_2]; rfl) (by decide) rfl (fun ls hl => ?_)
    try have iz_2 : z_2.toInt = v1.toInt + 1 := by rw [ez_2]; exact tl_addL v1 1 (by decide) (by omega) (by omega)
    refine lv_iload_n hx hb dX12_bits_11 rfl (lv_at hl 1 rfl) ?_
    refine lv_iload_n hx hb dX12_bits_12 rfl (lv_at hl 1 rfl) ?_
    refine lv_iconst (v := 1) hx hb dX12_bits_13 (by decide) ?_
    refine lv_isub hx hb dX12_bits_14 ?_
    refine lv_topi (fun z_3 ez_3 => ?_)
    try have iz_3 : z_3.toInt = v2.toInt - (1 : Int) := by rw [ez_3]; exact tl_subN v2 1 rfl rfl (by omega) (by omega)
    refine lv_iand hx hb dX12_bits_15 ?_
    refine lv_topi (fun z_4 ez_4 => ?_)
    have hbz := tl_bitB ez_4 (by omega) (by omega)
    refine lv_istore_n (lv' := [(2, .int z_4), (1, .int z_2), (0, .int p0)]) hx hb dX12_bits_16 rfl hl (by decide) rfl (fun ls hl => ?_)
    refine lv_goto (tgt := 4) hx hb dX12_bits_17 (by decide) ?_
    exact ih4 (z_4, z_2) ls (by show z_4.toInt.toNat < v2.toInt.toNat; omega) ⟨(show 0 ≤ z_4.toInt from (by omega)), lv_sub hl [0, 1, 2] rfl⟩
set_option maxHeartbeats 4000000 in
set_option maxRecDepth 100000 in
theorem r_X12_fewest (l : Launch) (D : va_G) (cy : Nat → ClassId) (sz : Nat) (L : List Nat) (K : Nat → tk_K) (Γ : tk_G) (f : Nat → va_E) (o : Nat) (p0 : Int32) (p1 : Int32) (ho : tp_r L K 39 (0) 0 o) (htx : tx_ok (Γ (43, 8800, 0)) (Γ (45, 1056, 0)) (Γ (46, 22, 0)) (Γ (47, 6, 0)) (Γ (48, 22, 0)) (Γ (49, 22, 0)) (Γ (50, 22, 0)) (Γ (51, 22, 0)) (Γ (42, 3, 0))) : Met l yX12_fewest (tl_w yX12_fewest cX12_fewest 7 (some .int)) ({ frames := 5, cells := 0, slots := 0, locals := 125 }) (va_Pc [.ref o, .int p0, .int p1] (tp_P D cy L K Γ f sz)) (va_Qi (fun (r : Int32) (u : (Nat → va_E) × tk_G) => u.2 (39, 0, 0) 0 = Γ (39, 0, 0) 0) (tp_BG D cy L K Γ f [39, 58, 57]) (tp_A L sz)) 0 0 (tp_A L sz) := by
  refine Met.ofW (cc := cX12_fewest) (maxL := 7) (ret := (some .int)) (by decide) rfl ?_
  intro p e s m args below meth c s₁ B hml hv
  obtain ⟨rfl, hsz, hP, hK, hL, hI, hN, hU⟩ := hv
  have hx := B.exec
  have hb := B.bytes
  have hr := B.returns
  have hta := tl_hta (atoms_spec (ws := tl_w yX12_fewest cX12_fewest 7 (some .int)) B.pre)
  have hown : s.vm.findClass RX12 = some m.cls := findClass_of_methodNamed B.named
  have hlocks := B.notSynchronized
  subst hsz
  have hI0 := hI
  generalize hAe : tp_A L s.heap.size = A
  have hA : ∀ q : Nat, s.heap.size ≤ q → A q := fun q h => by rw [← hAe]; exact Or.inr h
  have hAL : ∀ q ∈ L, A q := fun q h => by rw [← hAe]; exact Or.inl h
  have hAf : ∀ (H : Heap), s.heap.size ≤ H.size → ∀ q, tp_A L H.size q → A q := fun H h q hq => hq.elim (hAL q) (fun h2 => hA q (Nat.le_trans h h2))
  have hS : va_S A s.heap s.heap [] := va_S.rf
  have hD : va_D A (va_pl L f) := tp_D hL hAL
  have hfr : ∀ b, (K b).1 ∉ ([39, 58, 57] : List Nat) → f b = f b := fun _ _ => rfl
  have hgr : ∀ κ : tk_K, κ.1 ∉ ([39, 58, 57] : List Nat) → Γ κ = Γ κ := fun _ _ => rfl
  have hl := lv_entry ([.ref o, .int p0, .int p1]) (n := 7) (Nat.le_of_ble_eq_true rfl)
  rw [lg_entry_eq]
  generalize (lg_sl ([.ref o, .int p0, .int p1]) ++ List.replicate (7 - (lg_sl ([.ref o, .int p0, .int p1])).length) Slot.unset).toArray = ls at hl ⊢
  have hl : lv_has ls 7 [(0, .ref o), (1, .int p0), (2, .int p1)] := hl
  have htb := htx.1
  refine lv_iload_n hx hb dX12_fewest_0 rfl (lv_at hl 1 rfl) ?_
  refine lv_i2l (v := p0.toInt64) hx hb dX12_fewest_1 (by first | rfl | decide) ?_
  refine lv_lconst (v := 0) hx hb dX12_fewest_2 (by decide) ?_
  refine lv_ldc2 (v := 999999999) hx hb hown (hta _ wk_1460) dX12_fewest_3 ?_
  refine tl_si (tq_rS (As := [.long p0.toInt64, .long 0, .long 999999999]) (rest := []) ⟨hx, hb, hml, hown, hta⟩ (tp_P.pre hK hN hL hU hI hP) lk_X12_112 (r_X12_in l D cy s.heap.size L K Γ f p0.toInt64 0 999999999 ) rfl rfl ⟨Nat.le_of_ble_eq_true rfl, Nat.le_of_ble_eq_true rfl⟩ rfl hl.1 rfl (Nat.le_of_ble_eq_true rfl) dX12_fewest_6 ⟨Nat.le_of_ble_eq_true rfl, Nat.le_of_ble_eq_true rfl⟩) (fun r_2 hw_1 => ?_)
  simp only [Int32.toInt_toInt64] at hw_1
  have hw_1 : tl_E r_2 ((0 : Int) ≤ p0.toInt ∧ p0.toInt ≤ (999999999 : Int)) 1 0 := hw_1
  refine lv_if_eq (tgt := 22) hx hb dX12_fewest_9 (by decide) (fun c_3 => ?_) (fun c_3 => ?_)
  · have c_3 := hw_1.f c_3
    refine lv_iconst (v := (-1)) hx hb dX12_fewest_22 (by decide) ?_
    have hpo9 : Γ (39, 0, 0) 0 = Γ (39, 0, 0) 0 := (by omega)
    exact W.iret (v := (-1)) hx hb hr (fun t ht hW => ⟨⟨_, (f, Γ), rfl, hpo9, by rw [ht]; exact hP, hI, hfr, hgr⟩, hS.F ht⟩) hS.2.2 dX12_fewest_23
  · have c_3 := hw_1.t c_3
    refine lv_iload_n hx hb dX12_fewest_12 rfl (lv_at hl 2 rfl) ?_
    refine lv_i2l (v := p1.toInt64) hx hb dX12_fewest_13 (by first | rfl | decide) ?_
    refine lv_lconst (v := 0) hx hb dX12_fewest_14 (by decide) ?_
    refine lv_lconst (v := 1) hx hb dX12_fewest_15 (by decide) ?_
    refine tl_si (tq_rS (As := [.long p1.toInt64, .long 0, .long 1]) (rest := []) ⟨hx, hb, hml, hown, hta⟩ (tp_P.pre hK hN hL hU hI hP) lk_X12_112 (r_X12_in l D cy s.heap.size L K Γ f p1.toInt64 0 1 ) rfl rfl ⟨Nat.le_of_ble_eq_true rfl, Nat.le_of_ble_eq_true rfl⟩ rfl hl.1 rfl (Nat.le_of_ble_eq_true rfl) dX12_fewest_16 ⟨Nat.le_of_ble_eq_true rfl, Nat.le_of_ble_eq_true rfl⟩) (fun r_5 hw_4 => ?_)
    simp only [Int32.toInt_toInt64] at hw_4
    have hw_4 : tl_E r_5 ((0 : Int) ≤ p1.toInt ∧ p1.toInt ≤ (1 : Int)) 1 0 := hw_4
    refine lv_if_ne (tgt := 24) hx hb dX12_fewest_19 (by decide) (fun c_6 => ?_) (fun c_6 => ?_)
    · have c_6 := hw_4.t c_6
      refine lv_bipush (v := (-2)) hx hb dX12_fewest_24 (by decide) ?_
      refine lv_istore_n (lv' := [(3, .int (-2)), (0, .ref o), (1, .int p0), (2, .int p1)]) hx hb dX12_fewest_26 rfl hl (by decide) rfl (fun ls hl => ?_)
      refine lv_iconst (v := 0) hx hb dX12_fewest_27 (by decide) ?_
      refine lv_istore (lv' := [(4, .int 0), (3, .int (-2)), (0, .ref o), (1, .int p0), (2, .int p1)]) hx hb dX12_fewest_28 hl (by decide) rfl (fun ls hl => ?_)
      refine lv_iconst (v := 0) hx hb dX12_fewest_30 (by decide) ?_
      refine lv_istore (lv' := [(5, .int 0), (4, .int 0), (3, .int (-2)), (0, .ref o), (1, .int p0), (2, .int p1)]) hx hb dX12_fewest_31 hl (by decide) rfl (fun ls hl => ?_)
      refine tq_start hP hS (fun H locs hP hS => ?_)
      refine tl_ind (G := fun H locs ls => W p l e ((headSpec (tl_w yX12_fewest cX12_fewest 7 (some .int)) ({ frames := 5, cells := 0, slots := 0, locals := 125 })).room) s m #[.ref o, .int p0, .int p1] below meth c H locs 0 0 (MQ below (va_Qi (fun (r : Int32) (u : (Nat → va_E) × tk_G) => u.2 (39, 0, 0) 0 = Γ (39, 0, 0) 0) (tp_BG D cy L K Γ f [39, 58, 57]) A) #[.ref o, .int p0, .int p1] s 0 0 A) (F0 m 33 ls [])) (α := (Nat → va_E) × tk_G × Int32 × Int32 × Int32) (fun aq => (2147483647 - aq.2.2.1.toInt).toNat) (fun aq H locs ls => (0 ≤ aq.2.2.1.toInt) ∧ (aq.2.1 (39, 0, 0) 0 = Γ (39, 0, 0) 0) ∧ va_P D vwCl (va_pl L aq.1) H ∧ tp_I cy L K aq.2.1 aq.1 ∧ (∀ b, (K b).1 ∉ ([39, 58, 57] : List Nat) → aq.1 b = f b) ∧ (∀ κ : tk_K, κ.1 ∉ ([39, 58, 57] : List Nat) → aq.2.1 κ = Γ κ) ∧ va_S A s.heap H locs ∧ lv_has ls 7 [(5, .int aq.2.2.1), (4, .int aq.2.2.2.1), (3, .int aq.2.2.2.2), (0, .ref o), (1, .int p0), (2, .int p1)]) ?_ (f, Γ, (0 : Int32), (0 : Int32), ((-2) : Int32)) H locs ls ⟨(show 0 ≤ (0 : Int) from (by omega)), (show Γ (39, 0, 0) 0 = Γ (39, 0, 0) 0 from (by omega)), hP, hI, hfr, hgr, hS, lv_sub hl [0, 1, 2, 3, 4, 5] rfl⟩
      rintro ⟨f_7, Γ_8, v5, v4, v3⟩ H locs ls ⟨hr5, q0, hP, hI, hfr, hgr, hS, hl⟩ ih33
      have hgr : ∀ κ : tk_K, κ.1 ∉ ([39, 58, 57] : List Nat) → Γ_8 κ = Γ κ := hgr
      have hP : va_P D vwCl (va_pl L f_7) H := hP
      have hI : tp_I cy L K Γ_8 f_7 := hI
      have hfr : ∀ b, (K b).1 ∉ ([39, 58, 57] : List Nat) → f_7 b = f b := hfr
      have hD : va_D A (va_pl L f_7) := tp_D hL hAL
      have hr5 : 0 ≤ v5.toInt := hr5
      have q0 : Γ_8 (39, 0, 0) 0 = Γ (39, 0, 0) 0 := q0
      have hl : lv_has ls 7 [(5, .int v5), (4, .int v4), (3, .int v3), (0, .ref o), (1, .int p0), (2, .int p1)] := hl
      refine lv_iload hx hb dX12_fewest_33 (lv_at hl 0 rfl) ?_
      refine lv_iconst (v := 1) hx hb dX12_fewest_35 (by decide) ?_
      refine lv_aload_n hx hb dX12_fewest_36 rfl (lv_at hl 3 rfl) ?_
      obtain ⟨r_10, v_11, q_12, hf_9, hr_13, hv_14⟩ := (show tp_o_M L K 0 0 (Γ_8 (39, 0, 0)) (f_7 o) from hI.at ho)
      refine tp_get (cy := cy) (ci := 12) (v := .ref (r_10 2)) (C := RX12) (T := TX12) (N := 49) hx hb hta inlX12 hown hK hP ho.1 hf_9 rfl 3 (by decide) (hta _ wk_152) (fun _ h9 => h9) rfl dX12_fewest_37 ?_
      refine lv_iconst (v := 2) hx hb dX12_fewest_40 (by decide) ?_
      obtain ⟨g_23, hf_22, hg_24⟩ := (show tp_gi cy (3) (Γ (42, 3, 0)) (f (r_10 2)) from hI0.at (show tp_r L K 42 3 0 (r_10 2) from hr_13 2 (by decide)))
      have hn_25 : vp_in 2 (3) := tl_in (by decide) (by decide)
      refine tp_iald (cy := cy) hx hb hK hP (show tp_r L K 42 3 0 (r_10 2) from hr_13 2 (by decide)).1 ((tp_un hfr (show tp_r L K 42 3 0 (r_10 2) from hr_13 2 (by decide)) (by decide)).trans hf_22) hn_25 dX12_fewest_41 ?_
      refine lv_topi (fun z_26 ez_26 => ?_)
      have iz_26 : z_26.toInt = Γ (42, 3, 0) 2 := by rw [ez_26]; exact hg_24 _ (tp_pin hn_25)
      refine lv_ishl hx hb dX12_fewest_42 ?_
      refine lv_topi (fun z_27 ez_27 => ?_)
      have rz_27 := tl_rng z_27
      refine lv_icmp_ge (tgt := 111) hx hb dX12_fewest_43 (by decide) (fun c_28 => ?_) (fun c_28 => ?_)
      · have c_28 : z_27.toInt ≤ v5.toInt := tl_le c_28
        refine lv_iload_n hx hb dX12_fewest_111 rfl (lv_at hl 2 rfl) ?_
        refine lv_if_ge (tgt := 120) hx hb dX12_fewest_112 (by decide) (fun c_29 => ?_) (fun c_29 => ?_)
        · have c_29 : (0 : Int) ≤ v3.toInt := tl_le c_29
          refine lv_iload_n hx hb dX12_fewest_120 rfl (lv_at hl 5 rfl) ?_
          refine lv_if_ne (tgt := 131) hx hb dX12_fewest_121 (by decide) (fun c_30 => ?_) (fun c_30 => ?_)
          · have c_30 : ¬ p1.toInt = (0 : Int) := tl_neq c_30
            refine lv_iload_n hx hb dX12_fewest_131 rfl (lv_at hl 2 rfl) ?_
            have hpo9 : Γ_8 (39, 0, 0) 0 = Γ (39, 0, 0) 0 := (by omega)
            exact W.iret (v := v3) hx hb hr (fun t ht hW => ⟨⟨_, (f_7, Γ_8), rfl, hpo9, by rw [ht]; exact hP, hI, hfr, hgr⟩, hS.F ht⟩) hS.2.2 dX12_fewest_132
          · have c_30 : p1.toInt = (0 : Int) := tl_eq c_30
            refine lv_iload_n hx hb dX12_fewest_124 rfl (lv_at hl 2 rfl) ?_
            refine tl_si (tq_rS (As := [.int v3]) (rest := []) ⟨hx, hb, hml, hown, hta⟩ (tp_P.pre hK hN hL hU hI hP) lk_X12_550 (r_X12_bits l D cy H.size L K Γ_8 f_7 v3 (by first | omega | (simp only [Int32.toInt_toInt64]; omega) | decide | assumption)) rfl rfl ⟨Nat.le_of_ble_eq_true rfl, Nat.le_of_ble_eq_true rfl⟩ rfl hl.1 rfl (Nat.le_of_ble_eq_true rfl) dX12_fewest_125 ⟨Nat.le_of_ble_eq_true rfl, Nat.le_of_ble_eq_true rfl⟩) (fun r_32 hw_31 => ?_)
            refine lv_goto (tgt := 132) hx hb dX12_fewest_128 (by decide) ?_
            have hpo9 : Γ_8 (39, 0, 0) 0 = Γ (39, 0, 0) 0 := (by omega)
            exact W.iret (v := r_32) hx hb hr (fun t ht hW => ⟨⟨_, (f_7, Γ_8), rfl, hpo9, by rw [ht]; exact hP, hI, hfr, hgr⟩, hS.F ht⟩) hS.2.2 dX12_fewest_132
        · have c_29 : v3.toInt < (0 : Int) := tl_nle c_29
          refine lv_bipush (v := (-2)) hx hb dX12_fewest_115 (by decide) ?_
          refine lv_goto (tgt := 132) hx hb dX12_fewest_117 (by decide) ?_
          have hpo9 : Γ_8 (39, 0, 0) 0 = Γ (39, 0, 0) 0 := (by omega)
          exact W.iret (v := (-2)) hx hb hr (fun t ht hW => ⟨⟨_, (f_7, Γ_8), rfl, hpo9, by rw [ht]; exact hP, hI, hfr, hgr⟩, hS.F ht⟩) hS.2.2 dX12_fewest_132
      · have c_28 : v5.toInt < z_27.toInt := tl_nle c_28
        refine lv_aload_n hx hb dX12_fewest_46 rfl (lv_at hl 3 rfl) ?_
        refine lv_iload hx hb dX12_fewest_47 (lv_at hl 0 rfl) ?_
        refine tq_ciR hS (hAf _ hS.1) (tq_rV (As := [.int v5]) (rest := []) ⟨hx, hb, hml, hown, hta⟩ (tp_P.pre hK hN hL hU hI hP) (tp_recv hK hP ho.1 hf_9 rfl) lk_X12_547 (r_X12_givenBy l D cy H.size L K Γ_8 f_7 o v5 ho (by first | omega | assumption | (rw [hgr (42, 3, 0) (by decide), hgr (43, 8800, 0) (by decide), hgr (45, 1056, 0) (by decide), hgr (46, 22, 0) (by decide), hgr (47, 6, 0) (by decide), hgr (48, 22, 0) (by decide), hgr (49, 22, 0) (by decide), hgr (50, 22, 0) (by decide), hgr (51, 22, 0) (by decide)]; first | exact htx | assumption | omega))) rfl rfl ⟨Nat.le_of_ble_eq_true rfl, Nat.le_of_ble_eq_true rfl⟩ rfl hl.1 rfl (Nat.le_of_ble_eq_true rfl) dX12_fewest_49 ⟨Nat.le_of_ble_eq_true rfl, Nat.le_of_ble_eq_true rfl⟩) (fun r_34 f_35 Γ_37 H locs hw_33 hP hI hc_36 hcg_38 hS => ?_)
        have hD : va_D A (va_pl L f_35) := tp_D hL hAL
        have hfr := tp_fr2 hfr hc_36 (by decide)
        have hgr : ∀ κ : tk_K, κ.1 ∉ ([39, 58, 57] : List Nat) → Γ_37 κ = Γ κ := tg_fr2 hgr hcg_38 (by decide)
        have hw_33 : Γ_37 (39, 0, 0) 0 = Γ_8 (39, 0, 0) 0 ∧ Γ_37 (39, 0, 0) 10 = Γ_8 (39, 0, 0) 10 ∧ Γ_37 (39, 0, 0) 11 = Γ_8 (39, 0, 0) 11 ∧ Γ_37 (39, 0, 0) 12 = Γ_8 (39, 0, 0) 12 ∧ Γ_37 (39, 0, 0) 13 = Γ_8 (39, 0, 0) 13 ∧ Γ_37 (39, 0, 0) 14 = Γ_8 (39, 0, 0) 14 ∧ Γ_37 (39, 0, 0) 15 = Γ_8 (39, 0, 0) 15 := hw_33
        refine lv_istore (lv' := [(6, .int r_34), (5, .int v5), (4, .int v4), (3, .int v3), (0, .ref o), (1, .int p0), (2, .int p1)]) hx hb dX12_fewest_52 hl (by decide) rfl (fun ls hl => ?_)
        refine lv_iload hx hb dX12_fewest_54 (lv_at hl 0 rfl) ?_
        refine lv_iload_n hx hb dX12_fewest_56 rfl (lv_at hl 5 rfl) ?_
        refine lv_icmp_lt (tgt := 105) hx hb dX12_fewest_57 (by decide) (fun c_39 => ?_) (fun c_39 => ?_)
        · have c_39 : r_34.toInt < p0.toInt := tl_lt c_39
          obtain ⟨z_40, ez_40⟩ : ∃ y : Int32, y = v5 + 1 := ⟨_, rfl⟩
          refine lv_iinc (v := z_40) (lv' := [(5, .int z_40), (6, .int r_34), (4, .int v4), (3, .int v3), (0, .ref o), (1, .int p0), (2, .int p1)]) hx hb dX12_fewest_105 hl (k := 1) rfl (by rw [ez_40]; rfl) (by decide) rfl (fun ls hl => ?_)
          try have iz_40 : z_40.toInt = v5.toInt + 1 := by rw [ez_40]; exact tl_addL v5 1 (by decide) (by omega) (by omega)
          refine lv_goto (tgt := 33) hx hb dX12_fewest_108 (by decide) ?_
          exact ih33 (f_35, Γ_37, z_40, v4, v3) H locs ls (by show (2147483647 - z_40.toInt).toNat < (2147483647 - v5.toInt).toNat; omega) ⟨(show 0 ≤ z_40.toInt from (by omega)), (show Γ_37 (39, 0, 0) 0 = Γ (39, 0, 0) 0 from (by omega)), hP, hI, hfr, hgr, hS, lv_sub hl [0, 2, 3, 4, 5, 6] rfl⟩
        · have c_39 : p0.toInt ≤ r_34.toInt := tl_nlt c_39
          refine lv_iload_n hx hb dX12_fewest_60 rfl (lv_at hl 3 rfl) ?_
          refine lv_if_lt (tgt := 98) hx hb dX12_fewest_61 (by decide) (fun c_41 => ?_) (fun c_41 => ?_)
          · have c_41 : v3.toInt < (0 : Int) := tl_lt c_41
            refine lv_iload hx hb dX12_fewest_98 (lv_at hl 1 rfl) ?_
            refine lv_istore_n (lv' := [(3, .int v5), (6, .int r_34), (5, .int v5), (4, .int v4), (0, .ref o), (1, .int p0), (2, .int p1)]) hx hb dX12_fewest_100 rfl hl (by decide) rfl (fun ls hl => ?_)
            refine lv_iload hx hb dX12_fewest_101 (lv_at hl 1 rfl) ?_
            refine lv_istore (lv' := [(4, .int r_34), (3, .int v5), (6, .int r_34), (5, .int v5), (0, .ref o), (1, .int p0), (2, .int p1)]) hx hb dX12_fewest_103 hl (by decide) rfl (fun ls hl => ?_)
            obtain ⟨z_42, ez_42⟩ : ∃ y : Int32, y = v5 + 1 := ⟨_, rfl⟩
            refine lv_iinc (v := z_42) (lv' := [(5, .int z_42), (4, .int r_34), (3, .int v5), (6, .int r_34), (0, .ref o), (1, .int p0), (2, .int p1)]) hx hb dX12_fewest_105 hl (k := 3) rfl (by rw [ez_42]; rfl) (by decide) rfl (fun ls hl => ?_)
            try have iz_42 : z_42.toInt = v5.toInt + 1 := by rw [ez_42]; exact tl_addL v5 1 (by decide) (by omega) (by omega)
            refine lv_goto (tgt := 33) hx hb dX12_fewest_108 (by decide) ?_
            exact ih33 (f_35, Γ_37, z_42, r_34, v5) H locs ls (by show (2147483647 - z_42.toInt).toNat < (2147483647 - v5.toInt).toNat; omega) ⟨(show 0 ≤ z_42.toInt from (by omega)), (show Γ_37 (39, 0, 0) 0 = Γ (39, 0, 0) 0 from (by omega)), hP, hI, hfr, hgr, hS, lv_sub hl [0, 1, 2, 4, 5, 6] rfl⟩
          · have c_41 : (0 : Int) ≤ v3.toInt := tl_nlt c_41
            refine lv_iload hx hb dX12_fewest_64 (lv_at hl 1 rfl) ?_
            refine tl_si (tq_rS (As := [.int v5]) (rest := []) ⟨hx, hb, hml, hown, hta⟩ (tp_P.pre hK hN hL hU hI hP) lk_X12_550 (r_X12_bits l D cy H.size L K Γ_37 f_35 v5 (by first | omega | (simp only [Int32.toInt_toInt64]; omega) | decide | assumption)) rfl rfl ⟨Nat.le_of_ble_eq_true rfl, Nat.le_of_ble_eq_true rfl⟩ rfl hl.1 rfl (Nat.le_of_ble_eq_true rfl) dX12_fewest_66 ⟨Nat.le_of_ble_eq_true rfl, Nat.le_of_ble_eq_true rfl⟩) (fun r_44 hw_43 => ?_)
            refine lv_iload_n hx hb dX12_fewest_69 rfl (lv_at hl 3 rfl) ?_
            refine tl_si (tq_rS (As := [.int v3]) (rest := [.int r_44]) ⟨hx, hb, hml, hown, hta⟩ (tp_P.pre hK hN hL hU hI hP) lk_X12_550 (r_X12_bits l D cy H.size L K Γ_37 f_35 v3 (by first | omega | (simp only [Int32.toInt_toInt64]; omega) | decide | assumption)) rfl rfl ⟨Nat.le_of_ble_eq_true rfl, Nat.le_of_ble_eq_true rfl⟩ rfl hl.1 rfl (Nat.le_of_ble_eq_true rfl) dX12_fewest_70 ⟨Nat.le_of_ble_eq_true rfl, Nat.le_of_ble_eq_true rfl⟩) (fun r_46 hw_45 => ?_)
            refine lv_icmp_gt (tgt := 105) hx hb dX12_fewest_73 (by decide) (fun c_47 => ?_) (fun c_47 => ?_)
            · have c_47 : r_46.toInt < r_44.toInt := tl_lt c_47
              obtain ⟨z_48, ez_48⟩ : ∃ y : Int32, y = v5 + 1 := ⟨_, rfl⟩
              refine lv_iinc (v := z_48) (lv' := [(5, .int z_48), (6, .int r_34), (4, .int v4), (3, .int v3), (0, .ref o), (1, .int p0), (2, .int p1)]) hx hb dX12_fewest_105 hl (k := 1) rfl (by rw [ez_48]; rfl) (by decide) rfl (fun ls hl => ?_)
              try have iz_48 : z_48.toInt = v5.toInt + 1 := by rw [ez_48]; exact tl_addL v5 1 (by decide) (by omega) (by omega)
              refine lv_goto (tgt := 33) hx hb dX12_fewest_108 (by decide) ?_
              exact ih33 (f_35, Γ_37, z_48, v4, v3) H locs ls (by show (2147483647 - z_48.toInt).toNat < (2147483647 - v5.toInt).toNat; omega) ⟨(show 0 ≤ z_48.toInt from (by omega)), (show Γ_37 (39, 0, 0) 0 = Γ (39, 0, 0) 0 from (by omega)), hP, hI, hfr, hgr, hS, lv_sub hl [0, 2, 3, 4, 5, 6] rfl⟩
            · have c_47 : r_44.toInt ≤ r_46.toInt := tl_nlt c_47
              refine lv_iload hx hb dX12_fewest_76 (lv_at hl 1 rfl) ?_
              refine tl_si (tq_rS (As := [.int v5]) (rest := []) ⟨hx, hb, hml, hown, hta⟩ (tp_P.pre hK hN hL hU hI hP) lk_X12_550 (r_X12_bits l D cy H.size L K Γ_37 f_35 v5 (by first | omega | (simp only [Int32.toInt_toInt64]; omega) | decide | assumption)) rfl rfl ⟨Nat.le_of_ble_eq_true rfl, Nat.le_of_ble_eq_true rfl⟩ rfl hl.1 rfl (Nat.le_of_ble_eq_true rfl) dX12_fewest_78 ⟨Nat.le_of_ble_eq_true rfl, Nat.le_of_ble_eq_true rfl⟩) (fun r_50 hw_49 => ?_)
              refine lv_iload_n hx hb dX12_fewest_81 rfl (lv_at hl 3 rfl) ?_
              refine tl_si (tq_rS (As := [.int v3]) (rest := [.int r_50]) ⟨hx, hb, hml, hown, hta⟩ (tp_P.pre hK hN hL hU hI hP) lk_X12_550 (r_X12_bits l D cy H.size L K Γ_37 f_35 v3 (by first | omega | (simp only [Int32.toInt_toInt64]; omega) | decide | assumption)) rfl rfl ⟨Nat.le_of_ble_eq_true rfl, Nat.le_of_ble_eq_true rfl⟩ rfl hl.1 rfl (Nat.le_of_ble_eq_true rfl) dX12_fewest_82 ⟨Nat.le_of_ble_eq_true rfl, Nat.le_of_ble_eq_true rfl⟩) (fun r_52 hw_51 => ?_)
              refine lv_icmp_ne (tgt := 98) hx hb dX12_fewest_85 (by decide) (fun c_53 => ?_) (fun c_53 => ?_)
              · have c_53 : ¬ r_50.toInt = r_52.toInt := tl_neq c_53
                refine lv_iload hx hb dX12_fewest_98 (lv_at hl 1 rfl) ?_
                refine lv_istore_n (lv' := [(3, .int v5), (6, .int r_34), (5, .int v5), (4, .int v4), (0, .ref o), (1, .int p0), (2, .int p1)]) hx hb dX12_fewest_100 rfl hl (by decide) rfl (fun ls hl => ?_)
                refine lv_iload hx hb dX12_fewest_101 (lv_at hl 1 rfl) ?_
                refine lv_istore (lv' := [(4, .int r_34), (3, .int v5), (6, .int r_34), (5, .int v5), (0, .ref o), (1, .int p0), (2, .int p1)]) hx hb dX12_fewest_103 hl (by decide) rfl (fun ls hl => ?_)
                obtain ⟨z_54, ez_54⟩ : ∃ y : Int32, y = v5 + 1 := ⟨_, rfl⟩
                refine lv_iinc (v := z_54) (lv' := [(5, .int z_54), (4, .int r_34), (3, .int v5), (6, .int r_34), (0, .ref o), (1, .int p0), (2, .int p1)]) hx hb dX12_fewest_105 hl (k := 3) rfl (by rw [ez_54]; rfl) (by decide) rfl (fun ls hl => ?_)
                try have iz_54 : z_54.toInt = v5.toInt + 1 := by rw [ez_54]; exact tl_addL v5 1 (by decide) (by omega) (by omega)
                refine lv_goto (tgt := 33) hx hb dX12_fewest_108 (by decide) ?_
                exact ih33 (f_35, Γ_37, z_54, r_34, v5) H locs ls (by show (2147483647 - z_54.toInt).toNat < (2147483647 - v5.toInt).toNat; omega) ⟨(show 0 ≤ z_54.toInt from (by omega)), (show Γ_37 (39, 0, 0) 0 = Γ (39, 0, 0) 0 from (by omega)), hP, hI, hfr, hgr, hS, lv_sub hl [0, 1, 2, 4, 5, 6] rfl⟩
              · have c_53 : r_50.toInt = r_52.toInt := tl_eq c_53
                refine lv_iload hx hb dX12_fewest_88 (lv_at hl 0 rfl) ?_
                refine lv_iload hx hb dX12_fewest_90 (lv_at hl 2 rfl) ?_
                refine lv_icmp_gt (tgt := 98) hx hb dX12_fewest_92 (by decide) (fun c_55 => ?_) (fun c_55 => ?_)
                · have c_55 : v4.toInt < r_34.toInt := tl_lt c_55
                  refine lv_iload hx hb dX12_fewest_98 (lv_at hl 1 rfl) ?_
                  refine lv_istore_n (lv' := [(3, .int v5), (6, .int r_34), (5, .int v5), (4, .int v4), (0, .ref o), (1, .int p0), (2, .int p1)]) hx hb dX12_fewest_100 rfl hl (by decide) rfl (fun ls hl => ?_)
                  refine lv_iload hx hb dX12_fewest_101 (lv_at hl 1 rfl) ?_
                  refine lv_istore (lv' := [(4, .int r_34), (3, .int v5), (6, .int r_34), (5, .int v5), (0, .ref o), (1, .int p0), (2, .int p1)]) hx hb dX12_fewest_103 hl (by decide) rfl (fun ls hl => ?_)
                  obtain ⟨z_56, ez_56⟩ : ∃ y : Int32, y = v5 + 1 := ⟨_, rfl⟩
                  refine lv_iinc (v := z_56) (lv' := [(5, .int z_56), (4, .int r_34), (3, .int v5), (6, .int r_34), (0, .ref o), (1, .int p0), (2, .int p1)]) hx hb dX12_fewest_105 hl (k := 3) rfl (by rw [ez_56]; rfl) (by decide) rfl (fun ls hl => ?_)
                  try have iz_56 : z_56.toInt = v5.toInt + 1 := by rw [ez_56]; exact tl_addL v5 1 (by decide) (by omega) (by omega)
                  refine lv_goto (tgt := 33) hx hb dX12_fewest_108 (by decide) ?_
                  exact ih33 (f_35, Γ_37, z_56, r_34, v5) H locs ls (by show (2147483647 - z_56.toInt).toNat < (2147483647 - v5.toInt).toNat; omega) ⟨(show 0 ≤ z_56.toInt from (by omega)), (show Γ_37 (39, 0, 0) 0 = Γ (39, 0, 0) 0 from (by omega)), hP, hI, hfr, hgr, hS, lv_sub hl [0, 1, 2, 4, 5, 6] rfl⟩
                · have c_55 : r_34.toInt ≤ v4.toInt := tl_nlt c_55
                  refine lv_goto (tgt := 105) hx hb dX12_fewest_95 (by decide) ?_
                  obtain ⟨z_57, ez_57⟩ : ∃ y : Int32, y = v5 + 1 := ⟨_, rfl⟩
                  refine lv_iinc (v := z_57) (lv' := [(5, .int z_57), (6, .int r_34), (4, .int v4), (3, .int v3), (0, .ref o), (1, .int p0), (2, .int p1)]) hx hb dX12_fewest_105 hl (k := 1) rfl (by rw [ez_57]; rfl) (by decide) rfl (fun ls hl => ?_)
                  try have iz_57 : z_57.toInt = v5.toInt + 1 := by rw [ez_57]; exact tl_addL v5 1 (by decide) (by omega) (by omega)
                  refine lv_goto (tgt := 33) hx hb dX12_fewest_108 (by decide) ?_
                  exact ih33 (f_35, Γ_37, z_57, v4, v3) H locs ls (by show (2147483647 - z_57.toInt).toNat < (2147483647 - v5.toInt).toNat; omega) ⟨(show 0 ≤ z_57.toInt from (by omega)), (show Γ_37 (39, 0, 0) 0 = Γ (39, 0, 0) 0 from (by omega)), hP, hI, hfr, hgr, hS, lv_sub hl [0, 2, 3, 4, 5, 6] rfl⟩
    · have c_6 := hw_4.f c_6
      refine lv_iconst (v := (-1)) hx hb dX12_fewest_22 (by decide) ?_
      have hpo9 : Γ (39, 0, 0) 0 = Γ (39, 0, 0) 0 := (by omega)
      exact W.iret (v := (-1)) hx hb hr (fun t ht hW => ⟨⟨_, (f, Γ), rfl, hpo9, by rw [ht]; exact hP, hI, hfr, hgr⟩, hS.F ht⟩) hS.2.2 dX12_fewest_23
set_option maxHeartbeats 4000000 in
set_option maxRecDepth 100000 in
theorem r_X12_count (l : Launch) (D : va_G) (cy : Nat → ClassId) (sz : Nat) (L : List Nat) (K : Nat → tk_K) (Γ : tk_G) (f : Nat → va_E) (o : Nat) (p0 : Int32) (ho : tp_r L K 39 (0) 0 o) (hsd : ts_said (Γ (40, 7666, 0)) (Γ (42, 3, 0) 1)) : Met l yX12_count (tl_w yX12_count cX12_count 4 (some .int)) ({ frames := 0, cells := 0, slots := 0, locals := 0 }) (va_Pc [.ref o, .int p0] (tp_P D cy L K Γ f sz)) (vp_Si (fun r : Int32 => True)) 0 0 (fun _ => False) := by
  refine Met.ofW (cc := cX12_count) (maxL := 4) (ret := (some .int)) (by decide) rfl ?_
  intro p e s m args below meth c s₁ B hml hv
  obtain ⟨rfl, hsz, hP, hK, hL, hI, hN, hU⟩ := hv
  have hx := B.exec
  have hb := B.bytes
  have hr := B.returns
  have hta := tl_hta (atoms_spec (ws := tl_w yX12_count cX12_count 4 (some .int)) B.pre)
  have hown : s.vm.findClass RX12 = some m.cls := findClass_of_methodNamed B.named
  have hlocks := B.notSynchronized
  subst hsz
  have hI0 := hI
  have hl := lv_entry ([.ref o, .int p0]) (n := 4) (Nat.le_of_ble_eq_true rfl)
  rw [lg_entry_eq]
  generalize (lg_sl ([.ref o, .int p0]) ++ List.replicate (4 - (lg_sl ([.ref o, .int p0])).length) Slot.unset).toArray = ls at hl ⊢
  have hl : lv_has ls 4 [(0, .ref o), (1, .int p0)] := hl
  have hs := ts_hs hsd
  refine lv_iconst (v := 0) hx hb dX12_count_0 (by decide) ?_
  refine lv_istore_n (lv' := [(2, .int 0), (0, .ref o), (1, .int p0)]) hx hb dX12_count_1 rfl hl (by decide) rfl (fun ls hl => ?_)
  refine lv_iload_n hx hb dX12_count_2 rfl (lv_at hl 2 rfl) ?_
  rcases (show p0.toInt = 0 ∨ p0.toInt = 1 ∨ p0.toInt = 2 ∨ p0.toInt = 3 ∨ p0.toInt = 4 ∨ p0.toInt = 5 ∨ p0.toInt = 6 ∨ p0.toInt = 7 ∨ p0.toInt = 8 ∨ p0.toInt = 9 ∨ p0.toInt = 10 ∨ (p0.toInt < 0 ∨ 10 < p0.toInt) by omega) with c_1 | c_1 | c_1 | c_1 | c_1 | c_1 | c_1 | c_1 | c_1 | c_1 | c_1 | c_1
  · refine lv_tableIn (tgt := 60) hx hb dX12_count_3 (by omega) (by omega) (by rw [c_1]; rfl) (by decide) ?_
    refine lv_aload_n hx hb dX12_count_60 rfl (lv_at hl 1 rfl) ?_
    obtain ⟨r_3, v_4, q_5, hf_2, hr_6, hv_7⟩ := (show tp_o_M L K 0 0 (Γ (39, 0, 0)) (f o) from hI0.at ho)
    refine tp_get (cy := cy) (ci := 12) (v := .ref (r_3 0)) (C := RX12) (T := TX12) (N := 49) hx hb hta inlX12 hown hK hP ho.1 hf_2 rfl 0 (by decide) (hta _ wk_149) (fun _ h9 => h9) rfl dX12_count_61 ?_
    refine lv_iconst (v := 0) hx hb dX12_count_64 (by decide) ?_
    obtain ⟨g_10, hf_9, hg_11⟩ := (show tp_gi cy (7666) (Γ (40, 7666, 0)) (f (r_3 0)) from hI0.at (show tp_r L K 40 7666 0 (r_3 0) from hr_6 0 (by decide)))
    have hn_12 : vp_in 0 (7666) := tl_in (by decide) (by decide)
    refine tp_iald (cy := cy) hx hb hK hP (show tp_r L K 40 7666 0 (r_3 0) from hr_6 0 (by decide)).1 hf_9 hn_12 dX12_count_65 ?_
    refine lv_topi (fun z_13 ez_13 => ?_)
    have iz_13 : z_13.toInt = Γ (40, 7666, 0) 0 := by rw [ez_13]; exact hg_11 _ (tp_pin hn_12)
    exact W.iret (v := z_13) hx hb hr (fun t ht hW => ⟨_, rfl, trivial, ht⟩) (fun q h => by cases h) dX12_count_66
  · refine lv_tableIn (tgt := 67) hx hb dX12_count_3 (by omega) (by omega) (by rw [c_1]; rfl) (by decide) ?_
    refine lv_aload_n hx hb dX12_count_67 rfl (lv_at hl 1 rfl) ?_
    obtain ⟨r_15, v_16, q_17, hf_14, hr_18, hv_19⟩ := (show tp_o_M L K 0 0 (Γ (39, 0, 0)) (f o) from hI0.at ho)
    refine tp_get (cy := cy) (ci := 12) (v := .ref (r_15 0)) (C := RX12) (T := TX12) (N := 49) hx hb hta inlX12 hown hK hP ho.1 hf_14 rfl 0 (by decide) (hta _ wk_149) (fun _ h9 => h9) rfl dX12_count_68 ?_
    refine lv_iconst (v := 1) hx hb dX12_count_71 (by decide) ?_
    obtain ⟨g_22, hf_21, hg_23⟩ := (show tp_gi cy (7666) (Γ (40, 7666, 0)) (f (r_15 0)) from hI0.at (show tp_r L K 40 7666 0 (r_15 0) from hr_18 0 (by decide)))
    have hn_24 : vp_in 1 (7666) := tl_in (by decide) (by decide)
    refine tp_iald (cy := cy) hx hb hK hP (show tp_r L K 40 7666 0 (r_15 0) from hr_18 0 (by decide)).1 hf_21 hn_24 dX12_count_72 ?_
    refine lv_topi (fun z_25 ez_25 => ?_)
    have iz_25 : z_25.toInt = Γ (40, 7666, 0) 1 := by rw [ez_25]; exact hg_23 _ (tp_pin hn_24)
    exact W.iret (v := z_25) hx hb hr (fun t ht hW => ⟨_, rfl, trivial, ht⟩) (fun q h => by cases h) dX12_count_73
  · refine lv_tableIn (tgt := 74) hx hb dX12_count_3 (by omega) (by omega) (by rw [c_1]; rfl) (by decide) ?_
    refine lv_aload_n hx hb dX12_count_74 rfl (lv_at hl 1 rfl) ?_
    obtain ⟨r_27, v_28, q_29, hf_26, hr_30, hv_31⟩ := (show tp_o_M L K 0 0 (Γ (39, 0, 0)) (f o) from hI0.at ho)
    refine tp_get (cy := cy) (ci := 12) (v := .ref (r_27 0)) (C := RX12) (T := TX12) (N := 49) hx hb hta inlX12 hown hK hP ho.1 hf_26 rfl 0 (by decide) (hta _ wk_149) (fun _ h9 => h9) rfl dX12_count_75 ?_
    refine lv_iconst (v := 2) hx hb dX12_count_78 (by decide) ?_
    obtain ⟨g_34, hf_33, hg_35⟩ := (show tp_gi cy (7666) (Γ (40, 7666, 0)) (f (r_27 0)) from hI0.at (show tp_r L K 40 7666 0 (r_27 0) from hr_30 0 (by decide)))
    have hn_36 : vp_in 2 (7666) := tl_in (by decide) (by decide)
    refine tp_iald (cy := cy) hx hb hK hP (show tp_r L K 40 7666 0 (r_27 0) from hr_30 0 (by decide)).1 hf_33 hn_36 dX12_count_79 ?_
    refine lv_topi (fun z_37 ez_37 => ?_)
    have iz_37 : z_37.toInt = Γ (40, 7666, 0) 2 := by rw [ez_37]; exact hg_35 _ (tp_pin hn_36)
    exact W.iret (v := z_37) hx hb hr (fun t ht hW => ⟨_, rfl, trivial, ht⟩) (fun q h => by cases h) dX12_count_80
  · refine lv_tableIn (tgt := 81) hx hb dX12_count_3 (by omega) (by omega) (by rw [c_1]; rfl) (by decide) ?_
    refine lv_aload_n hx hb dX12_count_81 rfl (lv_at hl 1 rfl) ?_
    obtain ⟨r_39, v_40, q_41, hf_38, hr_42, hv_43⟩ := (show tp_o_M L K 0 0 (Γ (39, 0, 0)) (f o) from hI0.at ho)
    refine tp_get (cy := cy) (ci := 12) (v := .ref (r_39 0)) (C := RX12) (T := TX12) (N := 49) hx hb hta inlX12 hown hK hP ho.1 hf_38 rfl 0 (by decide) (hta _ wk_149) (fun _ h9 => h9) rfl dX12_count_82 ?_
    refine lv_iconst (v := 3) hx hb dX12_count_85 (by decide) ?_
    obtain ⟨g_46, hf_45, hg_47⟩ := (show tp_gi cy (7666) (Γ (40, 7666, 0)) (f (r_39 0)) from hI0.at (show tp_r L K 40 7666 0 (r_39 0) from hr_42 0 (by decide)))
    have hn_48 : vp_in 3 (7666) := tl_in (by decide) (by decide)
    refine tp_iald (cy := cy) hx hb hK hP (show tp_r L K 40 7666 0 (r_39 0) from hr_42 0 (by decide)).1 hf_45 hn_48 dX12_count_86 ?_
    refine lv_topi (fun z_49 ez_49 => ?_)
    have iz_49 : z_49.toInt = Γ (40, 7666, 0) 3 := by rw [ez_49]; exact hg_47 _ (tp_pin hn_48)
    exact W.iret (v := z_49) hx hb hr (fun t ht hW => ⟨_, rfl, trivial, ht⟩) (fun q h => by cases h) dX12_count_87
  · refine lv_tableIn (tgt := 88) hx hb dX12_count_3 (by omega) (by omega) (by rw [c_1]; rfl) (by decide) ?_
    refine lv_aload_n hx hb dX12_count_88 rfl (lv_at hl 1 rfl) ?_
    obtain ⟨r_51, v_52, q_53, hf_50, hr_54, hv_55⟩ := (show tp_o_M L K 0 0 (Γ (39, 0, 0)) (f o) from hI0.at ho)
    refine tp_get (cy := cy) (ci := 12) (v := .ref (r_51 2)) (C := RX12) (T := TX12) (N := 49) hx hb hta inlX12 hown hK hP ho.1 hf_50 rfl 3 (by decide) (hta _ wk_152) (fun _ h9 => h9) rfl dX12_count_89 ?_
    refine lv_iconst (v := 0) hx hb dX12_count_92 (by decide) ?_
    obtain ⟨g_58, hf_57, hg_59⟩ := (show tp_gi cy (3) (Γ (42, 3, 0)) (f (r_51 2)) from hI0.at (show tp_r L K 42 3 0 (r_51 2) from hr_54 2 (by decide)))
    have hn_60 : vp_in 0 (3) := tl_in (by decide) (by decide)
    refine tp_iald (cy := cy) hx hb hK hP (show tp_r L K 42 3 0 (r_51 2) from hr_54 2 (by decide)).1 hf_57 hn_60 dX12_count_93 ?_
    refine lv_topi (fun z_61 ez_61 => ?_)
    have iz_61 : z_61.toInt = Γ (42, 3, 0) 0 := by rw [ez_61]; exact hg_59 _ (tp_pin hn_60)
    exact W.iret (v := z_61) hx hb hr (fun t ht hW => ⟨_, rfl, trivial, ht⟩) (fun q h => by cases h) dX12_count_94
  · refine lv_tableIn (tgt := 95) hx hb dX12_count_3 (by omega) (by omega) (by rw [c_1]; rfl) (by decide) ?_
    refine lv_aload_n hx hb dX12_count_95 rfl (lv_at hl 1 rfl) ?_
    obtain ⟨r_63, v_64, q_65, hf_62, hr_66, hv_67⟩ := (show tp_o_M L K 0 0 (Γ (39, 0, 0)) (f o) from hI0.at ho)
    refine tp_get (cy := cy) (ci := 12) (v := .ref (r_63 2)) (C := RX12) (T := TX12) (N := 49) hx hb hta inlX12 hown hK hP ho.1 hf_62 rfl 3 (by decide) (hta _ wk_152) (fun _ h9 => h9) rfl dX12_count_96 ?_
    refine lv_iconst (v := 1) hx hb dX12_count_99 (by decide) ?_
    obtain ⟨g_70, hf_69, hg_71⟩ := (show tp_gi cy (3) (Γ (42, 3, 0)) (f (r_63 2)) from hI0.at (show tp_r L K 42 3 0 (r_63 2) from hr_66 2 (by decide)))
    have hn_72 : vp_in 1 (3) := tl_in (by decide) (by decide)
    refine tp_iald (cy := cy) hx hb hK hP (show tp_r L K 42 3 0 (r_63 2) from hr_66 2 (by decide)).1 hf_69 hn_72 dX12_count_100 ?_
    refine lv_topi (fun z_73 ez_73 => ?_)
    have iz_73 : z_73.toInt = Γ (42, 3, 0) 1 := by rw [ez_73]; exact hg_71 _ (tp_pin hn_72)
    exact W.iret (v := z_73) hx hb hr (fun t ht hW => ⟨_, rfl, trivial, ht⟩) (fun q h => by cases h) dX12_count_101
  · refine lv_tableIn (tgt := 102) hx hb dX12_count_3 (by omega) (by omega) (by rw [c_1]; rfl) (by decide) ?_
    refine lv_aload_n hx hb dX12_count_102 rfl (lv_at hl 1 rfl) ?_
    obtain ⟨r_75, v_76, q_77, hf_74, hr_78, hv_79⟩ := (show tp_o_M L K 0 0 (Γ (39, 0, 0)) (f o) from hI0.at ho)
    refine tp_get (cy := cy) (ci := 12) (v := .ref (r_75 2)) (C := RX12) (T := TX12) (N := 49) hx hb hta inlX12 hown hK hP ho.1 hf_74 rfl 3 (by decide) (hta _ wk_152) (fun _ h9 => h9) rfl dX12_count_103 ?_
    refine lv_iconst (v := 2) hx hb dX12_count_106 (by decide) ?_
    obtain ⟨g_82, hf_81, hg_83⟩ := (show tp_gi cy (3) (Γ (42, 3, 0)) (f (r_75 2)) from hI0.at (show tp_r L K 42 3 0 (r_75 2) from hr_78 2 (by decide)))
    have hn_84 : vp_in 2 (3) := tl_in (by decide) (by decide)
    refine tp_iald (cy := cy) hx hb hK hP (show tp_r L K 42 3 0 (r_75 2) from hr_78 2 (by decide)).1 hf_81 hn_84 dX12_count_107 ?_
    refine lv_topi (fun z_85 ez_85 => ?_)
    have iz_85 : z_85.toInt = Γ (42, 3, 0) 2 := by rw [ez_85]; exact hg_83 _ (tp_pin hn_84)
    exact W.iret (v := z_85) hx hb hr (fun t ht hW => ⟨_, rfl, trivial, ht⟩) (fun q h => by cases h) dX12_count_108
  · refine lv_tableIn (tgt := 109) hx hb dX12_count_3 (by omega) (by omega) (by rw [c_1]; rfl) (by decide) ?_
    refine lv_aload_n hx hb dX12_count_109 rfl (lv_at hl 1 rfl) ?_
    obtain ⟨r_87, v_88, q_89, hf_86, hr_90, hv_91⟩ := (show tp_o_M L K 0 0 (Γ (39, 0, 0)) (f o) from hI0.at ho)
    refine tp_get (cy := cy) (ci := 12) (v := .ref (r_87 0)) (C := RX12) (T := TX12) (N := 49) hx hb hta inlX12 hown hK hP ho.1 hf_86 rfl 0 (by decide) (hta _ wk_149) (fun _ h9 => h9) rfl dX12_count_110 ?_
    refine lv_iconst (v := 4) hx hb dX12_count_113 (by decide) ?_
    obtain ⟨g_94, hf_93, hg_95⟩ := (show tp_gi cy (7666) (Γ (40, 7666, 0)) (f (r_87 0)) from hI0.at (show tp_r L K 40 7666 0 (r_87 0) from hr_90 0 (by decide)))
    have hn_96 : vp_in 4 (7666) := tl_in (by decide) (by decide)
    refine tp_iald (cy := cy) hx hb hK hP (show tp_r L K 40 7666 0 (r_87 0) from hr_90 0 (by decide)).1 hf_93 hn_96 dX12_count_114 ?_
    refine lv_topi (fun z_97 ez_97 => ?_)
    have iz_97 : z_97.toInt = Γ (40, 7666, 0) 4 := by rw [ez_97]; exact hg_95 _ (tp_pin hn_96)
    exact W.iret (v := z_97) hx hb hr (fun t ht hW => ⟨_, rfl, trivial, ht⟩) (fun q h => by cases h) dX12_count_115
  · refine lv_tableIn (tgt := 116) hx hb dX12_count_3 (by omega) (by omega) (by rw [c_1]; rfl) (by decide) ?_
    refine lv_iconst (v := 0) hx hb dX12_count_116 (by decide) ?_
    refine lv_istore_n (lv' := [(3, .int 0), (2, .int 0), (0, .ref o), (1, .int p0)]) hx hb dX12_count_117 rfl hl (by decide) rfl (fun ls hl => ?_)
    refine tl_indR (G := fun ls => W p l e ((headSpec (tl_w yX12_count cX12_count 4 (some .int)) ({ frames := 0, cells := 0, slots := 0, locals := 0 })).room) s m #[.ref o, .int p0] below meth c s.heap [] 0 0 (MQ below (vp_Si (fun r : Int32 => True)) #[.ref o, .int p0] s 0 0 (fun _ => False)) (F0 m 118 ls [])) (α := Int32 × Int32) (fun aq => (7200 - aq.1.toInt).toNat) (fun aq ls => (0 ≤ aq.1.toInt) ∧ lv_has ls 4 [(3, .int aq.1), (2, .int aq.2), (0, .ref o), (1, .int p0)]) ?_ ((0 : Int32), (0 : Int32)) ls ⟨(show 0 ≤ (0 : Int) from (by omega)), lv_sub hl [0, 1, 2, 3] rfl⟩
    rintro ⟨v3, v2⟩ ls ⟨hr3, hl⟩ ih118
    have hr3 : 0 ≤ v3.toInt := hr3
    have hl : lv_has ls 4 [(3, .int v3), (2, .int v2), (0, .ref o), (1, .int p0)] := hl
    refine lv_iload_n hx hb dX12_count_118 rfl (lv_at hl 0 rfl) ?_
    refine lv_sipush (v := 300) hx hb dX12_count_119 (by decide) ?_
    refine lv_aload_n hx hb dX12_count_122 rfl (lv_at hl 2 rfl) ?_
    obtain ⟨r_99, v_100, q_101, hf_98, hr_102, hv_103⟩ := (show tp_o_M L K 0 0 (Γ (39, 0, 0)) (f o) from hI0.at ho)
    refine tp_get (cy := cy) (ci := 12) (v := .ref (r_99 0)) (C := RX12) (T := TX12) (N := 49) hx hb hta inlX12 hown hK hP ho.1 hf_98 rfl 0 (by decide) (hta _ wk_149) (fun _ h9 => h9) rfl dX12_count_123 ?_
    refine lv_iconst (v := 1) hx hb dX12_count_126 (by decide) ?_
    obtain ⟨g_106, hf_105, hg_107⟩ := (show tp_gi cy (7666) (Γ (40, 7666, 0)) (f (r_99 0)) from hI0.at (show tp_r L K 40 7666 0 (r_99 0) from hr_102 0 (by decide)))
    have hn_108 : vp_in 1 (7666) := tl_in (by decide) (by decide)
    refine tp_iald (cy := cy) hx hb hK hP (show tp_r L K 40 7666 0 (r_99 0) from hr_102 0 (by decide)).1 hf_105 hn_108 dX12_count_127 ?_
    refine lv_topi (fun z_109 ez_109 => ?_)
    have iz_109 : z_109.toInt = Γ (40, 7666, 0) 1 := by rw [ez_109]; exact hg_107 _ (tp_pin hn_108)
    refine lv_imul hx hb dX12_count_128 ?_
    refine lv_topi (fun z_110 ez_110 => ?_)
    try have iz_110 : z_110.toInt = (300 : Int) * z_109.toInt := by rw [ez_110]; exact tl_mulN 300 z_109 rfl rfl (by omega) (by omega)
    refine lv_icmp_ge (tgt := 161) hx hb dX12_count_129 (by decide) (fun c_111 => ?_) (fun c_111 => ?_)
    · have c_111 : z_110.toInt ≤ v3.toInt := tl_le c_111
      refine lv_iload_n hx hb dX12_count_161 rfl (lv_at hl 1 rfl) ?_
      exact W.iret (v := v2) hx hb hr (fun t ht hW => ⟨_, rfl, trivial, ht⟩) (fun q h => by cases h) dX12_count_162
    · have c_111 : v3.toInt < z_110.toInt := tl_nle c_111
      refine lv_iload_n hx hb dX12_count_132 rfl (lv_at hl 1 rfl) ?_
      refine lv_aload_n hx hb dX12_count_133 rfl (lv_at hl 2 rfl) ?_
      refine tp_get (cy := cy) (ci := 12) (v := .ref (r_99 0)) (C := RX12) (T := TX12) (N := 49) hx hb hta inlX12 hown hK hP ho.1 hf_98 rfl 0 (by decide) (hta _ wk_149) (fun _ h9 => h9) rfl dX12_count_134 ?_
      refine lv_sipush (v := 441) hx hb dX12_count_137 (by decide) ?_
      refine lv_iload_n hx hb dX12_count_140 rfl (lv_at hl 0 rfl) ?_
      refine lv_iadd hx hb dX12_count_141 ?_
      refine lv_topi (fun z_112 ez_112 => ?_)
      try have iz_112 : z_112.toInt = (441 : Int) + v3.toInt := by rw [ez_112]; exact tl_addN 441 v3 rfl rfl (by omega) (by omega)
      have hn_113 : vp_in z_112 (7666) := tl_in (by omega) (by omega)
      refine tp_iald (cy := cy) hx hb hK hP (show tp_r L K 40 7666 0 (r_99 0) from hr_102 0 (by decide)).1 hf_105 hn_113 dX12_count_142 ?_
      refine lv_topi (fun z_114 ez_114 => ?_)
      have iz_114 : z_114.toInt = Γ (40, 7666, 0) z_112.toInt.toNat := by rw [ez_114]; exact hg_107 _ (tp_pin hn_113)
      refine lv_ldc (v := (-1000000)) hx hb hown (hta _ wk_182) dX12_count_143 ?_
      refine lv_icmp_ne (tgt := 152) hx hb dX12_count_145 (by decide) (fun c_115 => ?_) (fun c_115 => ?_)
      · have c_115 : ¬ z_114.toInt = (-1000000 : Int) := tl_neq c_115
        refine lv_iconst (v := 1) hx hb dX12_count_152 (by decide) ?_
        refine lv_iadd hx hb dX12_count_153 ?_
        refine lv_topi (fun z_116 ez_116 => ?_)
        try have iz_116 : z_116.toInt = v2.toInt + (1 : Int) := by rw [ez_116]; exact tl_addN v2 1 rfl rfl (by omega) (by omega)
        refine lv_istore_n (lv' := [(2, .int z_116), (3, .int v3), (0, .ref o), (1, .int p0)]) hx hb dX12_count_154 rfl hl (by decide) rfl (fun ls hl => ?_)
        obtain ⟨z_117, ez_117⟩ : ∃ y : Int32, y = v3 + 1 := ⟨_, rfl⟩
        refine lv_iinc (v := z_117) (lv' := [(3, .int z_117), (2, .int z_116), (0, .ref o), (1, .int p0)]) hx hb dX12_count_155 hl (k := 1) rfl (by rw [ez_117]; rfl) (by decide) rfl (fun ls hl => ?_)
        try have iz_117 : z_117.toInt = v3.toInt + 1 := by rw [ez_117]; exact tl_addL v3 1 (by decide) (by omega) (by omega)
        refine lv_goto (tgt := 118) hx hb dX12_count_158 (by decide) ?_
        exact ih118 (z_117, z_116) ls (by show (7200 - z_117.toInt).toNat < (7200 - v3.toInt).toNat; omega) ⟨(show 0 ≤ z_117.toInt from (by omega)), lv_sub hl [0, 1, 2, 3] rfl⟩
      · have c_115 : z_114.toInt = (-1000000 : Int) := tl_eq c_115
        refine lv_iconst (v := 0) hx hb dX12_count_148 (by decide) ?_
        refine lv_goto (tgt := 153) hx hb dX12_count_149 (by decide) ?_
        refine lv_iadd hx hb dX12_count_153 ?_
        refine lv_topi (fun z_118 ez_118 => ?_)
        try have iz_118 : z_118.toInt = v2.toInt + (0 : Int) := by rw [ez_118]; exact tl_addN v2 0 rfl rfl (by omega) (by omega)
        refine lv_istore_n (lv' := [(2, .int z_118), (3, .int v3), (0, .ref o), (1, .int p0)]) hx hb dX12_count_154 rfl hl (by decide) rfl (fun ls hl => ?_)
        obtain ⟨z_119, ez_119⟩ : ∃ y : Int32, y = v3 + 1 := ⟨_, rfl⟩
        refine lv_iinc (v := z_119) (lv' := [(3, .int z_119), (2, .int z_118), (0, .ref o), (1, .int p0)]) hx hb dX12_count_155 hl (k := 1) rfl (by rw [ez_119]; rfl) (by decide) rfl (fun ls hl => ?_)
        try have iz_119 : z_119.toInt = v3.toInt + 1 := by rw [ez_119]; exact tl_addL v3 1 (by decide) (by omega) (by omega)
        refine lv_goto (tgt := 118) hx hb dX12_count_158 (by decide) ?_
        exact ih118 (z_119, z_118) ls (by show (7200 - z_119.toInt).toNat < (7200 - v3.toInt).toNat; omega) ⟨(show 0 ≤ z_119.toInt from (by omega)), lv_sub hl [0, 1, 2, 3] rfl⟩
  · refine lv_tableIn (tgt := 163) hx hb dX12_count_3 (by omega) (by omega) (by rw [c_1]; rfl) (by decide) ?_
    refine lv_aload_n hx hb dX12_count_163 rfl (lv_at hl 1 rfl) ?_
    obtain ⟨r_121, v_122, q_123, hf_120, hr_124, hv_125⟩ := (show tp_o_M L K 0 0 (Γ (39, 0, 0)) (f o) from hI0.at ho)
    have hx_126 : (v_122 0).toInt = Γ (39, 0, 0) 0 := hv_125 0 (by decide)
    refine tp_get (cy := cy) (ci := 12) (v := .int (v_122 0)) (C := RX12) (T := TX12) (N := 49) hx hb hta inlX12 hown hK hP ho.1 hf_120 rfl 2 (by decide) (hta _ wk_347) (fun _ h9 => h9) rfl dX12_count_164 ?_
    exact W.iret (v := (v_122 0)) hx hb hr (fun t ht hW => ⟨_, rfl, trivial, ht⟩) (fun q h => by cases h) dX12_count_167
  · refine lv_tableIn (tgt := 168) hx hb dX12_count_3 (by omega) (by omega) (by rw [c_1]; rfl) (by decide) ?_
    refine lv_aload_n hx hb dX12_count_168 rfl (lv_at hl 1 rfl) ?_
    obtain ⟨r_128, v_129, q_130, hf_127, hr_131, hv_132⟩ := (show tp_o_M L K 0 0 (Γ (39, 0, 0)) (f o) from hI0.at ho)
    refine tp_get (cy := cy) (ci := 12) (v := .ref (r_128 0)) (C := RX12) (T := TX12) (N := 49) hx hb hta inlX12 hown hK hP ho.1 hf_127 rfl 0 (by decide) (hta _ wk_149) (fun _ h9 => h9) rfl dX12_count_169 ?_
    refine lv_sipush (v := 7665) hx hb dX12_count_172 (by decide) ?_
    obtain ⟨g_135, hf_134, hg_136⟩ := (show tp_gi cy (7666) (Γ (40, 7666, 0)) (f (r_128 0)) from hI0.at (show tp_r L K 40 7666 0 (r_128 0) from hr_131 0 (by decide)))
    have hn_137 : vp_in 7665 (7666) := tl_in (by decide) (by decide)
    refine tp_iald (cy := cy) hx hb hK hP (show tp_r L K 40 7666 0 (r_128 0) from hr_131 0 (by decide)).1 hf_134 hn_137 dX12_count_175 ?_
    refine lv_topi (fun z_138 ez_138 => ?_)
    have iz_138 : z_138.toInt = Γ (40, 7666, 0) 7665 := by rw [ez_138]; exact hg_136 _ (tp_pin hn_137)
    exact W.iret (v := z_138) hx hb hr (fun t ht hW => ⟨_, rfl, trivial, ht⟩) (fun q h => by cases h) dX12_count_176
  · refine lv_tableOut (tgt := 177) hx hb dX12_count_3 (by omega) (by decide) ?_
    refine lv_iconst (v := (-1)) hx hb dX12_count_177 (by decide) ?_
    exact W.iret (v := (-1)) hx hb hr (fun t ht hW => ⟨_, rfl, trivial, ht⟩) (fun q h => by cases h) dX12_count_178
