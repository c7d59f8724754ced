theorem dX12_scoreOf_0 : decode cX12_scoreOf 0 = .ok (.aload_n 0, 1) := by decide +kernel
theorem dX12_scoreOf_1 : decode cX12_scoreOf 1 = .ok (.iload_n 2, 1) := by decide +kernel
theorem dX12_scoreOf_2 : decode cX12_scoreOf 2 = .ok (.invokevirtual 441, 3) := by decide +kernel
theorem dX12_scoreOf_5 : decode cX12_scoreOf 5 = .ok (.aload_n 0, 1) := by decide +kernel
theorem dX12_scoreOf_6 : decode cX12_scoreOf 6 = .ok (.iload_n 1, 1) := by decide +kernel
theorem dX12_scoreOf_7 : decode cX12_scoreOf 7 = .ok (.iload_n 2, 1) := by decide +kernel
theorem dX12_scoreOf_8 : decode cX12_scoreOf 8 = .ok (.invokevirtual 444, 3) := by decide +kernel
theorem dX12_scoreOf_11 : decode cX12_scoreOf 11 = .ok (.lreturn, 1) := by decide +kernel
theorem wk_912 : Cond.methodLink RX12 441 yX12_lifts ∈ tl_L := List.mem_filter.mpr ⟨lw_m8 (i := 18) rfl, rfl⟩
theorem wk_913 : Cond.instanceMethod yX12_lifts ∈ tl_L := List.mem_filter.mpr ⟨lw_m8 (i := 20) rfl, rfl⟩
theorem wk_914 : Cond.selects RX12 yX12_lifts yX12_lifts ∈ tl_L := List.mem_filter.mpr ⟨lw_s10 (i := 4) (q := (yX12_lifts, 49)) rfl, rfl⟩
theorem wk_915 : Cond.code yX12_lifts cX12_lifts 3 none ∈ tl_L := List.mem_filter.mpr ⟨lw_m8 (i := 21) rfl, rfl⟩
theorem wk_916 : Cond.methodLink RX12 444 yX12_own ∈ tl_L := List.mem_filter.mpr ⟨lw_m8 (i := 22) rfl, rfl⟩
theorem wk_917 : Cond.instanceMethod yX12_own ∈ tl_L := List.mem_filter.mpr ⟨lw_m8 (i := 24) rfl, rfl⟩
theorem wk_918 : Cond.selects RX12 yX12_own yX12_own ∈ tl_L := List.mem_filter.mpr ⟨lw_s10 (i := 5) (q := (yX12_own, 49)) rfl, rfl⟩
theorem wk_919 : Cond.code yX12_own cX12_own 4 (some .long) ∈ tl_L := List.mem_filter.mpr ⟨lw_m8 (i := 25) rfl, rfl⟩
theorem lk_X12_441 : tl_kV RX12 441 RX12 yX12_lifts cX12_lifts 3 none 1 := ⟨wk_915, wk_912, wk_913, wk_914, wk_5, ⟨by decide +kernel, by decide +kernel, by decide +kernel⟩⟩
theorem lk_X12_444 : tl_kV RX12 444 RX12 yX12_own cX12_own 4 (some .long) 2 := ⟨wk_919, wk_916, wk_917, wk_918, wk_5, ⟨by decide +kernel, by decide +kernel, by decide +kernel⟩⟩
theorem dX12_curve_0 : decode cX12_curve 0 = .ok (.aload_n 0, 1) := by decide +kernel
theorem dX12_curve_1 : decode cX12_curve 1 = .ok (.iload_n 1, 1) := by decide +kernel
theorem dX12_curve_2 : decode cX12_curve 2 = .ok (.iload_n 2, 1) := by decide +kernel
theorem dX12_curve_3 : decode cX12_curve 3 = .ok (.invokevirtual 447, 3) := by decide +kernel
theorem dX12_curve_6 : decode cX12_curve 6 = .ok (.ifCond .eq 23, 3) := by decide +kernel
theorem dX12_curve_9 : decode cX12_curve 9 = .ok (.iload_n 3, 1) := by decide +kernel
theorem dX12_curve_10 : decode cX12_curve 10 = .ok (.invokestatic 124, 3) := by decide +kernel
theorem dX12_curve_13 : decode cX12_curve 13 = .ok (.ifCond .eq 16, 3) := by decide +kernel
theorem dX12_curve_16 : decode cX12_curve 16 = .ok (.iload 4, 2) := by decide +kernel
theorem dX12_curve_18 : decode cX12_curve 18 = .ok (.i2l, 1) := by decide +kernel
theorem dX12_curve_19 : decode cX12_curve 19 = .ok (.lconst 0, 1) := by decide +kernel
theorem dX12_curve_20 : decode cX12_curve 20 = .ok (.ldc2_w 322, 3) := by decide +kernel
theorem dX12_curve_23 : decode cX12_curve 23 = .ok (.invokestatic 112, 3) := by decide +kernel
theorem dX12_curve_26 : decode cX12_curve 26 = .ok (.ifCond .ne 6, 3) := by decide +kernel
theorem dX12_curve_29 : decode cX12_curve 29 = .ok (.ldc 131, 2) := by decide +kernel
theorem dX12_curve_31 : decode cX12_curve 31 = .ok (.ireturn, 1) := by decide +kernel
theorem dX12_curve_32 : decode cX12_curve 32 = .ok (.aload_n 0, 1) := by decide +kernel
theorem dX12_curve_33 : decode cX12_curve 33 = .ok (.iload_n 1, 1) := by decide +kernel
theorem dX12_curve_34 : decode cX12_curve 34 = .ok (.iload_n 2, 1) := by decide +kernel
theorem dX12_curve_35 : decode cX12_curve 35 = .ok (.invokevirtual 450, 3) := by decide +kernel
theorem dX12_curve_38 : decode cX12_curve 38 = .ok (.pop2, 1) := by decide +kernel
theorem dX12_curve_39 : decode cX12_curve 39 = .ok (.iload 4, 2) := by decide +kernel
theorem dX12_curve_41 : decode cX12_curve 41 = .ok (.ifCond .ne 18, 3) := by decide +kernel
theorem dX12_curve_44 : decode cX12_curve 44 = .ok (.aload_n 0, 1) := by decide +kernel
theorem dX12_curve_45 : decode cX12_curve 45 = .ok (.getfield 72, 3) := by decide +kernel
theorem dX12_curve_48 : decode cX12_curve 48 = .ok (.iload_n 3, 1) := by decide +kernel
theorem dX12_curve_49 : decode cX12_curve 49 = .ok (.baload, 1) := by decide +kernel
theorem dX12_curve_50 : decode cX12_curve 50 = .ok (.ifCond .eq 7, 3) := by decide +kernel
theorem dX12_curve_53 : decode cX12_curve 53 = .ok (.iconst 1, 1) := by decide +kernel
theorem dX12_curve_54 : decode cX12_curve 54 = .ok (.goto 4, 3) := by decide +kernel
theorem dX12_curve_57 : decode cX12_curve 57 = .ok (.iconst 0, 1) := by decide +kernel
theorem dX12_curve_58 : decode cX12_curve 58 = .ok (.ireturn, 1) := by decide +kernel
theorem dX12_curve_59 : decode cX12_curve 59 = .ok (.aload_n 0, 1) := by decide +kernel
theorem dX12_curve_60 : decode cX12_curve 60 = .ok (.getfield 398, 3) := by decide +kernel
theorem dX12_curve_63 : decode cX12_curve 63 = .ok (.ifCond .ne 6, 3) := by decide +kernel
theorem dX12_curve_66 : decode cX12_curve 66 = .ok (.ldc 109, 2) := by decide +kernel
theorem dX12_curve_68 : decode cX12_curve 68 = .ok (.ireturn, 1) := by decide +kernel
theorem dX12_curve_69 : decode cX12_curve 69 = .ok (.iload 4, 2) := by decide +kernel
theorem dX12_curve_71 : decode cX12_curve 71 = .ok (.iconst 1, 1) := by decide +kernel
theorem dX12_curve_72 : decode cX12_curve 72 = .ok (.if_icmp .ne 12, 3) := by decide +kernel
theorem dX12_curve_75 : decode cX12_curve 75 = .ok (.aload_n 0, 1) := by decide +kernel
theorem dX12_curve_76 : decode cX12_curve 76 = .ok (.iload_n 3, 1) := by decide +kernel
theorem dX12_curve_77 : decode cX12_curve 77 = .ok (.invokevirtual 407, 3) := by decide +kernel
theorem dX12_curve_80 : decode cX12_curve 80 = .ok (.l2i, 1) := by decide +kernel
theorem dX12_curve_81 : decode cX12_curve 81 = .ok (.goto 10, 3) := by decide +kernel
theorem dX12_curve_84 : decode cX12_curve 84 = .ok (.aload_n 0, 1) := by decide +kernel
theorem dX12_curve_85 : decode cX12_curve 85 = .ok (.getfield 82, 3) := by decide +kernel
theorem dX12_curve_88 : decode cX12_curve 88 = .ok (.iload_n 3, 1) := by decide +kernel
theorem dX12_curve_89 : decode cX12_curve 89 = .ok (.laload, 1) := by decide +kernel
theorem dX12_curve_90 : decode cX12_curve 90 = .ok (.l2i, 1) := by decide +kernel
theorem dX12_curve_91 : decode cX12_curve 91 = .ok (.ireturn, 1) := by decide +kernel
theorem wk_536 : Cond.constantLong RX12 322 (2) ∈ tl_L := List.mem_filter.mpr ⟨lw_m7 (i := 53) rfl, rfl⟩
theorem wk_904 : Cond.methodLink RX12 447 yX12_canAsk ∈ tl_L := List.mem_filter.mpr ⟨lw_m8 (i := 10) rfl, rfl⟩
theorem wk_905 : Cond.instanceMethod yX12_canAsk ∈ tl_L := List.mem_filter.mpr ⟨lw_m8 (i := 12) rfl, rfl⟩
theorem wk_906 : Cond.selects RX12 yX12_canAsk yX12_canAsk ∈ tl_L := List.mem_filter.mpr ⟨lw_s10 (i := 2) (q := (yX12_canAsk, 49)) rfl, rfl⟩
theorem wk_907 : Cond.code yX12_canAsk cX12_canAsk 3 (some .boolean) ∈ tl_L := List.mem_filter.mpr ⟨lw_m8 (i := 13) rfl, rfl⟩
theorem wk_908 : Cond.methodLink RX12 450 yX12_scoreOf ∈ tl_L := List.mem_filter.mpr ⟨lw_m8 (i := 14) rfl, rfl⟩
theorem wk_909 : Cond.instanceMethod yX12_scoreOf ∈ tl_L := List.mem_filter.mpr ⟨lw_m8 (i := 16) rfl, rfl⟩
theorem wk_910 : Cond.selects RX12 yX12_scoreOf yX12_scoreOf ∈ tl_L := List.mem_filter.mpr ⟨lw_s10 (i := 3) (q := (yX12_scoreOf, 49)) rfl, rfl⟩
theorem wk_911 : Cond.code yX12_scoreOf cX12_scoreOf 3 (some .long) ∈ tl_L := List.mem_filter.mpr ⟨lw_m8 (i := 17) rfl, rfl⟩
theorem lk_X12_447 : tl_kV RX12 447 RX12 yX12_canAsk cX12_canAsk 3 (some .boolean) 2 := ⟨wk_907, wk_904, wk_905, wk_906, wk_5, ⟨by decide +kernel, by decide +kernel, by decide +kernel⟩⟩
theorem lk_X12_450 : tl_kV RX12 450 RX12 yX12_scoreOf cX12_scoreOf 3 (some .long) 2 := ⟨wk_911, wk_908, wk_909, wk_910, wk_5, ⟨by decide +kernel, by decide +kernel, by decide +kernel⟩⟩
theorem dX12_deep_0 : decode cX12_deep 0 = .ok (.aload_n 0, 1) := by decide +kernel
theorem dX12_deep_1 : decode cX12_deep 1 = .ok (.iload_n 1, 1) := by decide +kernel
theorem dX12_deep_2 : decode cX12_deep 2 = .ok (.iload_n 2, 1) := by decide +kernel
theorem dX12_deep_3 : decode cX12_deep 3 = .ok (.invokevirtual 447, 3) := by decide +kernel
theorem dX12_deep_6 : decode cX12_deep 6 = .ok (.ifCond .eq 15, 3) := by decide +kernel
theorem dX12_deep_9 : decode cX12_deep 9 = .ok (.iload_n 3, 1) := by decide +kernel
theorem dX12_deep_10 : decode cX12_deep 10 = .ok (.i2l, 1) := by decide +kernel
theorem dX12_deep_11 : decode cX12_deep 11 = .ok (.lconst 0, 1) := by decide +kernel
theorem dX12_deep_12 : decode cX12_deep 12 = .ok (.ldc2_w 453, 3) := by decide +kernel
theorem dX12_deep_15 : decode cX12_deep 15 = .ok (.invokestatic 112, 3) := by decide +kernel
theorem dX12_deep_18 : decode cX12_deep 18 = .ok (.ifCond .ne 7, 3) := by decide +kernel
theorem dX12_deep_21 : decode cX12_deep 21 = .ok (.ldc2_w 455, 3) := by decide +kernel
theorem dX12_deep_24 : decode cX12_deep 24 = .ok (.lreturn, 1) := by decide +kernel
theorem dX12_deep_25 : decode cX12_deep 25 = .ok (.aload_n 0, 1) := by decide +kernel
theorem dX12_deep_26 : decode cX12_deep 26 = .ok (.iload_n 1, 1) := by decide +kernel
theorem dX12_deep_27 : decode cX12_deep 27 = .ok (.iload_n 2, 1) := by decide +kernel
theorem dX12_deep_28 : decode cX12_deep 28 = .ok (.invokevirtual 450, 3) := by decide +kernel
theorem dX12_deep_31 : decode cX12_deep 31 = .ok (.lstore 4, 2) := by decide +kernel
theorem dX12_deep_33 : decode cX12_deep 33 = .ok (.iload_n 3, 1) := by decide +kernel
theorem dX12_deep_34 : decode cX12_deep 34 = .ok (.tableswitch 75 0 3 #[30, 48, 66, 69], 30) := by decide +kernel
theorem dX12_deep_64 : decode cX12_deep 64 = .ok (.aload_n 0, 1) := by decide +kernel
theorem dX12_deep_65 : decode cX12_deep 65 = .ok (.getfield 425, 3) := by decide +kernel
theorem dX12_deep_68 : decode cX12_deep 68 = .ok (.ifCond .eq 10, 3) := by decide +kernel
theorem dX12_deep_71 : decode cX12_deep 71 = .ok (.aload_n 0, 1) := by decide +kernel
theorem dX12_deep_72 : decode cX12_deep 72 = .ok (.invokevirtual 431, 3) := by decide +kernel
theorem dX12_deep_75 : decode cX12_deep 75 = .ok (.goto 6, 3) := by decide +kernel
theorem dX12_deep_78 : decode cX12_deep 78 = .ok (.ldc2_w 405, 3) := by decide +kernel
theorem dX12_deep_81 : decode cX12_deep 81 = .ok (.lreturn, 1) := by decide +kernel
theorem dX12_deep_82 : decode cX12_deep 82 = .ok (.aload_n 0, 1) := by decide +kernel
theorem dX12_deep_83 : decode cX12_deep 83 = .ok (.getfield 398, 3) := by decide +kernel
theorem dX12_deep_86 : decode cX12_deep 86 = .ok (.ifCond .ne 9, 3) := by decide +kernel
theorem dX12_deep_89 : decode cX12_deep 89 = .ok (.ldc2_w 457, 3) := by decide +kernel
theorem dX12_deep_92 : decode cX12_deep 92 = .ok (.goto 7, 3) := by decide +kernel
theorem dX12_deep_95 : decode cX12_deep 95 = .ok (.aload_n 0, 1) := by decide +kernel
theorem dX12_deep_96 : decode cX12_deep 96 = .ok (.invokevirtual 434, 3) := by decide +kernel
theorem dX12_deep_99 : decode cX12_deep 99 = .ok (.lreturn, 1) := by decide +kernel
theorem dX12_deep_100 : decode cX12_deep 100 = .ok (.lload 4, 2) := by decide +kernel
theorem dX12_deep_102 : decode cX12_deep 102 = .ok (.lreturn, 1) := by decide +kernel
theorem dX12_deep_103 : decode cX12_deep 103 = .ok (.aload_n 0, 1) := by decide +kernel
theorem dX12_deep_104 : decode cX12_deep 104 = .ok (.getfield 398, 3) := by decide +kernel
theorem dX12_deep_107 : decode cX12_deep 107 = .ok (.i2l, 1) := by decide +kernel
theorem dX12_deep_108 : decode cX12_deep 108 = .ok (.lreturn, 1) := by decide +kernel
theorem dX12_deep_109 : decode cX12_deep 109 = .ok (.aload_n 0, 1) := by decide +kernel
theorem dX12_deep_110 : decode cX12_deep 110 = .ok (.getfield 395, 3) := by decide +kernel
theorem dX12_deep_113 : decode cX12_deep 113 = .ok (.i2l, 1) := by decide +kernel
theorem dX12_deep_114 : decode cX12_deep 114 = .ok (.lreturn, 1) := by decide +kernel
theorem wk_989 : Cond.constantLong RX12 453 (4) ∈ tl_L := List.mem_filter.mpr ⟨lw_m8 (i := 62) rfl, rfl⟩
theorem wk_990 : Cond.constantLong RX12 455 (-2000000000) ∈ tl_L := List.mem_filter.mpr ⟨lw_m8 (i := 63) rfl, rfl⟩
theorem wk_991 : Cond.constantLong RX12 457 (-1) ∈ tl_L := List.mem_filter.mpr ⟨lw_m8 (i := 64) rfl, rfl⟩
theorem dX12_lengthOf_0 : decode cX12_lengthOf 0 = .ok (.aload_n 0, 1) := by decide +kernel
theorem dX12_lengthOf_1 : decode cX12_lengthOf 1 = .ok (.getfield 53, 3) := by decide +kernel
theorem dX12_lengthOf_4 : decode cX12_lengthOf 4 = .ok (.bipush 6, 2) := by decide +kernel
theorem dX12_lengthOf_6 : decode cX12_lengthOf 6 = .ok (.iload_n 1, 1) := by decide +kernel
theorem dX12_lengthOf_7 : decode cX12_lengthOf 7 = .ok (.iadd, 1) := by decide +kernel
theorem dX12_lengthOf_8 : decode cX12_lengthOf 8 = .ok (.iaload, 1) := by decide +kernel
theorem dX12_lengthOf_9 : decode cX12_lengthOf 9 = .ok (.aload_n 0, 1) := by decide +kernel
theorem dX12_lengthOf_10 : decode cX12_lengthOf 10 = .ok (.getfield 50, 3) := by decide +kernel
theorem dX12_lengthOf_13 : decode cX12_lengthOf 13 = .ok (.bipush 6, 2) := by decide +kernel
theorem dX12_lengthOf_15 : decode cX12_lengthOf 15 = .ok (.iload_n 1, 1) := by decide +kernel
theorem dX12_lengthOf_16 : decode cX12_lengthOf 16 = .ok (.iadd, 1) := by decide +kernel
theorem dX12_lengthOf_17 : decode cX12_lengthOf 17 = .ok (.iaload, 1) := by decide +kernel
theorem dX12_lengthOf_18 : decode cX12_lengthOf 18 = .ok (.isub, 1) := by decide +kernel
theorem dX12_lengthOf_19 : decode cX12_lengthOf 19 = .ok (.iconst 1, 1) := by decide +kernel
theorem dX12_lengthOf_20 : decode cX12_lengthOf 20 = .ok (.iadd, 1) := by decide +kernel
theorem dX12_lengthOf_21 : decode cX12_lengthOf 21 = .ok (.ireturn, 1) := by decide +kernel
theorem dX12_movedTo_0 : decode cX12_movedTo 0 = .ok (.aload_n 0, 1) := by decide +kernel
theorem dX12_movedTo_1 : decode cX12_movedTo 1 = .ok (.iload_n 1, 1) := by decide +kernel
theorem dX12_movedTo_2 : decode cX12_movedTo 2 = .ok (.iload_n 2, 1) := by decide +kernel
theorem dX12_movedTo_3 : decode cX12_movedTo 3 = .ok (.iload_n 3, 1) := by decide +kernel
theorem dX12_movedTo_4 : decode cX12_movedTo 4 = .ok (.iload_n 3, 1) := by decide +kernel
theorem dX12_movedTo_5 : decode cX12_movedTo 5 = .ok (.aload_n 0, 1) := by decide +kernel
theorem dX12_movedTo_6 : decode cX12_movedTo 6 = .ok (.iload_n 1, 1) := by decide +kernel
theorem dX12_movedTo_7 : decode cX12_movedTo 7 = .ok (.invokevirtual 459, 3) := by decide +kernel
theorem dX12_movedTo_10 : decode cX12_movedTo 10 = .ok (.iadd, 1) := by decide +kernel
theorem dX12_movedTo_11 : decode cX12_movedTo 11 = .ok (.iconst 1, 1) := by decide +kernel
theorem dX12_movedTo_12 : decode cX12_movedTo 12 = .ok (.isub, 1) := by decide +kernel
theorem dX12_movedTo_13 : decode cX12_movedTo 13 = .ok (.aload_n 0, 1) := by decide +kernel
theorem dX12_movedTo_14 : decode cX12_movedTo 14 = .ok (.getfield 47, 3) := by decide +kernel
theorem dX12_movedTo_17 : decode cX12_movedTo 17 = .ok (.bipush 6, 2) := by decide +kernel
theorem dX12_movedTo_19 : decode cX12_movedTo 19 = .ok (.iload_n 1, 1) := by decide +kernel
theorem dX12_movedTo_20 : decode cX12_movedTo 20 = .ok (.iadd, 1) := by decide +kernel
theorem dX12_movedTo_21 : decode cX12_movedTo 21 = .ok (.iaload, 1) := by decide +kernel
theorem dX12_movedTo_22 : decode cX12_movedTo 22 = .ok (.invokevirtual 437, 3) := by decide +kernel
theorem dX12_movedTo_25 : decode cX12_movedTo 25 = .ok (.lreturn, 1) := by decide +kernel
theorem wk_1007 : Cond.methodLink RX12 459 yX12_lengthOf ∈ tl_L := List.mem_filter.mpr ⟨lw_m8 (i := 69) rfl, rfl⟩
theorem wk_1008 : Cond.instanceMethod yX12_lengthOf ∈ tl_L := List.mem_filter.mpr ⟨lw_m8 (i := 71) rfl, rfl⟩
theorem wk_1009 : Cond.selects RX12 yX12_lengthOf yX12_lengthOf ∈ tl_L := List.mem_filter.mpr ⟨lw_s10 (i := 12) (q := (yX12_lengthOf, 49)) rfl, rfl⟩
theorem wk_1010 : Cond.code yX12_lengthOf cX12_lengthOf 2 (some .int) ∈ tl_L := List.mem_filter.mpr ⟨lw_m8 (i := 72) rfl, rfl⟩
theorem lk_X12_459 : tl_kV RX12 459 RX12 yX12_lengthOf cX12_lengthOf 2 (some .int) 1 := ⟨wk_1010, wk_1007, wk_1008, wk_1009, wk_5, ⟨by decide +kernel, by decide +kernel, by decide +kernel⟩⟩
theorem dX12_moved_0 : decode cX12_moved 0 = .ok (.aload_n 0, 1) := by decide +kernel
theorem dX12_moved_1 : decode cX12_moved 1 = .ok (.iload_n 1, 1) := by decide +kernel
theorem dX12_moved_2 : decode cX12_moved 2 = .ok (.iload_n 2, 1) := by decide +kernel
theorem dX12_moved_3 : decode cX12_moved 3 = .ok (.invokevirtual 447, 3) := by decide +kernel
theorem dX12_moved_6 : decode cX12_moved 6 = .ok (.ifCond .eq 22, 3) := by decide +kernel
theorem dX12_moved_9 : decode cX12_moved 9 = .ok (.iload_n 3, 1) := by decide +kernel
theorem dX12_moved_10 : decode cX12_moved 10 = .ok (.i2l, 1) := by decide +kernel
theorem dX12_moved_11 : decode cX12_moved 11 = .ok (.lconst 0, 1) := by decide +kernel
theorem dX12_moved_12 : decode cX12_moved 12 = .ok (.sipush 300, 3) := by decide +kernel
theorem dX12_moved_15 : decode cX12_moved 15 = .ok (.aload_n 0, 1) := by decide +kernel
theorem dX12_moved_16 : decode cX12_moved 16 = .ok (.iload_n 1, 1) := by decide +kernel
theorem dX12_moved_17 : decode cX12_moved 17 = .ok (.invokevirtual 459, 3) := by decide +kernel
theorem dX12_moved_20 : decode cX12_moved 20 = .ok (.isub, 1) := by decide +kernel
theorem dX12_moved_21 : decode cX12_moved 21 = .ok (.i2l, 1) := by decide +kernel
theorem dX12_moved_22 : decode cX12_moved 22 = .ok (.invokestatic 112, 3) := by decide +kernel
theorem dX12_moved_25 : decode cX12_moved 25 = .ok (.ifCond .ne 7, 3) := by decide +kernel
theorem dX12_moved_28 : decode cX12_moved 28 = .ok (.ldc2_w 455, 3) := by decide +kernel
theorem dX12_moved_31 : decode cX12_moved 31 = .ok (.lreturn, 1) := by decide +kernel
theorem dX12_moved_32 : decode cX12_moved 32 = .ok (.aload_n 0, 1) := by decide +kernel
theorem dX12_moved_33 : decode cX12_moved 33 = .ok (.iload_n 2, 1) := by decide +kernel
theorem dX12_moved_34 : decode cX12_moved 34 = .ok (.invokevirtual 441, 3) := by decide +kernel
theorem dX12_moved_37 : decode cX12_moved 37 = .ok (.aload_n 0, 1) := by decide +kernel
theorem dX12_moved_38 : decode cX12_moved 38 = .ok (.iload_n 1, 1) := by decide +kernel
theorem dX12_moved_39 : decode cX12_moved 39 = .ok (.iload_n 2, 1) := by decide +kernel
theorem dX12_moved_40 : decode cX12_moved 40 = .ok (.iload_n 3, 1) := by decide +kernel
theorem dX12_moved_41 : decode cX12_moved 41 = .ok (.invokevirtual 462, 3) := by decide +kernel
theorem dX12_moved_44 : decode cX12_moved 44 = .ok (.lreturn, 1) := by decide +kernel
theorem wk_1011 : Cond.methodLink RX12 462 yX12_movedTo ∈ tl_L := List.mem_filter.mpr ⟨lw_m8 (i := 73) rfl, rfl⟩
theorem wk_1012 : Cond.instanceMethod yX12_movedTo ∈ tl_L := List.mem_filter.mpr ⟨lw_m8 (i := 75) rfl, rfl⟩
theorem wk_1013 : Cond.selects RX12 yX12_movedTo yX12_movedTo ∈ tl_L := List.mem_filter.mpr ⟨lw_s10 (i := 13) (q := (yX12_movedTo, 49)) rfl, rfl⟩
theorem wk_1014 : Cond.code yX12_movedTo cX12_movedTo 4 (some .long) ∈ tl_L := List.mem_filter.mpr ⟨lw_m8 (i := 76) rfl, rfl⟩
theorem lk_X12_462 : tl_kV RX12 462 RX12 yX12_movedTo cX12_movedTo 4 (some .long) 3 := ⟨wk_1014, wk_1011, wk_1012, wk_1013, wk_5, ⟨by decide +kernel, by decide +kernel, by decide +kernel⟩⟩
theorem dX12_bent_0 : decode cX12_bent 0 = .ok (.aload_n 0, 1) := by decide +kernel
theorem dX12_bent_1 : decode cX12_bent 1 = .ok (.iload_n 1, 1) := by decide +kernel
theorem dX12_bent_2 : decode cX12_bent 2 = .ok (.iload_n 2, 1) := by decide +kernel
theorem dX12_bent_3 : decode cX12_bent 3 = .ok (.invokevirtual 447, 3) := by decide +kernel
theorem dX12_bent_6 : decode cX12_bent 6 = .ok (.ifCond .eq 15, 3) := by decide +kernel
theorem dX12_bent_9 : decode cX12_bent 9 = .ok (.iload_n 3, 1) := by decide +kernel
theorem dX12_bent_10 : decode cX12_bent 10 = .ok (.i2l, 1) := by decide +kernel
theorem dX12_bent_11 : decode cX12_bent 11 = .ok (.lconst 0, 1) := by decide +kernel
theorem dX12_bent_12 : decode cX12_bent 12 = .ok (.ldc2_w 467, 3) := by decide +kernel
theorem dX12_bent_15 : decode cX12_bent 15 = .ok (.invokestatic 112, 3) := by decide +kernel
theorem dX12_bent_18 : decode cX12_bent 18 = .ok (.ifCond .ne 7, 3) := by decide +kernel
theorem dX12_bent_21 : decode cX12_bent 21 = .ok (.ldc2_w 455, 3) := by decide +kernel
theorem dX12_bent_24 : decode cX12_bent 24 = .ok (.lreturn, 1) := by decide +kernel
theorem dX12_bent_25 : decode cX12_bent 25 = .ok (.aload_n 0, 1) := by decide +kernel
theorem dX12_bent_26 : decode cX12_bent 26 = .ok (.iload_n 2, 1) := by decide +kernel
theorem dX12_bent_27 : decode cX12_bent 27 = .ok (.invokevirtual 441, 3) := by decide +kernel
theorem dX12_bent_30 : decode cX12_bent 30 = .ok (.aload_n 0, 1) := by decide +kernel
theorem dX12_bent_31 : decode cX12_bent 31 = .ok (.iload_n 1, 1) := by decide +kernel
theorem dX12_bent_32 : decode cX12_bent 32 = .ok (.iload_n 2, 1) := by decide +kernel
theorem dX12_bent_33 : decode cX12_bent 33 = .ok (.aload_n 0, 1) := by decide +kernel
theorem dX12_bent_34 : decode cX12_bent 34 = .ok (.getfield 50, 3) := by decide +kernel
theorem dX12_bent_37 : decode cX12_bent 37 = .ok (.bipush 6, 2) := by decide +kernel
theorem dX12_bent_39 : decode cX12_bent 39 = .ok (.iload_n 1, 1) := by decide +kernel
theorem dX12_bent_40 : decode cX12_bent 40 = .ok (.iadd, 1) := by decide +kernel
theorem dX12_bent_41 : decode cX12_bent 41 = .ok (.iaload, 1) := by decide +kernel
theorem dX12_bent_42 : decode cX12_bent 42 = .ok (.aload_n 0, 1) := by decide +kernel
theorem dX12_bent_43 : decode cX12_bent 43 = .ok (.getfield 53, 3) := by decide +kernel
theorem dX12_bent_46 : decode cX12_bent 46 = .ok (.bipush 6, 2) := by decide +kernel
theorem dX12_bent_48 : decode cX12_bent 48 = .ok (.iload_n 1, 1) := by decide +kernel
theorem dX12_bent_49 : decode cX12_bent 49 = .ok (.iadd, 1) := by decide +kernel
theorem dX12_bent_50 : decode cX12_bent 50 = .ok (.iaload, 1) := by decide +kernel
theorem dX12_bent_51 : decode cX12_bent 51 = .ok (.iload_n 3, 1) := by decide +kernel
theorem dX12_bent_52 : decode cX12_bent 52 = .ok (.invokevirtual 437, 3) := by decide +kernel
theorem dX12_bent_55 : decode cX12_bent 55 = .ok (.lreturn, 1) := by decide +kernel
theorem wk_1048 : Cond.constantLong RX12 467 (40) ∈ tl_L := List.mem_filter.mpr ⟨lw_m8 (i := 90) rfl, rfl⟩
set_option maxHeartbeats 4000000 in
set_option maxRecDepth 100000 in
theorem r_X12_scoreOf (l : Launch) (D : va_G) (cy : Nat → ClassId) (sz : Nat) (L : List Nat) (K : Nat → tk_K) (Γ : tk_G) (f : Nat → va_E) (o : Nat) (p0 : Int32) (p1 : Int32) (ho : tp_r L K 39 (0) 0 o) (htx : tx_ok (Γ (43, 8800, 0)) (Γ (45, 1056, 0)) (Γ (46, 22, 0)) (Γ (47, 6, 0)) (Γ (48, 22, 0)) (Γ (49, 22, 0)) (Γ (50, 22, 0)) (Γ (51, 22, 0)) (Γ (42, 3, 0))) (hsd : ts_said (Γ (40, 7666, 0)) (Γ (42, 3, 0) 1)) (hcan : 0 ≤ p0.toInt ∧ p0.toInt < Γ (42, 3, 0) 1) (hrw : 0 ≤ p1.toInt ∧ p1.toInt ≤ 23) : Met l yX12_scoreOf (tl_w yX12_scoreOf cX12_scoreOf 3 (some .long)) ({ frames := 6, cells := 0, slots := 0, locals := 155 }) (va_Pc [.ref o, .int p0, .int p1] (tp_P D cy L K Γ f sz)) (va_Ql (fun (r : Int64) (u : (Nat → va_E) × tk_G) => u.2 (39, 0, 0) 0 = Γ (39, 0, 0) 0 ∧ (0 ≤ u.2 (39, 0, 0) 11 ∧ u.2 (39, 0, 0) 12 ≤ 299) ∧ (u.2 (39, 0, 0) 11 = Γ (49, 22, 0) (6 + p0.toInt).toNat ∧ u.2 (39, 0, 0) 12 = Γ (50, 22, 0) (6 + p0.toInt).toNat) ∧ (u.2 (39, 0, 0) 15 = 0 ∨ u.2 (39, 0, 0) 15 = 1) ∧ (0 ≤ u.2 (39, 0, 0) 13 ∧ u.2 (39, 0, 0) 13 ≤ 42) ∧ (0 < u.2 (39, 0, 0) 13 → 0 < u.2 (39, 0, 0) 10) ∧ (u.2 (39, 0, 0) 15 = 1 → 0 < u.2 (39, 0, 0) 13 ∧ 0 < u.2 (39, 0, 0) 14) ∧ (u.2 (39, 0, 0) 15 = 1 → gex (u.2 (59, 300, 0)) (Γ (49, 22, 0) (6 + p0.toInt).toNat) (Γ (50, 22, 0) (6 + p0.toInt).toNat + 1)) ∧ (∀ j : Nat, (j : Int) < u.2 (39, 0, 0) 13 → 0 ≤ u.2 (61, 42, 0) j ∧ u.2 (61, 42, 0) j ≤ 299) ∧ (∀ j : Nat, (j : Int) + 1 < u.2 (39, 0, 0) 13 → u.2 (61, 42, 0) j < u.2 (61, 42, 0) (j + 1)) ∧ (∀ j : Nat, j < 300 → (u.2 (59, 300, 0) j = -1000000 ∨ (-500000 ≤ u.2 (59, 300, 0) j ∧ u.2 (59, 300, 0) j ≤ 500000)))) (tp_BG D cy L K Γ f [39, 58, 57, 60, 61, 62, 63, 59]) (tp_A L sz)) 0 0 (tp_A L sz) := by
  refine Met.ofW (cc := cX12_scoreOf) (maxL := 3) (ret := (some .long)) (by decide) rfl ?_
  intro p e s m args below meth c s₁ B hml hv
  obtain ⟨rfl, hsz, hP, hK, hL, hI, hN, hU⟩ := hv
  have hx := B.exec
  have hb := B.bytes
  have hr := B.returns
  have hta := tl_hta (atoms_spec (ws := tl_w yX12_scoreOf cX12_scoreOf 3 (some .long)) B.pre)
  have hown : s.vm.findClass RX12 = some m.cls := findClass_of_methodNamed B.named
  have hlocks := B.notSynchronized
  subst hsz
  have hI0 := hI
  generalize hAe : tp_A L s.heap.size = A
  have hA : ∀ q : Nat, s.heap.size ≤ q → A q := fun q h => by rw [← hAe]; exact Or.inr h
  have hAL : ∀ q ∈ L, A q := fun q h => by rw [← hAe]; exact Or.inl h
  have hAf : ∀ (H : Heap), s.heap.size ≤ H.size → ∀ q, tp_A L H.size q → A q := fun H h q hq => hq.elim (hAL q) (fun h2 => hA q (Nat.le_trans h h2))
  have hS : va_S A s.heap s.heap [] := va_S.rf
  have hD : va_D A (va_pl L f) := tp_D hL hAL
  have hfr : ∀ b, (K b).1 ∉ ([39, 58, 57, 60, 61, 62, 63, 59] : List Nat) → f b = f b := fun _ _ => rfl
  have hgr : ∀ κ : tk_K, κ.1 ∉ ([39, 58, 57, 60, 61, 62, 63, 59] : List Nat) → Γ κ = Γ κ := fun _ _ => rfl
  have hl := lv_entry ([.ref o, .int p0, .int p1]) (n := 3) (Nat.le_of_ble_eq_true rfl)
  rw [lg_entry_eq]
  generalize (lg_sl ([.ref o, .int p0, .int p1]) ++ List.replicate (3 - (lg_sl ([.ref o, .int p0, .int p1])).length) Slot.unset).toArray = ls at hl ⊢
  have hl : lv_has ls 3 [(0, .ref o), (1, .int p0), (2, .int p1)] := hl
  have hs := ts_hs hsd
  have hraw := ts_raw hsd
  have hslp := ts_slp hsd
  have htb := htx.1
  obtain ⟨hnc, htst, _, _, hbd, hgp, hwi⟩ := htx.2 (6 + p0.toInt) (by omega)
  refine lv_aload_n hx hb dX12_scoreOf_0 rfl (lv_at hl 0 rfl) ?_
  refine lv_iload_n hx hb dX12_scoreOf_1 rfl (lv_at hl 2 rfl) ?_
  obtain ⟨r_2, v_3, q_4, hf_1, hr_5, hv_6⟩ := (show tp_o_M L K 0 0 (Γ (39, 0, 0)) (f o) from hI.at ho)
  have hx_7 : (v_3 0).toInt = Γ (39, 0, 0) 0 := hv_6 0 (by decide)
  have hx_8 : (v_3 10).toInt = Γ (39, 0, 0) 10 := hv_6 10 (by decide)
  have hx_9 : (v_3 11).toInt = Γ (39, 0, 0) 11 := hv_6 11 (by decide)
  have hx_10 : (v_3 12).toInt = Γ (39, 0, 0) 12 := hv_6 12 (by decide)
  have hx_11 : (v_3 13).toInt = Γ (39, 0, 0) 13 := hv_6 13 (by decide)
  have hx_12 : (v_3 14).toInt = Γ (39, 0, 0) 14 := hv_6 14 (by decide)
  have hx_13 : (v_3 15).toInt = Γ (39, 0, 0) 15 := hv_6 15 (by decide)
  refine tq_cvR hS (hAf _ hS.1) (tq_rV (As := [.int p1]) (rest := []) ⟨hx, hb, hml, hown, hta⟩ (tp_P.pre hK hN hL hU hI hP) (tp_recv hK hP ho.1 hf_1 rfl) lk_X12_441 (r_X12_lifts l D cy s.heap.size L K Γ f o p1 ho (by first | omega | (simp only [Int32.toInt_toInt64]; omega) | decide | assumption) (by first | omega | (simp only [Int32.toInt_toInt64]; omega) | decide | assumption) (by first | omega | (simp only [Int32.toInt_toInt64]; omega) | decide | assumption) (by first | omega | (simp only [Int32.toInt_toInt64]; omega) | decide | assumption)) rfl rfl ⟨Nat.le_of_ble_eq_true rfl, Nat.le_of_ble_eq_true rfl⟩ rfl hl.1 rfl (Nat.le_of_ble_eq_true rfl) dX12_scoreOf_2 ⟨Nat.le_of_ble_eq_true rfl, Nat.le_of_ble_eq_true rfl⟩) (fun f_16 Γ_18 H locs hw_14 hP hI hc_17 hcg_19 hS => ?_)
  have hD : va_D A (va_pl L f_16) := tp_D hL hAL
  have hfr := tp_fr2 hfr hc_17 (by decide)
  have hgr : ∀ κ : tk_K, κ.1 ∉ ([39, 58, 57, 60, 61, 62, 63, 59] : List Nat) → Γ_18 κ = Γ κ := tg_fr2 hgr hcg_19 (by decide)
  have hf_20 := (tp_un hc_17 ho (by decide)).trans hf_1
  have hv_21 : ∀ i : Nat, i < 16 → (v_3 i).toInt = Γ_18 (39, 0, 0) i := fun i hi => by rw [hcg_19 _ (by decide)]; exact hv_6 i hi
  have hx_22 : (v_3 0).toInt = Γ_18 (39, 0, 0) 0 := hv_21 0 (by decide)
  have hx_23 : (v_3 10).toInt = Γ_18 (39, 0, 0) 10 := hv_21 10 (by decide)
  have hx_24 : (v_3 11).toInt = Γ_18 (39, 0, 0) 11 := hv_21 11 (by decide)
  have hx_25 : (v_3 12).toInt = Γ_18 (39, 0, 0) 12 := hv_21 12 (by decide)
  have hx_26 : (v_3 13).toInt = Γ_18 (39, 0, 0) 13 := hv_21 13 (by decide)
  have hx_27 : (v_3 14).toInt = Γ_18 (39, 0, 0) 14 := hv_21 14 (by decide)
  have hx_28 : (v_3 15).toInt = Γ_18 (39, 0, 0) 15 := hv_21 15 (by decide)
  have mk_18_0 : Γ_18 (39, 0, 0) 0 = Γ (39, 0, 0) 0 := congrFun (hcg_19 (39, 0, 0) (by decide)) 0
  have mk_18_10 : Γ_18 (39, 0, 0) 10 = Γ (39, 0, 0) 10 := congrFun (hcg_19 (39, 0, 0) (by decide)) 10
  have mk_18_11 : Γ_18 (39, 0, 0) 11 = Γ (39, 0, 0) 11 := congrFun (hcg_19 (39, 0, 0) (by decide)) 11
  have mk_18_12 : Γ_18 (39, 0, 0) 12 = Γ (39, 0, 0) 12 := congrFun (hcg_19 (39, 0, 0) (by decide)) 12
  have mk_18_13 : Γ_18 (39, 0, 0) 13 = Γ (39, 0, 0) 13 := congrFun (hcg_19 (39, 0, 0) (by decide)) 13
  have mk_18_14 : Γ_18 (39, 0, 0) 14 = Γ (39, 0, 0) 14 := congrFun (hcg_19 (39, 0, 0) (by decide)) 14
  have mk_18_15 : Γ_18 (39, 0, 0) 15 = Γ (39, 0, 0) 15 := congrFun (hcg_19 (39, 0, 0) (by decide)) 15
  have hw_14 : ∀ j : Nat, j < 300 → (Γ_18 (59, 300, 0) j = -1000000 ∨ (-500000 ≤ Γ_18 (59, 300, 0) j ∧ Γ_18 (59, 300, 0) j ≤ 500000)) := hw_14
  have hlk0 := hw_14
  refine lv_aload_n hx hb dX12_scoreOf_5 rfl (lv_at hl 0 rfl) ?_
  refine lv_iload_n hx hb dX12_scoreOf_6 rfl (lv_at hl 1 rfl) ?_
  refine lv_iload_n hx hb dX12_scoreOf_7 rfl (lv_at hl 2 rfl) ?_
  have hgrA := hgr
  refine tq_clR hS (hAf _ hS.1) (tq_rV (As := [.int p0, .int p1]) (rest := []) ⟨hx, hb, hml, hown, hta⟩ (tp_P.pre hK hN hL hU hI hP) (tp_recv hK hP ho.1 hf_20 rfl) lk_X12_444 (r_X12_own l D cy H.size L K Γ_18 f_16 o p0 p1 ho (by first | omega | assumption | (rw [hgr (42, 3, 0) (by decide), hgr (43, 8800, 0) (by decide), hgr (45, 1056, 0) (by decide), hgr (46, 22, 0) (by decide), hgr (47, 6, 0) (by decide), hgr (48, 22, 0) (by decide), hgr (49, 22, 0) (by decide), hgr (50, 22, 0) (by decide), hgr (51, 22, 0) (by decide)]; first | exact htx | assumption | omega)) (by first | omega | assumption | (rw [hgr (42, 3, 0) (by decide)]; first | exact hcan | assumption | omega)) (by first | omega | (simp only [Int32.toInt_toInt64]; omega) | decide | assumption)) rfl rfl ⟨Nat.le_of_ble_eq_true rfl, Nat.le_of_ble_eq_true rfl⟩ rfl hl.1 rfl (Nat.le_of_ble_eq_true rfl) dX12_scoreOf_8 ⟨Nat.le_of_ble_eq_true rfl, Nat.le_of_ble_eq_true rfl⟩) (fun r_30 f_31 Γ_33 H locs hw_29 hP hI hc_32 hcg_34 hS => ?_)
  have hD : va_D A (va_pl L f_31) := tp_D hL hAL
  have hfr := tp_fr2 hfr hc_32 (by decide)
  have hgr : ∀ κ : tk_K, κ.1 ∉ ([39, 58, 57, 60, 61, 62, 63, 59] : List Nat) → Γ_33 κ = Γ κ := tg_fr2 hgr hcg_34 (by decide)
  have hw_29 : Γ_33 (39, 0, 0) 0 = Γ_18 (39, 0, 0) 0 ∧ (gex (Γ_18 (59, 300, 0)) (Γ_18 (49, 22, 0) (6 + p0.toInt).toNat) (Γ_18 (50, 22, 0) (6 + p0.toInt).toNat + 1) → 0 < Γ_18 (39, 0, 0) 14 → 0 < Γ_33 (39, 0, 0) 14) ∧ (Γ_33 (39, 0, 0) 11 = Γ_18 (49, 22, 0) (6 + p0.toInt).toNat ∧ Γ_33 (39, 0, 0) 12 = Γ_18 (50, 22, 0) (6 + p0.toInt).toNat) ∧ (Γ_33 (39, 0, 0) 15 = 0 ∨ Γ_33 (39, 0, 0) 15 = 1) ∧ (0 ≤ Γ_33 (39, 0, 0) 13 ∧ Γ_33 (39, 0, 0) 13 ≤ 42) ∧ (0 < Γ_33 (39, 0, 0) 13 → 0 < Γ_33 (39, 0, 0) 10) ∧ (Γ_33 (39, 0, 0) 15 = 1 → 0 < Γ_33 (39, 0, 0) 13 ∧ 0 < Γ_33 (39, 0, 0) 14) ∧ (Γ_33 (39, 0, 0) 15 = 1 → gex (Γ_18 (59, 300, 0)) (Γ_18 (49, 22, 0) (6 + p0.toInt).toNat) (Γ_18 (50, 22, 0) (6 + p0.toInt).toNat + 1)) ∧ (∀ j : Nat, (j : Int) < Γ_33 (39, 0, 0) 13 → 0 ≤ Γ_33 (61, 42, 0) j ∧ Γ_33 (61, 42, 0) j ≤ 299) ∧ (∀ j : Nat, (j : Int) + 1 < Γ_33 (39, 0, 0) 13 → Γ_33 (61, 42, 0) j < Γ_33 (61, 42, 0) (j + 1)) := hw_29
  obtain ⟨hq0, hqx, hq11, hq15, hq13, hq10, hqd, hqg, hqk, hqr⟩ := hw_29
  rw [hgrA (49, 22, 0) (by decide), hgrA (50, 22, 0) (by decide)] at hq11
  rw [hgrA (49, 22, 0) (by decide), hgrA (50, 22, 0) (by decide)] at hqg
  have hlk9 := hcg_34 (59, 300, 0) (by decide)
  have hpo9 : Γ_33 (39, 0, 0) 0 = Γ (39, 0, 0) 0 ∧ (0 ≤ Γ_33 (39, 0, 0) 11 ∧ Γ_33 (39, 0, 0) 12 ≤ 299) ∧ (Γ_33 (39, 0, 0) 11 = Γ (49, 22, 0) (6 + p0.toInt).toNat ∧ Γ_33 (39, 0, 0) 12 = Γ (50, 22, 0) (6 + p0.toInt).toNat) ∧ (Γ_33 (39, 0, 0) 15 = 0 ∨ Γ_33 (39, 0, 0) 15 = 1) ∧ (0 ≤ Γ_33 (39, 0, 0) 13 ∧ Γ_33 (39, 0, 0) 13 ≤ 42) ∧ (0 < Γ_33 (39, 0, 0) 13 → 0 < Γ_33 (39, 0, 0) 10) ∧ (Γ_33 (39, 0, 0) 15 = 1 → 0 < Γ_33 (39, 0, 0) 13 ∧ 0 < Γ_33 (39, 0, 0) 14) ∧ (Γ_33 (39, 0, 0) 15 = 1 → gex (Γ_33 (59, 300, 0)) (Γ (49, 22, 0) (6 + p0.toInt).toNat) (Γ (50, 22, 0) (6 + p0.toInt).toNat + 1)) ∧ (∀ j : Nat, (j : Int) < Γ_33 (39, 0, 0) 13 → 0 ≤ Γ_33 (61, 42, 0) j ∧ Γ_33 (61, 42, 0) j ≤ 299) ∧ (∀ j : Nat, (j : Int) + 1 < Γ_33 (39, 0, 0) 13 → Γ_33 (61, 42, 0) j < Γ_33 (61, 42, 0) (j + 1)) ∧ (∀ j : Nat, j < 300 → (Γ_33 (59, 300, 0) j = -1000000 ∨ (-500000 ≤ Γ_33 (59, 300, 0) j ∧ Γ_33 (59, 300, 0) j ≤ 500000))) := ⟨(by omega), (by omega), (by omega), (by omega), (by omega), (by omega), (by omega), (fun q9 => by rw [hlk9]; exact hqg q9), hqk, hqr, (fun j9 q9 => by rw [hlk9]; exact hlk0 j9 q9)⟩
  exact W.lret (v := r_30) hx hb hr (fun t ht hW => ⟨⟨_, (f_31, Γ_33), rfl, hpo9, by rw [ht]; exact hP, hI, hfr, hgr⟩, hS.F ht⟩) hS.2.2 dX12_scoreOf_11
set_option maxHeartbeats 4000000 in
set_option maxRecDepth 100000 in
theorem r_X12_curve (l : Launch) (D : va_G) (cy : Nat → ClassId) (sz : Nat) (L : List Nat) (K : Nat → tk_K) (Γ : tk_G) (f : Nat → va_E) (o : Nat) (p0 : Int32) (p1 : Int32) (p2 : Int32) (p3 : Int32) (ho : tp_r L K 39 (0) 0 o) (htx : tx_ok (Γ (43, 8800, 0)) (Γ (45, 1056, 0)) (Γ (46, 22, 0)) (Γ (47, 6, 0)) (Γ (48, 22, 0)) (Γ (49, 22, 0)) (Γ (50, 22, 0)) (Γ (51, 22, 0)) (Γ (42, 3, 0))) (hsd : ts_said (Γ (40, 7666, 0)) (Γ (42, 3, 0) 1)) : Met l yX12_curve (tl_w yX12_curve cX12_curve 5 (some .int)) ({ frames := 7, cells := 0, slots := 0, locals := 177 }) (va_Pc [.ref o, .int p0, .int p1, .int p2, .int p3] (tp_P D cy L K Γ f sz)) (va_Qi (fun (r : Int32) (u : (Nat → va_E) × tk_G) => u.2 (39, 0, 0) 0 = Γ (39, 0, 0) 0) (tp_BG D cy L K Γ f [39, 58, 57, 60, 61, 62, 63, 59]) (tp_A L sz)) 0 0 (tp_A L sz) := by
  refine Met.ofW (cc := cX12_curve) (maxL := 5) (ret := (some .int)) (by decide) rfl ?_
  intro p e s m args below meth c s₁ B hml hv
  obtain ⟨rfl, hsz, hP, hK, hL, hI, hN, hU⟩ := hv
  have hx := B.exec
  have hb := B.bytes
  have hr := B.returns
  have hta := tl_hta (atoms_spec (ws := tl_w yX12_curve cX12_curve 5 (some .int)) B.pre)
  have hown : s.vm.findClass RX12 = some m.cls := findClass_of_methodNamed B.named
  have hlocks := B.notSynchronized
  subst hsz
  have hI0 := hI
  generalize hAe : tp_A L s.heap.size = A
  have hA : ∀ q : Nat, s.heap.size ≤ q → A q := fun q h => by rw [← hAe]; exact Or.inr h
  have hAL : ∀ q ∈ L, A q := fun q h => by rw [← hAe]; exact Or.inl h
  have hAf : ∀ (H : Heap), s.heap.size ≤ H.size → ∀ q, tp_A L H.size q → A q := fun H h q hq => hq.elim (hAL q) (fun h2 => hA q (Nat.le_trans h h2))
  have hS : va_S A s.heap s.heap [] := va_S.rf
  have hD : va_D A (va_pl L f) := tp_D hL hAL
  have hfr : ∀ b, (K b).1 ∉ ([39, 58, 57, 60, 61, 62, 63, 59] : List Nat) → f b = f b := fun _ _ => rfl
  have hgr : ∀ κ : tk_K, κ.1 ∉ ([39, 58, 57, 60, 61, 62, 63, 59] : List Nat) → Γ κ = Γ κ := fun _ _ => rfl
  have hl := lv_entry ([.ref o, .int p0, .int p1, .int p2, .int p3]) (n := 5) (Nat.le_of_ble_eq_true rfl)
  rw [lg_entry_eq]
  generalize (lg_sl ([.ref o, .int p0, .int p1, .int p2, .int p3]) ++ List.replicate (5 - (lg_sl ([.ref o, .int p0, .int p1, .int p2, .int p3])).length) Slot.unset).toArray = ls at hl ⊢
  have hl : lv_has ls 5 [(0, .ref o), (1, .int p0), (2, .int p1), (3, .int p2), (4, .int p3)] := hl
  have hs := ts_hs hsd
  have hraw := ts_raw hsd
  have hslp := ts_slp hsd
  have htb := htx.1
  refine lv_aload_n hx hb dX12_curve_0 rfl (lv_at hl 0 rfl) ?_
  refine lv_iload_n hx hb dX12_curve_1 rfl (lv_at hl 1 rfl) ?_
  refine lv_iload_n hx hb dX12_curve_2 rfl (lv_at hl 2 rfl) ?_
  obtain ⟨r_2, v_3, q_4, hf_1, hr_5, hv_6⟩ := (show tp_o_M L K 0 0 (Γ (39, 0, 0)) (f o) from hI.at ho)
  refine tl_si (tq_rV (As := [.int p0, .int p1]) (rest := []) ⟨hx, hb, hml, hown, hta⟩ (tp_P.pre hK hN hL hU hI hP) (tp_recv hK hP ho.1 hf_1 rfl) lk_X12_447 (r_X12_canAsk l D cy s.heap.size L K Γ f o p0 p1 ho) rfl rfl ⟨Nat.le_of_ble_eq_true rfl, Nat.le_of_ble_eq_true rfl⟩ rfl hl.1 rfl (Nat.le_of_ble_eq_true rfl) dX12_curve_3 ⟨Nat.le_of_ble_eq_true rfl, Nat.le_of_ble_eq_true rfl⟩) (fun r_15 hw_14 => ?_)
  have hw_14 : tl_E r_15 ((0 ≤ p0.toInt ∧ p0.toInt < Γ (42, 3, 0) 1) ∧ 0 ≤ p1.toInt ∧ p1.toInt < Γ (40, 7666, 0) 1) 1 0 := hw_14
  refine lv_if_eq (tgt := 29) hx hb dX12_curve_6 (by decide) (fun c_16 => ?_) (fun c_16 => ?_)
  · have c_16 := hw_14.f c_16
    refine lv_ldc (v := (-2000000)) hx hb hown (hta _ wk_248) dX12_curve_29 ?_
    have hpo9 : Γ (39, 0, 0) 0 = Γ (39, 0, 0) 0 := (by omega)
    exact W.iret (v := (-2000000)) hx hb hr (fun t ht hW => ⟨⟨_, (f, Γ), rfl, hpo9, by rw [ht]; exact hP, hI, hfr, hgr⟩, hS.F ht⟩) hS.2.2 dX12_curve_31
  · have c_16 := hw_14.t c_16
    refine lv_iload_n hx hb dX12_curve_9 rfl (lv_at hl 3 rfl) ?_
    refine tl_si (tq_rS (As := [.int p2]) (rest := []) ⟨hx, hb, hml, hown, hta⟩ (tp_P.pre hK hN hL hU hI hP) lk_X12_124 (r_X12_isColour l D cy s.heap.size L K Γ f p2 ) rfl rfl ⟨Nat.le_of_ble_eq_true rfl, Nat.le_of_ble_eq_true rfl⟩ rfl hl.1 rfl (Nat.le_of_ble_eq_true rfl) dX12_curve_10 ⟨Nat.le_of_ble_eq_true rfl, Nat.le_of_ble_eq_true rfl⟩) (fun r_18 hw_17 => ?_)
    have hw_17 : tl_E r_18 (0 ≤ p2.toInt ∧ p2.toInt ≤ 299) 1 0 := hw_17
    refine lv_if_eq (tgt := 29) hx hb dX12_curve_13 (by decide) (fun c_19 => ?_) (fun c_19 => ?_)
    · have c_19 := hw_17.f c_19
      refine lv_ldc (v := (-2000000)) hx hb hown (hta _ wk_248) dX12_curve_29 ?_
      have hpo9 : Γ (39, 0, 0) 0 = Γ (39, 0, 0) 0 := (by omega)
      exact W.iret (v := (-2000000)) hx hb hr (fun t ht hW => ⟨⟨_, (f, Γ), rfl, hpo9, by rw [ht]; exact hP, hI, hfr, hgr⟩, hS.F ht⟩) hS.2.2 dX12_curve_31
    · have c_19 := hw_17.t c_19
      refine lv_iload hx hb dX12_curve_16 (lv_at hl 4 rfl) ?_
      refine lv_i2l (v := p3.toInt64) hx hb dX12_curve_18 (by first | rfl | decide) ?_
      refine lv_lconst (v := 0) hx hb dX12_curve_19 (by decide) ?_
      refine lv_ldc2 (v := 2) hx hb hown (hta _ wk_536) dX12_curve_20 ?_
      refine tl_si (tq_rS (As := [.long p3.toInt64, .long 0, .long 2]) (rest := []) ⟨hx, hb, hml, hown, hta⟩ (tp_P.pre hK hN hL hU hI hP) lk_X12_112 (r_X12_in l D cy s.heap.size L K Γ f p3.toInt64 0 2 ) rfl rfl ⟨Nat.le_of_ble_eq_true rfl, Nat.le_of_ble_eq_true rfl⟩ rfl hl.1 rfl (Nat.le_of_ble_eq_true rfl) dX12_curve_23 ⟨Nat.le_of_ble_eq_true rfl, Nat.le_of_ble_eq_true rfl⟩) (fun r_21 hw_20 => ?_)
      simp only [Int32.toInt_toInt64] at hw_20
      have hw_20 : tl_E r_21 ((0 : Int) ≤ p3.toInt ∧ p3.toInt ≤ (2 : Int)) 1 0 := hw_20
      refine lv_if_ne (tgt := 32) hx hb dX12_curve_26 (by decide) (fun c_22 => ?_) (fun c_22 => ?_)
      · have c_22 := hw_20.t c_22
        refine lv_aload_n hx hb dX12_curve_32 rfl (lv_at hl 0 rfl) ?_
        refine lv_iload_n hx hb dX12_curve_33 rfl (lv_at hl 1 rfl) ?_
        refine lv_iload_n hx hb dX12_curve_34 rfl (lv_at hl 2 rfl) ?_
        refine tq_clR hS (hAf _ hS.1) (tq_rV (As := [.int p0, .int p1]) (rest := []) ⟨hx, hb, hml, hown, hta⟩ (tp_P.pre hK hN hL hU hI hP) (tp_recv hK hP ho.1 hf_1 rfl) lk_X12_450 (r_X12_scoreOf l D cy s.heap.size L K Γ f o p0 p1 ho (by first | omega | (simp only [Int32.toInt_toInt64]; omega) | decide | assumption) (by first | omega | (simp only [Int32.toInt_toInt64]; omega) | decide | assumption) (by first | omega | (simp only [Int32.toInt_toInt64]; omega) | decide | assumption) (by first | omega | (simp only [Int32.toInt_toInt64]; omega) | decide | assumption)) rfl rfl ⟨Nat.le_of_ble_eq_true rfl, Nat.le_of_ble_eq_true rfl⟩ rfl hl.1 rfl (Nat.le_of_ble_eq_true rfl) dX12_curve_35 ⟨Nat.le_of_ble_eq_true rfl, Nat.le_of_ble_eq_true rfl⟩) (fun r_24 f_25 Γ_27 H locs hw_23 hP hI hc_26 hcg_28 hS => ?_)
        have hD : va_D A (va_pl L f_25) := tp_D hL hAL
        have hfr := tp_fr2 hfr hc_26 (by decide)
        have hgr : ∀ κ : tk_K, κ.1 ∉ ([39, 58, 57, 60, 61, 62, 63, 59] : List Nat) → Γ_27 κ = Γ κ := tg_fr2 hgr hcg_28 (by decide)
        have hw_23 : Γ_27 (39, 0, 0) 0 = Γ (39, 0, 0) 0 ∧ (0 ≤ Γ_27 (39, 0, 0) 11 ∧ Γ_27 (39, 0, 0) 12 ≤ 299) ∧ (Γ_27 (39, 0, 0) 11 = Γ (49, 22, 0) (6 + p0.toInt).toNat ∧ Γ_27 (39, 0, 0) 12 = Γ (50, 22, 0) (6 + p0.toInt).toNat) ∧ (Γ_27 (39, 0, 0) 15 = 0 ∨ Γ_27 (39, 0, 0) 15 = 1) ∧ (0 ≤ Γ_27 (39, 0, 0) 13 ∧ Γ_27 (39, 0, 0) 13 ≤ 42) ∧ (0 < Γ_27 (39, 0, 0) 13 → 0 < Γ_27 (39, 0, 0) 10) ∧ (Γ_27 (39, 0, 0) 15 = 1 → 0 < Γ_27 (39, 0, 0) 13 ∧ 0 < Γ_27 (39, 0, 0) 14) ∧ (Γ_27 (39, 0, 0) 15 = 1 → gex (Γ_27 (59, 300, 0)) (Γ (49, 22, 0) (6 + p0.toInt).toNat) (Γ (50, 22, 0) (6 + p0.toInt).toNat + 1)) ∧ (∀ j : Nat, (j : Int) < Γ_27 (39, 0, 0) 13 → 0 ≤ Γ_27 (61, 42, 0) j ∧ Γ_27 (61, 42, 0) j ≤ 299) ∧ (∀ j : Nat, (j : Int) + 1 < Γ_27 (39, 0, 0) 13 → Γ_27 (61, 42, 0) j < Γ_27 (61, 42, 0) (j + 1)) ∧ (∀ j : Nat, j < 300 → (Γ_27 (59, 300, 0) j = -1000000 ∨ (-500000 ≤ Γ_27 (59, 300, 0) j ∧ Γ_27 (59, 300, 0) j ≤ 500000))) := hw_23
        obtain ⟨hq0, hqb, hq11, hq15, hq13, hq10, hqd, hqg, hqk, hqr, hql⟩ := hw_23
        refine lv_pop2_2 hx hb dX12_curve_38 rfl ?_
        refine lv_iload hx hb dX12_curve_39 (lv_at hl 4 rfl) ?_
        refine lv_if_ne (tgt := 59) hx hb dX12_curve_41 (by decide) (fun c_29 => ?_) (fun c_29 => ?_)
        · have c_29 : ¬ p3.toInt = (0 : Int) := tl_neq c_29
          refine lv_aload_n hx hb dX12_curve_59 rfl (lv_at hl 0 rfl) ?_
          obtain ⟨r_31, v_32, q_33, hf_30, hr_34, hv_35⟩ := (show tp_o_M L K 0 0 (Γ_27 (39, 0, 0)) (f_25 o) from hI.at ho)
          have hx_40 : (v_32 13).toInt = Γ_27 (39, 0, 0) 13 := hv_35 13 (by decide)
          refine tp_get (cy := cy) (ci := 12) (v := .int (v_32 13)) (C := RX12) (T := TX12) (N := 49) hx hb hta inlX12 hown hK hP ho.1 hf_30 rfl 37 (by decide) (hta _ wk_903) (fun _ h9 => h9) rfl dX12_curve_60 ?_
          refine lv_if_ne (tgt := 69) hx hb dX12_curve_63 (by decide) (fun c_43 => ?_) (fun c_43 => ?_)
          · have c_43 : ¬ (v_32 13).toInt = (0 : Int) := tl_neq c_43
            refine lv_iload hx hb dX12_curve_69 (lv_at hl 4 rfl) ?_
            refine lv_iconst (v := 1) hx hb dX12_curve_71 (by decide) ?_
            refine lv_icmp_ne (tgt := 84) hx hb dX12_curve_72 (by decide) (fun c_44 => ?_) (fun c_44 => ?_)
            · have c_44 : ¬ p3.toInt = (1 : Int) := tl_neq c_44
              refine lv_aload_n hx hb dX12_curve_84 rfl (lv_at hl 0 rfl) ?_
              refine tp_get (cy := cy) (ci := 12) (v := .ref (r_31 23)) (C := RX12) (T := TX12) (N := 49) hx hb hta inlX12 hown hK hP ho.1 hf_30 rfl 38 (by decide) (hta _ wk_173) (fun _ h9 => h9) rfl dX12_curve_85 ?_
              refine lv_iload_n hx hb dX12_curve_88 rfl (lv_at hl 3 rfl) ?_
              obtain ⟨g_46, hf_45⟩ := (show tp_aj cy (300) (f_25 (r_31 23)) from hI.at (show tp_r L K 63 300 0 (r_31 23) from hr_34 23 (by decide)))
              have hn_48 : vp_in p2 (300) := tl_in (by omega) (by omega)
              refine tp_lald (cy := cy) hx hb hK hP (show tp_r L K 63 300 0 (r_31 23) from hr_34 23 (by decide)).1 hf_45 hn_48 dX12_curve_89 ?_
              refine lv_topl (fun z_49 ez_49 => ?_)
              refine lv_l2i hx hb dX12_curve_90 rfl ?_
              refine lv_topi (fun z_50 ez_50 => ?_)
              have hpo9 : Γ_27 (39, 0, 0) 0 = Γ (39, 0, 0) 0 := (by omega)
              exact W.iret (v := z_50) hx hb hr (fun t ht hW => ⟨⟨_, (f_25, Γ_27), rfl, hpo9, by rw [ht]; exact hP, hI, hfr, hgr⟩, hS.F ht⟩) hS.2.2 dX12_curve_91
            · have c_44 : p3.toInt = (1 : Int) := tl_eq c_44
              refine lv_aload_n hx hb dX12_curve_75 rfl (lv_at hl 0 rfl) ?_
              refine lv_iload_n hx hb dX12_curve_76 rfl (lv_at hl 3 rfl) ?_
              refine tl_sl (tq_rV (As := [.int p2]) (rest := []) ⟨hx, hb, hml, hown, hta⟩ (tp_P.pre hK hN hL hU hI hP) (tp_recv hK hP ho.1 hf_30 rfl) lk_X12_407 (r_X12_heightAt l D cy H.size L K Γ_27 f_25 o p2 ho (by first | omega | (simp only [Int32.toInt_toInt64]; omega) | decide | assumption) hqk hqr) rfl rfl ⟨Nat.le_of_ble_eq_true rfl, Nat.le_of_ble_eq_true rfl⟩ rfl hl.1 rfl (Nat.le_of_ble_eq_true rfl) dX12_curve_77 ⟨Nat.le_of_ble_eq_true rfl, Nat.le_of_ble_eq_true rfl⟩) (fun r_52 hw_51 => ?_)
              refine lv_l2i hx hb dX12_curve_80 rfl ?_
              refine lv_topi (fun z_53 ez_53 => ?_)
              refine lv_goto (tgt := 91) hx hb dX12_curve_81 (by decide) ?_
              have hpo9 : Γ_27 (39, 0, 0) 0 = Γ (39, 0, 0) 0 := (by omega)
              exact W.iret (v := z_53) hx hb hr (fun t ht hW => ⟨⟨_, (f_25, Γ_27), rfl, hpo9, by rw [ht]; exact hP, hI, hfr, hgr⟩, hS.F ht⟩) hS.2.2 dX12_curve_91
          · have c_43 : (v_32 13).toInt = (0 : Int) := tl_eq c_43
            refine lv_ldc (v := (-1000000)) hx hb hown (hta _ wk_182) dX12_curve_66 ?_
            have hpo9 : Γ_27 (39, 0, 0) 0 = Γ (39, 0, 0) 0 := (by omega)
            exact W.iret (v := (-1000000)) hx hb hr (fun t ht hW => ⟨⟨_, (f_25, Γ_27), rfl, hpo9, by rw [ht]; exact hP, hI, hfr, hgr⟩, hS.F ht⟩) hS.2.2 dX12_curve_68
        · have c_29 : p3.toInt = (0 : Int) := tl_eq c_29
          refine lv_aload_n hx hb dX12_curve_44 rfl (lv_at hl 0 rfl) ?_
          obtain ⟨r_55, v_56, q_57, hf_54, hr_58, hv_59⟩ := (show tp_o_M L K 0 0 (Γ_27 (39, 0, 0)) (f_25 o) from hI.at ho)
          refine tp_get (cy := cy) (ci := 12) (v := .ref (r_55 20)) (C := RX12) (T := TX12) (N := 49) hx hb hta inlX12 hown hK hP ho.1 hf_54 rfl 31 (by decide) (hta _ wk_170) (fun _ h9 => h9) rfl dX12_curve_45 ?_
          refine lv_iload_n hx hb dX12_curve_48 rfl (lv_at hl 3 rfl) ?_
          obtain ⟨g_68, hf_67, hg_69⟩ := (show tp_gz cy (300) (Γ_27 (60, 300, 0)) (f_25 (r_55 20)) from hI.at (show tp_r L K 60 300 0 (r_55 20) from hr_58 20 (by decide)))
          have hn_70 : vp_in p2 (300) := tl_in (by omega) (by omega)
          refine tp_zald (cy := cy) hx hb hK hP (show tp_r L K 60 300 0 (r_55 20) from hr_58 20 (by decide)).1 hf_67 hn_70 dX12_curve_49 ?_
          refine lv_topi (fun z_71 ez_71 => ?_)
          have iz_71 : z_71.toInt = Γ_27 (60, 300, 0) p2.toInt.toNat := by rw [ez_71]; exact hg_69 _ (tp_pin hn_70)
          refine lv_if_eq (tgt := 57) hx hb dX12_curve_50 (by decide) (fun c_72 => ?_) (fun c_72 => ?_)
          · have c_72 : z_71.toInt = (0 : Int) := tl_eq c_72
            refine lv_iconst (v := 0) hx hb dX12_curve_57 (by decide) ?_
            have hpo9 : Γ_27 (39, 0, 0) 0 = Γ (39, 0, 0) 0 := (by omega)
            exact W.iret (v := 0) hx hb hr (fun t ht hW => ⟨⟨_, (f_25, Γ_27), rfl, hpo9, by rw [ht]; exact hP, hI, hfr, hgr⟩, hS.F ht⟩) hS.2.2 dX12_curve_58
          · have c_72 : ¬ z_71.toInt = (0 : Int) := tl_neq c_72
            refine lv_iconst (v := 1) hx hb dX12_curve_53 (by decide) ?_
            refine lv_goto (tgt := 58) hx hb dX12_curve_54 (by decide) ?_
            have hpo9 : Γ_27 (39, 0, 0) 0 = Γ (39, 0, 0) 0 := (by omega)
            exact W.iret (v := 1) hx hb hr (fun t ht hW => ⟨⟨_, (f_25, Γ_27), rfl, hpo9, by rw [ht]; exact hP, hI, hfr, hgr⟩, hS.F ht⟩) hS.2.2 dX12_curve_58
      · have c_22 := hw_20.f c_22
        refine lv_ldc (v := (-2000000)) hx hb hown (hta _ wk_248) dX12_curve_29 ?_
        have hpo9 : Γ (39, 0, 0) 0 = Γ (39, 0, 0) 0 := (by omega)
        exact W.iret (v := (-2000000)) hx hb hr (fun t ht hW => ⟨⟨_, (f, Γ), rfl, hpo9, by rw [ht]; exact hP, hI, hfr, hgr⟩, hS.F ht⟩) hS.2.2 dX12_curve_31
set_option maxHeartbeats 4000000 in
set_option maxRecDepth 100000 in
theorem r_X12_deep (l : Launch) (D : va_G) (cy : Nat → ClassId) (sz : Nat) (L : List Nat) (K : Nat → tk_K) (Γ : tk_G) (f : Nat → va_E) (o : Nat) (p0 : Int32) (p1 : Int32) (p2 : Int32) (ho : tp_r L K 39 (0) 0 o) (htx : tx_ok (Γ (43, 8800, 0)) (Γ (45, 1056, 0)) (Γ (46, 22, 0)) (Γ (47, 6, 0)) (Γ (48, 22, 0)) (Γ (49, 22, 0)) (Γ (50, 22, 0)) (Γ (51, 22, 0)) (Γ (42, 3, 0))) (hsd : ts_said (Γ (40, 7666, 0)) (Γ (42, 3, 0) 1)) : Met l yX12_deep (tl_w yX12_deep cX12_deep 6 (some .long)) ({ frames := 7, cells := 0, slots := 0, locals := 177 }) (va_Pc [.ref o, .int p0, .int p1, .int p2] (tp_P D cy L K Γ f sz)) (va_Ql (fun (r : Int64) (u : (Nat → va_E) × tk_G) => u.2 (39, 0, 0) 0 = Γ (39, 0, 0) 0) (tp_BG D cy L K Γ f [39, 58, 57, 60, 61, 62, 63, 59]) (tp_A L sz)) 0 0 (tp_A L sz) := by
  refine Met.ofW (cc := cX12_deep) (maxL := 6) (ret := (some .long)) (by decide) rfl ?_
  intro p e s m args below meth c s₁ B hml hv
  obtain ⟨rfl, hsz, hP, hK, hL, hI, hN, hU⟩ := hv
  have hx := B.exec
  have hb := B.bytes
  have hr := B.returns
  have hta := tl_hta (atoms_spec (ws := tl_w yX12_deep cX12_deep 6 (some .long)) B.pre)
  have hown : s.vm.findClass RX12 = some m.cls := findClass_of_methodNamed B.named
  have hlocks := B.notSynchronized
  subst hsz
  have hI0 := hI
  generalize hAe : tp_A L s.heap.size = A
  have hA : ∀ q : Nat, s.heap.size ≤ q → A q := fun q h => by rw [← hAe]; exact Or.inr h
  have hAL : ∀ q ∈ L, A q := fun q h => by rw [← hAe]; exact Or.inl h
  have hAf : ∀ (H : Heap), s.heap.size ≤ H.size → ∀ q, tp_A L H.size q → A q := fun H h q hq => hq.elim (hAL q) (fun h2 => hA q (Nat.le_trans h h2))
  have hS : va_S A s.heap s.heap [] := va_S.rf
  have hD : va_D A (va_pl L f) := tp_D hL hAL
  have hfr : ∀ b, (K b).1 ∉ ([39, 58, 57, 60, 61, 62, 63, 59] : List Nat) → f b = f b := fun _ _ => rfl
  have hgr : ∀ κ : tk_K, κ.1 ∉ ([39, 58, 57, 60, 61, 62, 63, 59] : List Nat) → Γ κ = Γ κ := fun _ _ => rfl
  have hl := lv_entry ([.ref o, .int p0, .int p1, .int p2]) (n := 6) (Nat.le_of_ble_eq_true rfl)
  rw [lg_entry_eq]
  generalize (lg_sl ([.ref o, .int p0, .int p1, .int p2]) ++ List.replicate (6 - (lg_sl ([.ref o, .int p0, .int p1, .int p2])).length) Slot.unset).toArray = ls at hl ⊢
  have hl : lv_has ls 6 [(0, .ref o), (1, .int p0), (2, .int p1), (3, .int p2)] := hl
  have hs := ts_hs hsd
  have hraw := ts_raw hsd
  have hslp := ts_slp hsd
  have htb := htx.1
  refine lv_aload_n hx hb dX12_deep_0 rfl (lv_at hl 0 rfl) ?_
  refine lv_iload_n hx hb dX12_deep_1 rfl (lv_at hl 1 rfl) ?_
  refine lv_iload_n hx hb dX12_deep_2 rfl (lv_at hl 2 rfl) ?_
  obtain ⟨r_2, v_3, q_4, hf_1, hr_5, hv_6⟩ := (show tp_o_M L K 0 0 (Γ (39, 0, 0)) (f o) from hI.at ho)
  refine tl_si (tq_rV (As := [.int p0, .int p1]) (rest := []) ⟨hx, hb, hml, hown, hta⟩ (tp_P.pre hK hN hL hU hI hP) (tp_recv hK hP ho.1 hf_1 rfl) lk_X12_447 (r_X12_canAsk l D cy s.heap.size L K Γ f o p0 p1 ho) rfl rfl ⟨Nat.le_of_ble_eq_true rfl, Nat.le_of_ble_eq_true rfl⟩ rfl hl.1 rfl (Nat.le_of_ble_eq_true rfl) dX12_deep_3 ⟨Nat.le_of_ble_eq_true rfl, Nat.le_of_ble_eq_true rfl⟩) (fun r_15 hw_14 => ?_)
  have hw_14 : tl_E r_15 ((0 ≤ p0.toInt ∧ p0.toInt < Γ (42, 3, 0) 1) ∧ 0 ≤ p1.toInt ∧ p1.toInt < Γ (40, 7666, 0) 1) 1 0 := hw_14
  refine lv_if_eq (tgt := 21) hx hb dX12_deep_6 (by decide) (fun c_16 => ?_) (fun c_16 => ?_)
  · have c_16 := hw_14.f c_16
    refine lv_ldc2 (v := (-2000000000)) hx hb hown (hta _ wk_990) dX12_deep_21 ?_
    have hpo9 : Γ (39, 0, 0) 0 = Γ (39, 0, 0) 0 := (by omega)
    exact W.lret (v := (-2000000000)) hx hb hr (fun t ht hW => ⟨⟨_, (f, Γ), rfl, hpo9, by rw [ht]; exact hP, hI, hfr, hgr⟩, hS.F ht⟩) hS.2.2 dX12_deep_24
  · have c_16 := hw_14.t c_16
    refine lv_iload_n hx hb dX12_deep_9 rfl (lv_at hl 3 rfl) ?_
    refine lv_i2l (v := p2.toInt64) hx hb dX12_deep_10 (by first | rfl | decide) ?_
    refine lv_lconst (v := 0) hx hb dX12_deep_11 (by decide) ?_
    refine lv_ldc2 (v := 4) hx hb hown (hta _ wk_989) dX12_deep_12 ?_
    refine tl_si (tq_rS (As := [.long p2.toInt64, .long 0, .long 4]) (rest := []) ⟨hx, hb, hml, hown, hta⟩ (tp_P.pre hK hN hL hU hI hP) lk_X12_112 (r_X12_in l D cy s.heap.size L K Γ f p2.toInt64 0 4 ) rfl rfl ⟨Nat.le_of_ble_eq_true rfl, Nat.le_of_ble_eq_true rfl⟩ rfl hl.1 rfl (Nat.le_of_ble_eq_true rfl) dX12_deep_15 ⟨Nat.le_of_ble_eq_true rfl, Nat.le_of_ble_eq_true rfl⟩) (fun r_18 hw_17 => ?_)
    simp only [Int32.toInt_toInt64] at hw_17
    have hw_17 : tl_E r_18 ((0 : Int) ≤ p2.toInt ∧ p2.toInt ≤ (4 : Int)) 1 0 := hw_17
    refine lv_if_ne (tgt := 25) hx hb dX12_deep_18 (by decide) (fun c_19 => ?_) (fun c_19 => ?_)
    · have c_19 := hw_17.t c_19
      refine lv_aload_n hx hb dX12_deep_25 rfl (lv_at hl 0 rfl) ?_
      refine lv_iload_n hx hb dX12_deep_26 rfl (lv_at hl 1 rfl) ?_
      refine lv_iload_n hx hb dX12_deep_27 rfl (lv_at hl 2 rfl) ?_
      refine tq_clR hS (hAf _ hS.1) (tq_rV (As := [.int p0, .int p1]) (rest := []) ⟨hx, hb, hml, hown, hta⟩ (tp_P.pre hK hN hL hU hI hP) (tp_recv hK hP ho.1 hf_1 rfl) lk_X12_450 (r_X12_scoreOf l D cy s.heap.size L K Γ f o p0 p1 ho (by first | omega | (simp only [Int32.toInt_toInt64]; omega) | decide | assumption) (by first | omega | (simp only [Int32.toInt_toInt64]; omega) | decide | assumption) (by first | omega | (simp only [Int32.toInt_toInt64]; omega) | decide | assumption) (by first | omega | (simp only [Int32.toInt_toInt64]; omega) | decide | assumption)) rfl rfl ⟨Nat.le_of_ble_eq_true rfl, Nat.le_of_ble_eq_true rfl⟩ rfl hl.1 rfl (Nat.le_of_ble_eq_true rfl) dX12_deep_28 ⟨Nat.le_of_ble_eq_true rfl, Nat.le_of_ble_eq_true rfl⟩) (fun r_21 f_22 Γ_24 H locs hw_20 hP hI hc_23 hcg_25 hS => ?_)
      have hD : va_D A (va_pl L f_22) := tp_D hL hAL
      have hfr := tp_fr2 hfr hc_23 (by decide)
      have hgr : ∀ κ : tk_K, κ.1 ∉ ([39, 58, 57, 60, 61, 62, 63, 59] : List Nat) → Γ_24 κ = Γ κ := tg_fr2 hgr hcg_25 (by decide)
      have hw_20 : Γ_24 (39, 0, 0) 0 = Γ (39, 0, 0) 0 ∧ (0 ≤ Γ_24 (39, 0, 0) 11 ∧ Γ_24 (39, 0, 0) 12 ≤ 299) ∧ (Γ_24 (39, 0, 0) 11 = Γ (49, 22, 0) (6 + p0.toInt).toNat ∧ Γ_24 (39, 0, 0) 12 = Γ (50, 22, 0) (6 + p0.toInt).toNat) ∧ (Γ_24 (39, 0, 0) 15 = 0 ∨ Γ_24 (39, 0, 0) 15 = 1) ∧ (0 ≤ Γ_24 (39, 0, 0) 13 ∧ Γ_24 (39, 0, 0) 13 ≤ 42) ∧ (0 < Γ_24 (39, 0, 0) 13 → 0 < Γ_24 (39, 0, 0) 10) ∧ (Γ_24 (39, 0, 0) 15 = 1 → 0 < Γ_24 (39, 0, 0) 13 ∧ 0 < Γ_24 (39, 0, 0) 14) ∧ (Γ_24 (39, 0, 0) 15 = 1 → gex (Γ_24 (59, 300, 0)) (Γ (49, 22, 0) (6 + p0.toInt).toNat) (Γ (50, 22, 0) (6 + p0.toInt).toNat + 1)) ∧ (∀ j : Nat, (j : Int) < Γ_24 (39, 0, 0) 13 → 0 ≤ Γ_24 (61, 42, 0) j ∧ Γ_24 (61, 42, 0) j ≤ 299) ∧ (∀ j : Nat, (j : Int) + 1 < Γ_24 (39, 0, 0) 13 → Γ_24 (61, 42, 0) j < Γ_24 (61, 42, 0) (j + 1)) ∧ (∀ j : Nat, j < 300 → (Γ_24 (59, 300, 0) j = -1000000 ∨ (-500000 ≤ Γ_24 (59, 300, 0) j ∧ Γ_24 (59, 300, 0) j ≤ 500000))) := hw_20
      obtain ⟨hq0, hqb, hq11, hq15, hq13, hq10, hqd, hqg, hqk, hqr, hql⟩ := hw_20
      refine lv_lstore (lv' := [(4, .long r_21), (0, .ref o), (1, .int p0), (2, .int p1), (3, .int p2)]) hx hb dX12_deep_31 hl (by decide) rfl (fun ls hl => ?_)
      refine lv_iload_n hx hb dX12_deep_33 rfl (lv_at hl 4 rfl) ?_
      rcases (show p2.toInt = 0 ∨ p2.toInt = 1 ∨ p2.toInt = 2 ∨ p2.toInt = 3 ∨ (p2.toInt < 0 ∨ 3 < p2.toInt) by omega) with c_26 | c_26 | c_26 | c_26 | c_26
      · refine lv_tableIn (tgt := 64) hx hb dX12_deep_34 (by omega) (by omega) (by rw [c_26]; rfl) (by decide) ?_
        refine lv_aload_n hx hb dX12_deep_64 rfl (lv_at hl 1 rfl) ?_
        obtain ⟨r_28, v_29, q_30, hf_27, hr_31, hv_32⟩ := (show tp_o_M L K 0 0 (Γ_24 (39, 0, 0)) (f_22 o) from hI.at ho)
        have hx_39 : (v_29 15).toInt = Γ_24 (39, 0, 0) 15 := hv_32 15 (by decide)
        refine tp_get (cy := cy) (ci := 12) (v := .int (v_29 15)) (C := RX12) (T := TX12) (N := 49) hx hb hta inlX12 hown hK hP ho.1 hf_27 rfl 40 (by decide) (hta _ wk_924) (fun _ h9 => h9) rfl dX12_deep_65 ?_
        refine lv_if_eq (tgt := 78) hx hb dX12_deep_68 (by decide) (fun c_40 => ?_) (fun c_40 => ?_)
        · have c_40 : (v_29 15).toInt = (0 : Int) := tl_eq c_40
          refine lv_ldc2 (v := (-1000000)) hx hb hown (hta _ wk_938) dX12_deep_78 ?_
          have hpo9 : Γ_24 (39, 0, 0) 0 = Γ (39, 0, 0) 0 := (by omega)
          exact W.lret (v := (-1000000)) hx hb hr (fun t ht hW => ⟨⟨_, (f_22, Γ_24), rfl, hpo9, by rw [ht]; exact hP, hI, hfr, hgr⟩, hS.F ht⟩) hS.2.2 dX12_deep_81
        · have c_40 : ¬ (v_29 15).toInt = (0 : Int) := tl_neq c_40
          refine lv_aload_n hx hb dX12_deep_71 rfl (lv_at hl 1 rfl) ?_
          refine tq_clR hS (hAf _ hS.1) (tq_rV (As := []) (rest := []) ⟨hx, hb, hml, hown, hta⟩ (tp_P.pre hK hN hL hU hI hP) (tp_recv hK hP ho.1 hf_27 rfl) lk_X12_431 (r_X12_deepNow l D cy H.size L K Γ_24 f_22 o ho (by first | omega | (simp only [Int32.toInt_toInt64]; omega) | decide | assumption)) rfl rfl ⟨Nat.le_of_ble_eq_true rfl, Nat.le_of_ble_eq_true rfl⟩ rfl hl.1 rfl (Nat.le_of_ble_eq_true rfl) dX12_deep_72 ⟨Nat.le_of_ble_eq_true rfl, Nat.le_of_ble_eq_true rfl⟩) (fun r_42 f_43 Γ_45 H locs hw_41 hP hI hc_44 hcg_46 hS => ?_)
          have hD : va_D A (va_pl L f_43) := tp_D hL hAL
          have hfr := tp_fr2 hfr hc_44 (by decide)
          have hgr : ∀ κ : tk_K, κ.1 ∉ ([39, 58, 57, 60, 61, 62, 63, 59] : List Nat) → Γ_45 κ = Γ κ := tg_fr2 hgr hcg_46 (by decide)
          have hw_41 : 0 ≤ Γ_45 (39, 0, 0) 14 ∧ (0 < Γ_45 (39, 0, 0) 14 ↔ gex (Γ_24 (59, 300, 0)) (Γ_24 (39, 0, 0) 11) (Γ_24 (39, 0, 0) 12 + 1)) ∧ Γ_45 (39, 0, 0) 0 = Γ_24 (39, 0, 0) 0 ∧ Γ_45 (39, 0, 0) 10 = Γ_24 (39, 0, 0) 10 ∧ Γ_45 (39, 0, 0) 11 = Γ_24 (39, 0, 0) 11 ∧ Γ_45 (39, 0, 0) 12 = Γ_24 (39, 0, 0) 12 ∧ Γ_45 (39, 0, 0) 13 = Γ_24 (39, 0, 0) 13 ∧ Γ_45 (39, 0, 0) 15 = Γ_24 (39, 0, 0) 15 := hw_41
          refine lv_goto (tgt := 81) hx hb dX12_deep_75 (by decide) ?_
          have hpo9 : Γ_45 (39, 0, 0) 0 = Γ (39, 0, 0) 0 := (by omega)
          exact W.lret (v := r_42) hx hb hr (fun t ht hW => ⟨⟨_, (f_43, Γ_45), rfl, hpo9, by rw [ht]; exact hP, hI, hfr, hgr⟩, hS.F ht⟩) hS.2.2 dX12_deep_81
      · refine lv_tableIn (tgt := 82) hx hb dX12_deep_34 (by omega) (by omega) (by rw [c_26]; rfl) (by decide) ?_
        refine lv_aload_n hx hb dX12_deep_82 rfl (lv_at hl 1 rfl) ?_
        obtain ⟨r_48, v_49, q_50, hf_47, hr_51, hv_52⟩ := (show tp_o_M L K 0 0 (Γ_24 (39, 0, 0)) (f_22 o) from hI.at ho)
        have hx_57 : (v_49 13).toInt = Γ_24 (39, 0, 0) 13 := hv_52 13 (by decide)
        refine tp_get (cy := cy) (ci := 12) (v := .int (v_49 13)) (C := RX12) (T := TX12) (N := 49) hx hb hta inlX12 hown hK hP ho.1 hf_47 rfl 37 (by decide) (hta _ wk_903) (fun _ h9 => h9) rfl dX12_deep_83 ?_
        refine lv_if_ne (tgt := 95) hx hb dX12_deep_86 (by decide) (fun c_60 => ?_) (fun c_60 => ?_)
        · have c_60 : ¬ (v_49 13).toInt = (0 : Int) := tl_neq c_60
          refine lv_aload_n hx hb dX12_deep_95 rfl (lv_at hl 1 rfl) ?_
          refine tl_sl (tq_rV (As := []) (rest := []) ⟨hx, hb, hml, hown, hta⟩ (tp_P.pre hK hN hL hU hI hP) (tp_recv hK hP ho.1 hf_47 rfl) lk_X12_434 (r_X12_noiseNow l D cy H.size L K Γ_24 f_22 o ho (by first | omega | (simp only [Int32.toInt_toInt64]; omega) | decide | assumption)) rfl rfl ⟨Nat.le_of_ble_eq_true rfl, Nat.le_of_ble_eq_true rfl⟩ rfl hl.1 rfl (Nat.le_of_ble_eq_true rfl) dX12_deep_96 ⟨Nat.le_of_ble_eq_true rfl, Nat.le_of_ble_eq_true rfl⟩) (fun r_62 hw_61 => ?_)
          have hw_61 : 1 ≤ r_62.toInt := hw_61
          have hpo9 : Γ_24 (39, 0, 0) 0 = Γ (39, 0, 0) 0 := (by omega)
          exact W.lret (v := r_62) hx hb hr (fun t ht hW => ⟨⟨_, (f_22, Γ_24), rfl, hpo9, by rw [ht]; exact hP, hI, hfr, hgr⟩, hS.F ht⟩) hS.2.2 dX12_deep_99
        · have c_60 : (v_49 13).toInt = (0 : Int) := tl_eq c_60
          refine lv_ldc2 (v := (-1)) hx hb hown (hta _ wk_991) dX12_deep_89 ?_
          refine lv_goto (tgt := 99) hx hb dX12_deep_92 (by decide) ?_
          have hpo9 : Γ_24 (39, 0, 0) 0 = Γ (39, 0, 0) 0 := (by omega)
          exact W.lret (v := (-1)) hx hb hr (fun t ht hW => ⟨⟨_, (f_22, Γ_24), rfl, hpo9, by rw [ht]; exact hP, hI, hfr, hgr⟩, hS.F ht⟩) hS.2.2 dX12_deep_99
      · refine lv_tableIn (tgt := 100) hx hb dX12_deep_34 (by omega) (by omega) (by rw [c_26]; rfl) (by decide) ?_
        refine lv_lload hx hb dX12_deep_100 (lv_at hl 0 rfl) ?_
        have hpo9 : Γ_24 (39, 0, 0) 0 = Γ (39, 0, 0) 0 := (by omega)
        exact W.lret (v := r_21) hx hb hr (fun t ht hW => ⟨⟨_, (f_22, Γ_24), rfl, hpo9, by rw [ht]; exact hP, hI, hfr, hgr⟩, hS.F ht⟩) hS.2.2 dX12_deep_102
      · refine lv_tableIn (tgt := 103) hx hb dX12_deep_34 (by omega) (by omega) (by rw [c_26]; rfl) (by decide) ?_
        refine lv_aload_n hx hb dX12_deep_103 rfl (lv_at hl 1 rfl) ?_
        obtain ⟨r_64, v_65, q_66, hf_63, hr_67, hv_68⟩ := (show tp_o_M L K 0 0 (Γ_24 (39, 0, 0)) (f_22 o) from hI.at ho)
        have hx_73 : (v_65 13).toInt = Γ_24 (39, 0, 0) 13 := hv_68 13 (by decide)
        refine tp_get (cy := cy) (ci := 12) (v := .int (v_65 13)) (C := RX12) (T := TX12) (N := 49) hx hb hta inlX12 hown hK hP ho.1 hf_63 rfl 37 (by decide) (hta _ wk_903) (fun _ h9 => h9) rfl dX12_deep_104 ?_
        refine lv_i2l (v := (v_65 13).toInt64) hx hb dX12_deep_107 (by first | rfl | decide) ?_
        have hpo9 : Γ_24 (39, 0, 0) 0 = Γ (39, 0, 0) 0 := (by omega)
        exact W.lret (v := (v_65 13).toInt64) hx hb hr (fun t ht hW => ⟨⟨_, (f_22, Γ_24), rfl, hpo9, by rw [ht]; exact hP, hI, hfr, hgr⟩, hS.F ht⟩) hS.2.2 dX12_deep_108
      · refine lv_tableOut (tgt := 109) hx hb dX12_deep_34 (by omega) (by decide) ?_
        refine lv_aload_n hx hb dX12_deep_109 rfl (lv_at hl 1 rfl) ?_
        obtain ⟨r_77, v_78, q_79, hf_76, hr_80, hv_81⟩ := (show tp_o_M L K 0 0 (Γ_24 (39, 0, 0)) (f_22 o) from hI.at ho)
        have hx_83 : (v_78 10).toInt = Γ_24 (39, 0, 0) 10 := hv_81 10 (by decide)
        refine tp_get (cy := cy) (ci := 12) (v := .int (v_78 10)) (C := RX12) (T := TX12) (N := 49) hx hb hta inlX12 hown hK hP ho.1 hf_76 rfl 32 (by decide) (hta _ wk_933) (fun _ h9 => h9) rfl dX12_deep_110 ?_
        refine lv_i2l (v := (v_78 10).toInt64) hx hb dX12_deep_113 (by first | rfl | decide) ?_
        have hpo9 : Γ_24 (39, 0, 0) 0 = Γ (39, 0, 0) 0 := (by omega)
        exact W.lret (v := (v_78 10).toInt64) hx hb hr (fun t ht hW => ⟨⟨_, (f_22, Γ_24), rfl, hpo9, by rw [ht]; exact hP, hI, hfr, hgr⟩, hS.F ht⟩) hS.2.2 dX12_deep_114
    · have c_19 := hw_17.f c_19
      refine lv_ldc2 (v := (-2000000000)) hx hb hown (hta _ wk_990) dX12_deep_21 ?_
      have hpo9 : Γ (39, 0, 0) 0 = Γ (39, 0, 0) 0 := (by omega)
      exact W.lret (v := (-2000000000)) hx hb hr (fun t ht hW => ⟨⟨_, (f, Γ), rfl, hpo9, by rw [ht]; exact hP, hI, hfr, hgr⟩, hS.F ht⟩) hS.2.2 dX12_deep_24
set_option maxHeartbeats 4000000 in
set_option maxRecDepth 100000 in
theorem r_X12_lengthOf (l : Launch) (D : va_G) (cy : Nat → ClassId) (sz : Nat) (L : List Nat) (K : Nat → tk_K) (Γ : tk_G) (f : Nat → va_E) (o : Nat) (p0 : Int32) (ho : tp_r L K 39 (0) 0 o) (htx : tx_ok (Γ (43, 8800, 0)) (Γ (45, 1056, 0)) (Γ (46, 22, 0)) (Γ (47, 6, 0)) (Γ (48, 22, 0)) (Γ (49, 22, 0)) (Γ (50, 22, 0)) (Γ (51, 22, 0)) (Γ (42, 3, 0))) (hcan : 0 ≤ p0.toInt ∧ p0.toInt < Γ (42, 3, 0) 1) : Met l yX12_lengthOf (tl_w yX12_lengthOf cX12_lengthOf 2 (some .int)) ({ frames := 0, cells := 0, slots := 0, locals := 0 }) (va_Pc [.ref o, .int p0] (tp_P D cy L K Γ f sz)) (vp_Si (fun r : Int32 => r.toInt = Γ (50, 22, 0) (6 + p0.toInt).toNat - Γ (49, 22, 0) (6 + p0.toInt).toNat + 1 ∧ -298 ≤ r.toInt ∧ r.toInt ≤ 300)) 0 0 (fun _ => False) := by
  refine Met.ofW (cc := cX12_lengthOf) (maxL := 2) (ret := (some .int)) (by decide) rfl ?_
  intro p e s m args below meth c s₁ B hml hv
  obtain ⟨rfl, hsz, hP, hK, hL, hI, hN, hU⟩ := hv
  have hx := B.exec
  have hb := B.bytes
  have hr := B.returns
  have hta := tl_hta (atoms_spec (ws := tl_w yX12_lengthOf cX12_lengthOf 2 (some .int)) B.pre)
  have hown : s.vm.findClass RX12 = some m.cls := findClass_of_methodNamed B.named
  have hlocks := B.notSynchronized
  subst hsz
  have hI0 := hI
  have hl := lv_entry ([.ref o, .int p0]) (n := 2) (Nat.le_of_ble_eq_true rfl)
  rw [lg_entry_eq]
  generalize (lg_sl ([.ref o, .int p0]) ++ List.replicate (2 - (lg_sl ([.ref o, .int p0])).length) Slot.unset).toArray = ls at hl ⊢
  have hl : lv_has ls 2 [(0, .ref o), (1, .int p0)] := hl
  have htb := htx.1
  obtain ⟨hnc, htst, _, _, hbd, hgp, hwi⟩ := htx.2 (6 + p0.toInt) (by omega)
  refine lv_aload_n hx hb dX12_lengthOf_0 rfl (lv_at hl 0 rfl) ?_
  obtain ⟨r_2, v_3, q_4, hf_1, hr_5, hv_6⟩ := (show tp_o_M L K 0 0 (Γ (39, 0, 0)) (f o) from hI0.at ho)
  refine tp_get (cy := cy) (ci := 12) (v := .ref (r_2 14)) (C := RX12) (T := TX12) (N := 49) hx hb hta inlX12 hown hK hP ho.1 hf_1 rfl 15 (by decide) (hta _ wk_164) (fun _ h9 => h9) rfl dX12_lengthOf_1 ?_
  refine lv_bipush (v := 6) hx hb dX12_lengthOf_4 (by decide) ?_
  refine lv_iload_n hx hb dX12_lengthOf_6 rfl (lv_at hl 1 rfl) ?_
  refine lv_iadd hx hb dX12_lengthOf_7 ?_
  refine lv_topi (fun z_7 ez_7 => ?_)
  try have iz_7 : z_7.toInt = (6 : Int) + p0.toInt := by rw [ez_7]; exact tl_addN 6 p0 rfl rfl (by omega) (by omega)
  obtain ⟨g_9, hf_8, hg_10⟩ := (show tp_gi cy (22) (Γ (50, 22, 0)) (f (r_2 14)) from hI0.at (show tp_r L K 50 22 0 (r_2 14) from hr_5 14 (by decide)))
  have hn_11 : vp_in z_7 (22) := tl_in (by omega) (by omega)
  refine tp_iald (cy := cy) hx hb hK hP (show tp_r L K 50 22 0 (r_2 14) from hr_5 14 (by decide)).1 hf_8 hn_11 dX12_lengthOf_8 ?_
  refine lv_topi (fun z_12 ez_12 => ?_)
  have iz_12 : z_12.toInt = Γ (50, 22, 0) z_7.toInt.toNat := by rw [ez_12]; exact hg_10 _ (tp_pin hn_11)
  have kz_12 : z_12.toInt = Γ (50, 22, 0) (6 + p0.toInt).toNat := iz_12.trans (congrArg _ (by omega))
  refine lv_aload_n hx hb dX12_lengthOf_9 rfl (lv_at hl 0 rfl) ?_
  refine tp_get (cy := cy) (ci := 12) (v := .ref (r_2 13)) (C := RX12) (T := TX12) (N := 49) hx hb hta inlX12 hown hK hP ho.1 hf_1 rfl 14 (by decide) (hta _ wk_163) (fun _ h9 => h9) rfl dX12_lengthOf_10 ?_
  refine lv_bipush (v := 6) hx hb dX12_lengthOf_13 (by decide) ?_
  refine lv_iload_n hx hb dX12_lengthOf_15 rfl (lv_at hl 1 rfl) ?_
  refine lv_iadd hx hb dX12_lengthOf_16 ?_
  refine lv_topi (fun z_13 ez_13 => ?_)
  try have iz_13 : z_13.toInt = (6 : Int) + p0.toInt := by rw [ez_13]; exact tl_addN 6 p0 rfl rfl (by omega) (by omega)
  obtain ⟨g_15, hf_14, hg_16⟩ := (show tp_gi cy (22) (Γ (49, 22, 0)) (f (r_2 13)) from hI0.at (show tp_r L K 49 22 0 (r_2 13) from hr_5 13 (by decide)))
  have hn_17 : vp_in z_13 (22) := tl_in (by omega) (by omega)
  refine tp_iald (cy := cy) hx hb hK hP (show tp_r L K 49 22 0 (r_2 13) from hr_5 13 (by decide)).1 hf_14 hn_17 dX12_lengthOf_17 ?_
  refine lv_topi (fun z_18 ez_18 => ?_)
  have iz_18 : z_18.toInt = Γ (49, 22, 0) z_13.toInt.toNat := by rw [ez_18]; exact hg_16 _ (tp_pin hn_17)
  have kz_18 : z_18.toInt = Γ (49, 22, 0) (6 + p0.toInt).toNat := iz_18.trans (congrArg _ (by omega))
  refine lv_isub hx hb dX12_lengthOf_18 ?_
  refine lv_topi (fun z_19 ez_19 => ?_)
  try have iz_19 : z_19.toInt = z_12.toInt - z_18.toInt := by rw [ez_19]; exact tl_subN z_12 z_18 rfl rfl (by omega) (by omega)
  refine lv_iconst (v := 1) hx hb dX12_lengthOf_19 (by decide) ?_
  refine lv_iadd hx hb dX12_lengthOf_20 ?_
  refine lv_topi (fun z_20 ez_20 => ?_)
  try have iz_20 : z_20.toInt = z_19.toInt + (1 : Int) := by rw [ez_20]; exact tl_addN z_19 1 rfl rfl (by omega) (by omega)
  exact W.iret (v := z_20) hx hb hr (fun t ht hW => ⟨_, rfl, (by first | trivial | omega | exact Or.inr rfl | exact Or.inl (by omega) | decide), ht⟩) (fun q h => by cases h) dX12_lengthOf_21
set_option maxHeartbeats 4000000 in
set_option maxRecDepth 100000 in
theorem r_X12_movedTo (l : Launch) (D : va_G) (cy : Nat → ClassId) (sz : Nat) (L : List Nat) (K : Nat → tk_K) (Γ : tk_G) (f : Nat → va_E) (o : Nat) (p0 : Int32) (p1 : Int32) (p2 : Int32) (ho : tp_r L K 39 (0) 0 o) (htx : tx_ok (Γ (43, 8800, 0)) (Γ (45, 1056, 0)) (Γ (46, 22, 0)) (Γ (47, 6, 0)) (Γ (48, 22, 0)) (Γ (49, 22, 0)) (Γ (50, 22, 0)) (Γ (51, 22, 0)) (Γ (42, 3, 0))) (hcan : 0 ≤ p0.toInt ∧ p0.toInt < Γ (42, 3, 0) 1) (hrw : 0 ≤ p1.toInt ∧ p1.toInt ≤ 23) (hfm : 0 ≤ p2.toInt ∧ p2.toInt + (Γ (50, 22, 0) (6 + p0.toInt).toNat - Γ (49, 22, 0) (6 + p0.toInt).toNat + 1) ≤ 300) : Met l yX12_movedTo (tl_w yX12_movedTo cX12_movedTo 4 (some .long)) ({ frames := 5, cells := 0, slots := 0, locals := 132 }) (va_Pc [.ref o, .int p0, .int p1, .int p2] (tp_P D cy L K Γ f sz)) (va_Ql (fun (r : Int64) (u : (Nat → va_E) × tk_G) => u.2 (39, 0, 0) 0 = Γ (39, 0, 0) 0 ∧ (u.2 (39, 0, 0) 15 = 0 ∨ u.2 (39, 0, 0) 15 = 1)) (tp_BG D cy L K Γ f [39, 58, 57, 60, 61, 62, 63]) (tp_A L sz)) 0 0 (tp_A L sz) := by
  refine Met.ofW (cc := cX12_movedTo) (maxL := 4) (ret := (some .long)) (by decide) rfl ?_
  intro p e s m args below meth c s₁ B hml hv
  obtain ⟨rfl, hsz, hP, hK, hL, hI, hN, hU⟩ := hv
  have hx := B.exec
  have hb := B.bytes
  have hr := B.returns
  have hta := tl_hta (atoms_spec (ws := tl_w yX12_movedTo cX12_movedTo 4 (some .long)) B.pre)
  have hown : s.vm.findClass RX12 = some m.cls := findClass_of_methodNamed B.named
  have hlocks := B.notSynchronized
  subst hsz
  have hI0 := hI
  generalize hAe : tp_A L s.heap.size = A
  have hA : ∀ q : Nat, s.heap.size ≤ q → A q := fun q h => by rw [← hAe]; exact Or.inr h
  have hAL : ∀ q ∈ L, A q := fun q h => by rw [← hAe]; exact Or.inl h
  have hAf : ∀ (H : Heap), s.heap.size ≤ H.size → ∀ q, tp_A L H.size q → A q := fun H h q hq => hq.elim (hAL q) (fun h2 => hA q (Nat.le_trans h h2))
  have hS : va_S A s.heap s.heap [] := va_S.rf
  have hD : va_D A (va_pl L f) := tp_D hL hAL
  have hfr : ∀ b, (K b).1 ∉ ([39, 58, 57, 60, 61, 62, 63] : List Nat) → f b = f b := fun _ _ => rfl
  have hgr : ∀ κ : tk_K, κ.1 ∉ ([39, 58, 57, 60, 61, 62, 63] : List Nat) → Γ κ = Γ κ := fun _ _ => rfl
  have hl := lv_entry ([.ref o, .int p0, .int p1, .int p2]) (n := 4) (Nat.le_of_ble_eq_true rfl)
  rw [lg_entry_eq]
  generalize (lg_sl ([.ref o, .int p0, .int p1, .int p2]) ++ List.replicate (4 - (lg_sl ([.ref o, .int p0, .int p1, .int p2])).length) Slot.unset).toArray = ls at hl ⊢
  have hl : lv_has ls 4 [(0, .ref o), (1, .int p0), (2, .int p1), (3, .int p2)] := hl
  have htb := htx.1
  obtain ⟨hnc, htst, _, _, hbd, hgp, hwi⟩ := htx.2 (6 + p0.toInt) (by omega)
  refine lv_aload_n hx hb dX12_movedTo_0 rfl (lv_at hl 0 rfl) ?_
  refine lv_iload_n hx hb dX12_movedTo_1 rfl (lv_at hl 1 rfl) ?_
  refine lv_iload_n hx hb dX12_movedTo_2 rfl (lv_at hl 2 rfl) ?_
  refine lv_iload_n hx hb dX12_movedTo_3 rfl (lv_at hl 3 rfl) ?_
  refine lv_iload_n hx hb dX12_movedTo_4 rfl (lv_at hl 3 rfl) ?_
  refine lv_aload_n hx hb dX12_movedTo_5 rfl (lv_at hl 0 rfl) ?_
  refine lv_iload_n hx hb dX12_movedTo_6 rfl (lv_at hl 1 rfl) ?_
  obtain ⟨r_2, v_3, q_4, hf_1, hr_5, hv_6⟩ := (show tp_o_M L K 0 0 (Γ (39, 0, 0)) (f o) from hI.at ho)
  refine tl_si (tq_rV (As := [.int p0]) (rest := [.int p2, .int p2, .int p1, .int p0, .ref o]) ⟨hx, hb, hml, hown, hta⟩ (tp_P.pre hK hN hL hU hI hP) (tp_recv hK hP ho.1 hf_1 rfl) lk_X12_459 (r_X12_lengthOf l D cy s.heap.size L K Γ f o p0 ho (by first | omega | (simp only [Int32.toInt_toInt64]; omega) | decide | assumption) (by first | omega | (simp only [Int32.toInt_toInt64]; omega) | decide | assumption)) rfl rfl ⟨Nat.le_of_ble_eq_true rfl, Nat.le_of_ble_eq_true rfl⟩ rfl hl.1 rfl (Nat.le_of_ble_eq_true rfl) dX12_movedTo_7 ⟨Nat.le_of_ble_eq_true rfl, Nat.le_of_ble_eq_true rfl⟩) (fun r_15 hw_14 => ?_)
  have hw_14 : r_15.toInt = Γ (50, 22, 0) (6 + p0.toInt).toNat - Γ (49, 22, 0) (6 + p0.toInt).toNat + 1 ∧ -298 ≤ r_15.toInt ∧ r_15.toInt ≤ 300 := hw_14
  refine lv_iadd hx hb dX12_movedTo_10 ?_
  refine lv_topi (fun z_16 ez_16 => ?_)
  try have iz_16 : z_16.toInt = p2.toInt + r_15.toInt := by rw [ez_16]; exact tl_addN p2 r_15 rfl rfl (by omega) (by omega)
  refine lv_iconst (v := 1) hx hb dX12_movedTo_11 (by decide) ?_
  refine lv_isub hx hb dX12_movedTo_12 ?_
  refine lv_topi (fun z_17 ez_17 => ?_)
  try have iz_17 : z_17.toInt = z_16.toInt - (1 : Int) := by rw [ez_17]; exact tl_subN z_16 1 rfl rfl (by omega) (by omega)
  refine lv_aload_n hx hb dX12_movedTo_13 rfl (lv_at hl 0 rfl) ?_
  refine tp_get (cy := cy) (ci := 12) (v := .ref (r_2 12)) (C := RX12) (T := TX12) (N := 49) hx hb hta inlX12 hown hK hP ho.1 hf_1 rfl 13 (by decide) (hta _ wk_162) (fun _ h9 => h9) rfl dX12_movedTo_14 ?_
  refine lv_bipush (v := 6) hx hb dX12_movedTo_17 (by decide) ?_
  refine lv_iload_n hx hb dX12_movedTo_19 rfl (lv_at hl 1 rfl) ?_
  refine lv_iadd hx hb dX12_movedTo_20 ?_
  refine lv_topi (fun z_18 ez_18 => ?_)
  try have iz_18 : z_18.toInt = (6 : Int) + p0.toInt := by rw [ez_18]; exact tl_addN 6 p0 rfl rfl (by omega) (by omega)
  obtain ⟨g_20, hf_19, hg_21⟩ := (show tp_gi cy (22) (Γ (48, 22, 0)) (f (r_2 12)) from hI0.at (show tp_r L K 48 22 0 (r_2 12) from hr_5 12 (by decide)))
  have hn_22 : vp_in z_18 (22) := tl_in (by omega) (by omega)
  refine tp_iald (cy := cy) hx hb hK hP (show tp_r L K 48 22 0 (r_2 12) from hr_5 12 (by decide)).1 hf_19 hn_22 dX12_movedTo_21 ?_
  refine lv_topi (fun z_23 ez_23 => ?_)
  have iz_23 : z_23.toInt = Γ (48, 22, 0) z_18.toInt.toNat := by rw [ez_23]; exact hg_21 _ (tp_pin hn_22)
  have kz_23 : z_23.toInt = Γ (48, 22, 0) (6 + p0.toInt).toNat := iz_23.trans (congrArg _ (by omega))
  refine tq_clR hS (hAf _ hS.1) (tq_rV (As := [.int p0, .int p1, .int p2, .int z_17, .int z_23]) (rest := []) ⟨hx, hb, hml, hown, hta⟩ (tp_P.pre hK hN hL hU hI hP) (tp_recv hK hP ho.1 hf_1 rfl) lk_X12_437 (r_X12_scoreNow l D cy s.heap.size L K Γ f o p0 p1 p2 z_17 z_23 (6 + p0.toInt) ho (by first | omega | (simp only [Int32.toInt_toInt64]; omega) | decide | assumption) (by first | omega | (simp only [Int32.toInt_toInt64]; omega) | decide | assumption) (by first | omega | (simp only [Int32.toInt_toInt64]; omega) | decide | assumption) (by first | omega | (simp only [Int32.toInt_toInt64]; omega) | decide | assumption) (by first | omega | (simp only [Int32.toInt_toInt64]; omega) | decide | assumption) (by first | omega | (simp only [Int32.toInt_toInt64]; omega) | decide | assumption) (by first | omega | (simp only [Int32.toInt_toInt64]; omega) | decide | assumption)) rfl rfl ⟨Nat.le_of_ble_eq_true rfl, Nat.le_of_ble_eq_true rfl⟩ rfl hl.1 rfl (Nat.le_of_ble_eq_true rfl) dX12_movedTo_22 ⟨Nat.le_of_ble_eq_true rfl, Nat.le_of_ble_eq_true rfl⟩) (fun r_25 f_26 Γ_28 H locs hw_24 hP hI hc_27 hcg_29 hS => ?_)
  have hD : va_D A (va_pl L f_26) := tp_D hL hAL
  have hfr := tp_fr2 hfr hc_27 (by decide)
  have hgr : ∀ κ : tk_K, κ.1 ∉ ([39, 58, 57, 60, 61, 62, 63] : List Nat) → Γ_28 κ = Γ κ := tg_fr2 hgr hcg_29 (by decide)
  have hw_24 : Γ_28 (39, 0, 0) 0 = Γ (39, 0, 0) 0 ∧ (gex (Γ (59, 300, 0)) (p2.toInt) (z_17.toInt + 1) → 0 < Γ (39, 0, 0) 14 → 0 < Γ_28 (39, 0, 0) 14) ∧ (Γ_28 (39, 0, 0) 11 = p2.toInt ∧ Γ_28 (39, 0, 0) 12 = z_17.toInt) ∧ (Γ_28 (39, 0, 0) 15 = 0 ∨ Γ_28 (39, 0, 0) 15 = 1) ∧ (0 ≤ Γ_28 (39, 0, 0) 13 ∧ Γ_28 (39, 0, 0) 13 ≤ 42) ∧ (0 < Γ_28 (39, 0, 0) 13 → 0 < Γ_28 (39, 0, 0) 10) ∧ (Γ_28 (39, 0, 0) 15 = 1 → 0 < Γ_28 (39, 0, 0) 13 ∧ 0 < Γ_28 (39, 0, 0) 14) ∧ (Γ_28 (39, 0, 0) 15 = 1 → gex (Γ (59, 300, 0)) (p2.toInt) (z_17.toInt + 1)) ∧ (∀ j : Nat, (j : Int) < Γ_28 (39, 0, 0) 13 → 0 ≤ Γ_28 (61, 42, 0) j ∧ Γ_28 (61, 42, 0) j ≤ 299) ∧ (∀ j : Nat, (j : Int) + 1 < Γ_28 (39, 0, 0) 13 → Γ_28 (61, 42, 0) j < Γ_28 (61, 42, 0) (j + 1)) := hw_24
  have hpo9 : Γ_28 (39, 0, 0) 0 = Γ (39, 0, 0) 0 ∧ (Γ_28 (39, 0, 0) 15 = 0 ∨ Γ_28 (39, 0, 0) 15 = 1) := ⟨(by omega), (by omega)⟩
  exact W.lret (v := r_25) hx hb hr (fun t ht hW => ⟨⟨_, (f_26, Γ_28), rfl, hpo9, by rw [ht]; exact hP, hI, hfr, hgr⟩, hS.F ht⟩) hS.2.2 dX12_movedTo_25
set_option maxHeartbeats 4000000 in
set_option maxRecDepth 100000 in
theorem r_X12_moved (l : Launch) (D : va_G) (cy : Nat → ClassId) (sz : Nat) (L : List Nat) (K : Nat → tk_K) (Γ : tk_G) (f : Nat → va_E) (o : Nat) (p0 : Int32) (p1 : Int32) (p2 : Int32) (ho : tp_r L K 39 (0) 0 o) (htx : tx_ok (Γ (43, 8800, 0)) (Γ (45, 1056, 0)) (Γ (46, 22, 0)) (Γ (47, 6, 0)) (Γ (48, 22, 0)) (Γ (49, 22, 0)) (Γ (50, 22, 0)) (Γ (51, 22, 0)) (Γ (42, 3, 0))) (hsd : ts_said (Γ (40, 7666, 0)) (Γ (42, 3, 0) 1)) : Met l yX12_moved (tl_w yX12_moved cX12_moved 4 (some .long)) ({ frames := 6, cells := 0, slots := 0, locals := 155 }) (va_Pc [.ref o, .int p0, .int p1, .int p2] (tp_P D cy L K Γ f sz)) (va_Ql (fun (r : Int64) (u : (Nat → va_E) × tk_G) => u.2 (39, 0, 0) 0 = Γ (39, 0, 0) 0) (tp_BG D cy L K Γ f [39, 58, 57, 60, 61, 62, 63, 59]) (tp_A L sz)) 0 0 (tp_A L sz) := by
  refine Met.ofW (cc := cX12_moved) (maxL := 4) (ret := (some .long)) (by decide) rfl ?_
  intro p e s m args below meth c s₁ B hml hv
  obtain ⟨rfl, hsz, hP, hK, hL, hI, hN, hU⟩ := hv
  have hx := B.exec
  have hb := B.bytes
  have hr := B.returns
  have hta := tl_hta (atoms_spec (ws := tl_w yX12_moved cX12_moved 4 (some .long)) B.pre)
  have hown : s.vm.findClass RX12 = some m.cls := findClass_of_methodNamed B.named
  have hlocks := B.notSynchronized
  subst hsz
  have hI0 := hI
  generalize hAe : tp_A L s.heap.size = A
  have hA : ∀ q : Nat, s.heap.size ≤ q → A q := fun q h => by rw [← hAe]; exact Or.inr h
  have hAL : ∀ q ∈ L, A q := fun q h => by rw [← hAe]; exact Or.inl h
  have hAf : ∀ (H : Heap), s.heap.size ≤ H.size → ∀ q, tp_A L H.size q → A q := fun H h q hq => hq.elim (hAL q) (fun h2 => hA q (Nat.le_trans h h2))
  have hS : va_S A s.heap s.heap [] := va_S.rf
  have hD : va_D A (va_pl L f) := tp_D hL hAL
  have hfr : ∀ b, (K b).1 ∉ ([39, 58, 57, 60, 61, 62, 63, 59] : List Nat) → f b = f b := fun _ _ => rfl
  have hgr : ∀ κ : tk_K, κ.1 ∉ ([39, 58, 57, 60, 61, 62, 63, 59] : List Nat) → Γ κ = Γ κ := fun _ _ => rfl
  have hl := lv_entry ([.ref o, .int p0, .int p1, .int p2]) (n := 4) (Nat.le_of_ble_eq_true rfl)
  rw [lg_entry_eq]
  generalize (lg_sl ([.ref o, .int p0, .int p1, .int p2]) ++ List.replicate (4 - (lg_sl ([.ref o, .int p0, .int p1, .int p2])).length) Slot.unset).toArray = ls at hl ⊢
  have hl : lv_has ls 4 [(0, .ref o), (1, .int p0), (2, .int p1), (3, .int p2)] := hl
  have hs := ts_hs hsd
  have hraw := ts_raw hsd
  have hslp := ts_slp hsd
  have htb := htx.1
  refine lv_aload_n hx hb dX12_moved_0 rfl (lv_at hl 0 rfl) ?_
  refine lv_iload_n hx hb dX12_moved_1 rfl (lv_at hl 1 rfl) ?_
  refine lv_iload_n hx hb dX12_moved_2 rfl (lv_at hl 2 rfl) ?_
  obtain ⟨r_2, v_3, q_4, hf_1, hr_5, hv_6⟩ := (show tp_o_M L K 0 0 (Γ (39, 0, 0)) (f o) from hI.at ho)
  have hx_7 : (v_3 0).toInt = Γ (39, 0, 0) 0 := hv_6 0 (by decide)
  have hx_8 : (v_3 10).toInt = Γ (39, 0, 0) 10 := hv_6 10 (by decide)
  have hx_9 : (v_3 11).toInt = Γ (39, 0, 0) 11 := hv_6 11 (by decide)
  have hx_10 : (v_3 12).toInt = Γ (39, 0, 0) 12 := hv_6 12 (by decide)
  have hx_11 : (v_3 13).toInt = Γ (39, 0, 0) 13 := hv_6 13 (by decide)
  have hx_12 : (v_3 14).toInt = Γ (39, 0, 0) 14 := hv_6 14 (by decide)
  have hx_13 : (v_3 15).toInt = Γ (39, 0, 0) 15 := hv_6 15 (by decide)
  refine tl_si (tq_rV (As := [.int p0, .int p1]) (rest := []) ⟨hx, hb, hml, hown, hta⟩ (tp_P.pre hK hN hL hU hI hP) (tp_recv hK hP ho.1 hf_1 rfl) lk_X12_447 (r_X12_canAsk l D cy s.heap.size L K Γ f o p0 p1 ho) rfl rfl ⟨Nat.le_of_ble_eq_true rfl, Nat.le_of_ble_eq_true rfl⟩ rfl hl.1 rfl (Nat.le_of_ble_eq_true rfl) dX12_moved_3 ⟨Nat.le_of_ble_eq_true rfl, Nat.le_of_ble_eq_true rfl⟩) (fun r_15 hw_14 => ?_)
  have hw_14 : tl_E r_15 ((0 ≤ p0.toInt ∧ p0.toInt < Γ (42, 3, 0) 1) ∧ 0 ≤ p1.toInt ∧ p1.toInt < Γ (40, 7666, 0) 1) 1 0 := hw_14
  refine lv_if_eq (tgt := 28) hx hb dX12_moved_6 (by decide) (fun c_16 => ?_) (fun c_16 => ?_)
  · have c_16 := hw_14.f c_16
    refine lv_ldc2 (v := (-2000000000)) hx hb hown (hta _ wk_990) dX12_moved_28 ?_
    have hpo9 : Γ (39, 0, 0) 0 = Γ (39, 0, 0) 0 := (by omega)
    exact W.lret (v := (-2000000000)) hx hb hr (fun t ht hW => ⟨⟨_, (f, Γ), rfl, hpo9, by rw [ht]; exact hP, hI, hfr, hgr⟩, hS.F ht⟩) hS.2.2 dX12_moved_31
  · have c_16 := hw_14.t c_16
    refine lv_iload_n hx hb dX12_moved_9 rfl (lv_at hl 3 rfl) ?_
    refine lv_i2l (v := p2.toInt64) hx hb dX12_moved_10 (by first | rfl | decide) ?_
    refine lv_lconst (v := 0) hx hb dX12_moved_11 (by decide) ?_
    refine lv_sipush (v := 300) hx hb dX12_moved_12 (by decide) ?_
    refine lv_aload_n hx hb dX12_moved_15 rfl (lv_at hl 0 rfl) ?_
    refine lv_iload_n hx hb dX12_moved_16 rfl (lv_at hl 1 rfl) ?_
    refine tl_si (tq_rV (As := [.int p0]) (rest := [.int 300, .long 0, .long p2.toInt64]) ⟨hx, hb, hml, hown, hta⟩ (tp_P.pre hK hN hL hU hI hP) (tp_recv hK hP ho.1 hf_1 rfl) lk_X12_459 (r_X12_lengthOf l D cy s.heap.size L K Γ f o p0 ho (by first | omega | (simp only [Int32.toInt_toInt64]; omega) | decide | assumption) (by first | omega | (simp only [Int32.toInt_toInt64]; omega) | decide | assumption)) rfl rfl ⟨Nat.le_of_ble_eq_true rfl, Nat.le_of_ble_eq_true rfl⟩ rfl hl.1 rfl (Nat.le_of_ble_eq_true rfl) dX12_moved_17 ⟨Nat.le_of_ble_eq_true rfl, Nat.le_of_ble_eq_true rfl⟩) (fun r_18 hw_17 => ?_)
    have hw_17 : r_18.toInt = Γ (50, 22, 0) (6 + p0.toInt).toNat - Γ (49, 22, 0) (6 + p0.toInt).toNat + 1 ∧ -298 ≤ r_18.toInt ∧ r_18.toInt ≤ 300 := hw_17
    refine lv_isub hx hb dX12_moved_20 ?_
    refine lv_topi (fun z_19 ez_19 => ?_)
    try have iz_19 : z_19.toInt = (300 : Int) - r_18.toInt := by rw [ez_19]; exact tl_subN 300 r_18 rfl rfl (by omega) (by omega)
    refine lv_i2l (v := z_19.toInt64) hx hb dX12_moved_21 (by first | rfl | decide) ?_
    refine tl_si (tq_rS (As := [.long p2.toInt64, .long 0, .long z_19.toInt64]) (rest := []) ⟨hx, hb, hml, hown, hta⟩ (tp_P.pre hK hN hL hU hI hP) lk_X12_112 (r_X12_in l D cy s.heap.size L K Γ f p2.toInt64 0 z_19.toInt64 ) rfl rfl ⟨Nat.le_of_ble_eq_true rfl, Nat.le_of_ble_eq_true rfl⟩ rfl hl.1 rfl (Nat.le_of_ble_eq_true rfl) dX12_moved_22 ⟨Nat.le_of_ble_eq_true rfl, Nat.le_of_ble_eq_true rfl⟩) (fun r_21 hw_20 => ?_)
    simp only [Int32.toInt_toInt64] at hw_20
    have hw_20 : tl_E r_21 ((0 : Int) ≤ p2.toInt ∧ p2.toInt ≤ z_19.toInt) 1 0 := hw_20
    refine lv_if_ne (tgt := 32) hx hb dX12_moved_25 (by decide) (fun c_22 => ?_) (fun c_22 => ?_)
    · have c_22 := hw_20.t c_22
      refine lv_aload_n hx hb dX12_moved_32 rfl (lv_at hl 0 rfl) ?_
      refine lv_iload_n hx hb dX12_moved_33 rfl (lv_at hl 2 rfl) ?_
      refine tq_cvR hS (hAf _ hS.1) (tq_rV (As := [.int p1]) (rest := []) ⟨hx, hb, hml, hown, hta⟩ (tp_P.pre hK hN hL hU hI hP) (tp_recv hK hP ho.1 hf_1 rfl) lk_X12_441 (r_X12_lifts l D cy s.heap.size L K Γ f o p1 ho (by first | omega | (simp only [Int32.toInt_toInt64]; omega) | decide | assumption) (by first | omega | (simp only [Int32.toInt_toInt64]; omega) | decide | assumption) (by first | omega | (simp only [Int32.toInt_toInt64]; omega) | decide | assumption) (by first | omega | (simp only [Int32.toInt_toInt64]; omega) | decide | assumption)) rfl rfl ⟨Nat.le_of_ble_eq_true rfl, Nat.le_of_ble_eq_true rfl⟩ rfl hl.1 rfl (Nat.le_of_ble_eq_true rfl) dX12_moved_34 ⟨Nat.le_of_ble_eq_true rfl, Nat.le_of_ble_eq_true rfl⟩) (fun f_25 Γ_27 H locs hw_23 hP hI hc_26 hcg_28 hS => ?_)
      have hD : va_D A (va_pl L f_25) := tp_D hL hAL
      have hfr := tp_fr2 hfr hc_26 (by decide)
      have hgr : ∀ κ : tk_K, κ.1 ∉ ([39, 58, 57, 60, 61, 62, 63, 59] : List Nat) → Γ_27 κ = Γ κ := tg_fr2 hgr hcg_28 (by decide)
      have hf_29 := (tp_un hc_26 ho (by decide)).trans hf_1
      have hv_30 : ∀ i : Nat, i < 16 → (v_3 i).toInt = Γ_27 (39, 0, 0) i := fun i hi => by rw [hcg_28 _ (by decide)]; exact hv_6 i hi
      have hx_31 : (v_3 0).toInt = Γ_27 (39, 0, 0) 0 := hv_30 0 (by decide)
      have hx_32 : (v_3 10).toInt = Γ_27 (39, 0, 0) 10 := hv_30 10 (by decide)
      have hx_33 : (v_3 11).toInt = Γ_27 (39, 0, 0) 11 := hv_30 11 (by decide)
      have hx_34 : (v_3 12).toInt = Γ_27 (39, 0, 0) 12 := hv_30 12 (by decide)
      have hx_35 : (v_3 13).toInt = Γ_27 (39, 0, 0) 13 := hv_30 13 (by decide)
      have hx_36 : (v_3 14).toInt = Γ_27 (39, 0, 0) 14 := hv_30 14 (by decide)
      have hx_37 : (v_3 15).toInt = Γ_27 (39, 0, 0) 15 := hv_30 15 (by decide)
      have mk_27_0 : Γ_27 (39, 0, 0) 0 = Γ (39, 0, 0) 0 := congrFun (hcg_28 (39, 0, 0) (by decide)) 0
      have mk_27_10 : Γ_27 (39, 0, 0) 10 = Γ (39, 0, 0) 10 := congrFun (hcg_28 (39, 0, 0) (by decide)) 10
      have mk_27_11 : Γ_27 (39, 0, 0) 11 = Γ (39, 0, 0) 11 := congrFun (hcg_28 (39, 0, 0) (by decide)) 11
      have mk_27_12 : Γ_27 (39, 0, 0) 12 = Γ (39, 0, 0) 12 := congrFun (hcg_28 (39, 0, 0) (by decide)) 12
      have mk_27_13 : Γ_27 (39, 0, 0) 13 = Γ (39, 0, 0) 13 := congrFun (hcg_28 (39, 0, 0) (by decide)) 13
      have mk_27_14 : Γ_27 (39, 0, 0) 14 = Γ (39, 0, 0) 14 := congrFun (hcg_28 (39, 0, 0) (by decide)) 14
      have mk_27_15 : Γ_27 (39, 0, 0) 15 = Γ (39, 0, 0) 15 := congrFun (hcg_28 (39, 0, 0) (by decide)) 15
      have hw_23 : ∀ j : Nat, j < 300 → (Γ_27 (59, 300, 0) j = -1000000 ∨ (-500000 ≤ Γ_27 (59, 300, 0) j ∧ Γ_27 (59, 300, 0) j ≤ 500000)) := hw_23
      refine lv_aload_n hx hb dX12_moved_37 rfl (lv_at hl 0 rfl) ?_
      refine lv_iload_n hx hb dX12_moved_38 rfl (lv_at hl 1 rfl) ?_
      refine lv_iload_n hx hb dX12_moved_39 rfl (lv_at hl 2 rfl) ?_
      refine lv_iload_n hx hb dX12_moved_40 rfl (lv_at hl 3 rfl) ?_
      refine tq_clR hS (hAf _ hS.1) (tq_rV (As := [.int p0, .int p1, .int p2]) (rest := []) ⟨hx, hb, hml, hown, hta⟩ (tp_P.pre hK hN hL hU hI hP) (tp_recv hK hP ho.1 hf_29 rfl) lk_X12_462 (r_X12_movedTo l D cy H.size L K Γ_27 f_25 o p0 p1 p2 ho (by first | omega | assumption | (rw [hgr (42, 3, 0) (by decide), hgr (43, 8800, 0) (by decide), hgr (45, 1056, 0) (by decide), hgr (46, 22, 0) (by decide), hgr (47, 6, 0) (by decide), hgr (48, 22, 0) (by decide), hgr (49, 22, 0) (by decide), hgr (50, 22, 0) (by decide), hgr (51, 22, 0) (by decide)]; first | exact htx | assumption | omega)) (by first | omega | assumption | (rw [hgr (42, 3, 0) (by decide)]; first | assumption | omega)) (by first | omega | (simp only [Int32.toInt_toInt64]; omega) | decide | assumption) (by first | omega | assumption | (rw [hgr (49, 22, 0) (by decide), hgr (50, 22, 0) (by decide)]; first | assumption | omega))) rfl rfl ⟨Nat.le_of_ble_eq_true rfl, Nat.le_of_ble_eq_true rfl⟩ rfl hl.1 rfl (Nat.le_of_ble_eq_true rfl) dX12_moved_41 ⟨Nat.le_of_ble_eq_true rfl, Nat.le_of_ble_eq_true rfl⟩) (fun r_39 f_40 Γ_42 H locs hw_38 hP hI hc_41 hcg_43 hS => ?_)
      have hD : va_D A (va_pl L f_40) := tp_D hL hAL
      have hfr := tp_fr2 hfr hc_41 (by decide)
      have hgr : ∀ κ : tk_K, κ.1 ∉ ([39, 58, 57, 60, 61, 62, 63, 59] : List Nat) → Γ_42 κ = Γ κ := tg_fr2 hgr hcg_43 (by decide)
      have hw_38 : Γ_42 (39, 0, 0) 0 = Γ_27 (39, 0, 0) 0 ∧ (Γ_42 (39, 0, 0) 15 = 0 ∨ Γ_42 (39, 0, 0) 15 = 1) := hw_38
      have hpo9 : Γ_42 (39, 0, 0) 0 = Γ (39, 0, 0) 0 := (by omega)
      exact W.lret (v := r_39) hx hb hr (fun t ht hW => ⟨⟨_, (f_40, Γ_42), rfl, hpo9, by rw [ht]; exact hP, hI, hfr, hgr⟩, hS.F ht⟩) hS.2.2 dX12_moved_44
    · have c_22 := hw_20.f c_22
      refine lv_ldc2 (v := (-2000000000)) hx hb hown (hta _ wk_990) dX12_moved_28 ?_
      have hpo9 : Γ (39, 0, 0) 0 = Γ (39, 0, 0) 0 := (by omega)
      exact W.lret (v := (-2000000000)) hx hb hr (fun t ht hW => ⟨⟨_, (f, Γ), rfl, hpo9, by rw [ht]; exact hP, hI, hfr, hgr⟩, hS.F ht⟩) hS.2.2 dX12_moved_31
set_option maxHeartbeats 4000000 in
set_option maxRecDepth 100000 in
theorem r_X12_bent (l : Launch) (D : va_G) (cy : Nat → ClassId) (sz : Nat) (L : List Nat) (K : Nat → tk_K) (Γ : tk_G) (f : Nat → va_E) (o : Nat) (p0 : Int32) (p1 : Int32) (p2 : Int32) (ho : tp_r L K 39 (0) 0 o) (htx : tx_ok (Γ (43, 8800, 0)) (Γ (45, 1056, 0)) (Γ (46, 22, 0)) (Γ (47, 6, 0)) (Γ (48, 22, 0)) (Γ (49, 22, 0)) (Γ (50, 22, 0)) (Γ (51, 22, 0)) (Γ (42, 3, 0))) (hsd : ts_said (Γ (40, 7666, 0)) (Γ (42, 3, 0) 1)) : Met l yX12_bent (tl_w yX12_bent cX12_bent 4 (some .long)) ({ frames := 5, cells := 0, slots := 0, locals := 132 }) (va_Pc [.ref o, .int p0, .int p1, .int p2] (tp_P D cy L K Γ f sz)) (va_Ql (fun (r : Int64) (u : (Nat → va_E) × tk_G) => u.2 (39, 0, 0) 0 = Γ (39, 0, 0) 0) (tp_BG D cy L K Γ f [39, 58, 57, 60, 61, 62, 63, 59]) (tp_A L sz)) 0 0 (tp_A L sz) := by
  refine Met.ofW (cc := cX12_bent) (maxL := 4) (ret := (some .long)) (by decide) rfl ?_
  intro p e s m args below meth c s₁ B hml hv
  obtain ⟨rfl, hsz, hP, hK, hL, hI, hN, hU⟩ := hv
  have hx := B.exec
  have hb := B.bytes
  have hr := B.returns
  have hta := tl_hta (atoms_spec (ws := tl_w yX12_bent cX12_bent 4 (some .long)) B.pre)
  have hown : s.vm.findClass RX12 = some m.cls := findClass_of_methodNamed B.named
  have hlocks := B.notSynchronized
  subst hsz
  have hI0 := hI
  generalize hAe : tp_A L s.heap.size = A
  have hA : ∀ q : Nat, s.heap.size ≤ q → A q := fun q h => by rw [← hAe]; exact Or.inr h
  have hAL : ∀ q ∈ L, A q := fun q h => by rw [← hAe]; exact Or.inl h
  have hAf : ∀ (H : Heap), s.heap.size ≤ H.size → ∀ q, tp_A L H.size q → A q := fun H h q hq => hq.elim (hAL q) (fun h2 => hA q (Nat.le_trans h h2))
  have hS : va_S A s.heap s.heap [] := va_S.rf
  have hD : va_D A (va_pl L f) := tp_D hL hAL
  have hfr : ∀ b, (K b).1 ∉ ([39, 58, 57, 60, 61, 62, 63, 59] : List Nat) → f b = f b := fun _ _ => rfl
  have hgr : ∀ κ : tk_K, κ.1 ∉ ([39, 58, 57, 60, 61, 62, 63, 59] : List Nat) → Γ κ = Γ κ := fun _ _ => rfl
  have hl := lv_entry ([.ref o, .int p0, .int p1, .int p2]) (n := 4) (Nat.le_of_ble_eq_true rfl)
  rw [lg_entry_eq]
  generalize (lg_sl ([.ref o, .int p0, .int p1, .int p2]) ++ List.replicate (4 - (lg_sl ([.ref o, .int p0, .int p1, .int p2])).length) Slot.unset).toArray = ls at hl ⊢
  have hl : lv_has ls 4 [(0, .ref o), (1, .int p0), (2, .int p1), (3, .int p2)] := hl
  have hs := ts_hs hsd
  have hraw := ts_raw hsd
  have hslp := ts_slp hsd
  have htb := htx.1
  refine lv_aload_n hx hb dX12_bent_0 rfl (lv_at hl 0 rfl) ?_
  refine lv_iload_n hx hb dX12_bent_1 rfl (lv_at hl 1 rfl) ?_
  refine lv_iload_n hx hb dX12_bent_2 rfl (lv_at hl 2 rfl) ?_
  obtain ⟨r_2, v_3, q_4, hf_1, hr_5, hv_6⟩ := (show tp_o_M L K 0 0 (Γ (39, 0, 0)) (f o) from hI.at ho)
  have hx_7 : (v_3 0).toInt = Γ (39, 0, 0) 0 := hv_6 0 (by decide)
  have hx_8 : (v_3 10).toInt = Γ (39, 0, 0) 10 := hv_6 10 (by decide)
  have hx_9 : (v_3 11).toInt = Γ (39, 0, 0) 11 := hv_6 11 (by decide)
  have hx_10 : (v_3 12).toInt = Γ (39, 0, 0) 12 := hv_6 12 (by decide)
  have hx_11 : (v_3 13).toInt = Γ (39, 0, 0) 13 := hv_6 13 (by decide)
  have hx_12 : (v_3 14).toInt = Γ (39, 0, 0) 14 := hv_6 14 (by decide)
  have hx_13 : (v_3 15).toInt = Γ (39, 0, 0) 15 := hv_6 15 (by decide)
  refine tl_si (tq_rV (As := [.int p0, .int p1]) (rest := []) ⟨hx, hb, hml, hown, hta⟩ (tp_P.pre hK hN hL hU hI hP) (tp_recv hK hP ho.1 hf_1 rfl) lk_X12_447 (r_X12_canAsk l D cy s.heap.size L K Γ f o p0 p1 ho) rfl rfl ⟨Nat.le_of_ble_eq_true rfl, Nat.le_of_ble_eq_true rfl⟩ rfl hl.1 rfl (Nat.le_of_ble_eq_true rfl) dX12_bent_3 ⟨Nat.le_of_ble_eq_true rfl, Nat.le_of_ble_eq_true rfl⟩) (fun r_15 hw_14 => ?_)
  have hw_14 : tl_E r_15 ((0 ≤ p0.toInt ∧ p0.toInt < Γ (42, 3, 0) 1) ∧ 0 ≤ p1.toInt ∧ p1.toInt < Γ (40, 7666, 0) 1) 1 0 := hw_14
  refine lv_if_eq (tgt := 21) hx hb dX12_bent_6 (by decide) (fun c_16 => ?_) (fun c_16 => ?_)
  · have c_16 := hw_14.f c_16
    refine lv_ldc2 (v := (-2000000000)) hx hb hown (hta _ wk_990) dX12_bent_21 ?_
    have hpo9 : Γ (39, 0, 0) 0 = Γ (39, 0, 0) 0 := (by omega)
    exact W.lret (v := (-2000000000)) hx hb hr (fun t ht hW => ⟨⟨_, (f, Γ), rfl, hpo9, by rw [ht]; exact hP, hI, hfr, hgr⟩, hS.F ht⟩) hS.2.2 dX12_bent_24
  · have c_16 := hw_14.t c_16
    refine lv_iload_n hx hb dX12_bent_9 rfl (lv_at hl 3 rfl) ?_
    refine lv_i2l (v := p2.toInt64) hx hb dX12_bent_10 (by first | rfl | decide) ?_
    refine lv_lconst (v := 0) hx hb dX12_bent_11 (by decide) ?_
    refine lv_ldc2 (v := 40) hx hb hown (hta _ wk_1048) dX12_bent_12 ?_
    refine tl_si (tq_rS (As := [.long p2.toInt64, .long 0, .long 40]) (rest := []) ⟨hx, hb, hml, hown, hta⟩ (tp_P.pre hK hN hL hU hI hP) lk_X12_112 (r_X12_in l D cy s.heap.size L K Γ f p2.toInt64 0 40 ) rfl rfl ⟨Nat.le_of_ble_eq_true rfl, Nat.le_of_ble_eq_true rfl⟩ rfl hl.1 rfl (Nat.le_of_ble_eq_true rfl) dX12_bent_15 ⟨Nat.le_of_ble_eq_true rfl, Nat.le_of_ble_eq_true rfl⟩) (fun r_18 hw_17 => ?_)
    simp only [Int32.toInt_toInt64] at hw_17
    have hw_17 : tl_E r_18 ((0 : Int) ≤ p2.toInt ∧ p2.toInt ≤ (40 : Int)) 1 0 := hw_17
    refine lv_if_ne (tgt := 25) hx hb dX12_bent_18 (by decide) (fun c_19 => ?_) (fun c_19 => ?_)
    · have c_19 := hw_17.t c_19
      obtain ⟨hnc, htst, _, _, hbd, hgp, hwi⟩ := htx.2 (6 + p0.toInt) (by omega)
      refine lv_aload_n hx hb dX12_bent_25 rfl (lv_at hl 0 rfl) ?_
      refine lv_iload_n hx hb dX12_bent_26 rfl (lv_at hl 2 rfl) ?_
      refine tq_cvR hS (hAf _ hS.1) (tq_rV (As := [.int p1]) (rest := []) ⟨hx, hb, hml, hown, hta⟩ (tp_P.pre hK hN hL hU hI hP) (tp_recv hK hP ho.1 hf_1 rfl) lk_X12_441 (r_X12_lifts l D cy s.heap.size L K Γ f o p1 ho (by first | omega | (simp only [Int32.toInt_toInt64]; omega) | decide | assumption) (by first | omega | (simp only [Int32.toInt_toInt64]; omega) | decide | assumption) (by first | omega | (simp only [Int32.toInt_toInt64]; omega) | decide | assumption) (by first | omega | (simp only [Int32.toInt_toInt64]; omega) | decide | assumption)) rfl rfl ⟨Nat.le_of_ble_eq_true rfl, Nat.le_of_ble_eq_true rfl⟩ rfl hl.1 rfl (Nat.le_of_ble_eq_true rfl) dX12_bent_27 ⟨Nat.le_of_ble_eq_true rfl, Nat.le_of_ble_eq_true rfl⟩) (fun f_22 Γ_24 H locs hw_20 hP hI hc_23 hcg_25 hS => ?_)
      have hD : va_D A (va_pl L f_22) := tp_D hL hAL
      have hfr := tp_fr2 hfr hc_23 (by decide)
      have hgr : ∀ κ : tk_K, κ.1 ∉ ([39, 58, 57, 60, 61, 62, 63, 59] : List Nat) → Γ_24 κ = Γ κ := tg_fr2 hgr hcg_25 (by decide)
      have hf_26 := (tp_un hc_23 ho (by decide)).trans hf_1
      have hv_27 : ∀ i : Nat, i < 16 → (v_3 i).toInt = Γ_24 (39, 0, 0) i := fun i hi => by rw [hcg_25 _ (by decide)]; exact hv_6 i hi
      have hx_28 : (v_3 0).toInt = Γ_24 (39, 0, 0) 0 := hv_27 0 (by decide)
      have hx_29 : (v_3 10).toInt = Γ_24 (39, 0, 0) 10 := hv_27 10 (by decide)
      have hx_30 : (v_3 11).toInt = Γ_24 (39, 0, 0) 11 := hv_27 11 (by decide)
      have hx_31 : (v_3 12).toInt = Γ_24 (39, 0, 0) 12 := hv_27 12 (by decide)
      have hx_32 : (v_3 13).toInt = Γ_24 (39, 0, 0) 13 := hv_27 13 (by decide)
      have hx_33 : (v_3 14).toInt = Γ_24 (39, 0, 0) 14 := hv_27 14 (by decide)
      have hx_34 : (v_3 15).toInt = Γ_24 (39, 0, 0) 15 := hv_27 15 (by decide)
      have mk_24_0 : Γ_24 (39, 0, 0) 0 = Γ (39, 0, 0) 0 := congrFun (hcg_25 (39, 0, 0) (by decide)) 0
      have mk_24_10 : Γ_24 (39, 0, 0) 10 = Γ (39, 0, 0) 10 := congrFun (hcg_25 (39, 0, 0) (by decide)) 10
      have mk_24_11 : Γ_24 (39, 0, 0) 11 = Γ (39, 0, 0) 11 := congrFun (hcg_25 (39, 0, 0) (by decide)) 11
      have mk_24_12 : Γ_24 (39, 0, 0) 12 = Γ (39, 0, 0) 12 := congrFun (hcg_25 (39, 0, 0) (by decide)) 12
      have mk_24_13 : Γ_24 (39, 0, 0) 13 = Γ (39, 0, 0) 13 := congrFun (hcg_25 (39, 0, 0) (by decide)) 13
      have mk_24_14 : Γ_24 (39, 0, 0) 14 = Γ (39, 0, 0) 14 := congrFun (hcg_25 (39, 0, 0) (by decide)) 14
      have mk_24_15 : Γ_24 (39, 0, 0) 15 = Γ (39, 0, 0) 15 := congrFun (hcg_25 (39, 0, 0) (by decide)) 15
      have hw_20 : ∀ j : Nat, j < 300 → (Γ_24 (59, 300, 0) j = -1000000 ∨ (-500000 ≤ Γ_24 (59, 300, 0) j ∧ Γ_24 (59, 300, 0) j ≤ 500000)) := hw_20
      refine lv_aload_n hx hb dX12_bent_30 rfl (lv_at hl 0 rfl) ?_
      refine lv_iload_n hx hb dX12_bent_31 rfl (lv_at hl 1 rfl) ?_
      refine lv_iload_n hx hb dX12_bent_32 rfl (lv_at hl 2 rfl) ?_
      refine lv_aload_n hx hb dX12_bent_33 rfl (lv_at hl 0 rfl) ?_
      refine tp_get (cy := cy) (ci := 12) (v := .ref (r_2 13)) (C := RX12) (T := TX12) (N := 49) hx hb hta inlX12 hown hK hP ho.1 hf_26 rfl 14 (by decide) (hta _ wk_163) (fun _ h9 => h9) rfl dX12_bent_34 ?_
      refine lv_bipush (v := 6) hx hb dX12_bent_37 (by decide) ?_
      refine lv_iload_n hx hb dX12_bent_39 rfl (lv_at hl 1 rfl) ?_
      refine lv_iadd hx hb dX12_bent_40 ?_
      refine lv_topi (fun z_35 ez_35 => ?_)
      try have iz_35 : z_35.toInt = (6 : Int) + p0.toInt := by rw [ez_35]; exact tl_addN 6 p0 rfl rfl (by omega) (by omega)
      obtain ⟨g_37, hf_36, hg_38⟩ := (show tp_gi cy (22) (Γ (49, 22, 0)) (f (r_2 13)) from hI0.at (show tp_r L K 49 22 0 (r_2 13) from hr_5 13 (by decide)))
      have hn_39 : vp_in z_35 (22) := tl_in (by omega) (by omega)
      refine tp_iald (cy := cy) hx hb hK hP (show tp_r L K 49 22 0 (r_2 13) from hr_5 13 (by decide)).1 ((tp_un hfr (show tp_r L K 49 22 0 (r_2 13) from hr_5 13 (by decide)) (by decide)).trans hf_36) hn_39 dX12_bent_41 ?_
      refine lv_topi (fun z_40 ez_40 => ?_)
      have iz_40 : z_40.toInt = Γ (49, 22, 0) z_35.toInt.toNat := by rw [ez_40]; exact hg_38 _ (tp_pin hn_39)
      have kz_40 : z_40.toInt = Γ (49, 22, 0) (6 + p0.toInt).toNat := iz_40.trans (congrArg _ (by omega))
      refine lv_aload_n hx hb dX12_bent_42 rfl (lv_at hl 0 rfl) ?_
      refine tp_get (cy := cy) (ci := 12) (v := .ref (r_2 14)) (C := RX12) (T := TX12) (N := 49) hx hb hta inlX12 hown hK hP ho.1 hf_26 rfl 15 (by decide) (hta _ wk_164) (fun _ h9 => h9) rfl dX12_bent_43 ?_
      refine lv_bipush (v := 6) hx hb dX12_bent_46 (by decide) ?_
      refine lv_iload_n hx hb dX12_bent_48 rfl (lv_at hl 1 rfl) ?_
      refine lv_iadd hx hb dX12_bent_49 ?_
      refine lv_topi (fun z_41 ez_41 => ?_)
      try have iz_41 : z_41.toInt = (6 : Int) + p0.toInt := by rw [ez_41]; exact tl_addN 6 p0 rfl rfl (by omega) (by omega)
      obtain ⟨g_43, hf_42, hg_44⟩ := (show tp_gi cy (22) (Γ (50, 22, 0)) (f (r_2 14)) from hI0.at (show tp_r L K 50 22 0 (r_2 14) from hr_5 14 (by decide)))
      have hn_45 : vp_in z_41 (22) := tl_in (by omega) (by omega)
      refine tp_iald (cy := cy) hx hb hK hP (show tp_r L K 50 22 0 (r_2 14) from hr_5 14 (by decide)).1 ((tp_un hfr (show tp_r L K 50 22 0 (r_2 14) from hr_5 14 (by decide)) (by decide)).trans hf_42) hn_45 dX12_bent_50 ?_
      refine lv_topi (fun z_46 ez_46 => ?_)
      have iz_46 : z_46.toInt = Γ (50, 22, 0) z_41.toInt.toNat := by rw [ez_46]; exact hg_44 _ (tp_pin hn_45)
      have kz_46 : z_46.toInt = Γ (50, 22, 0) (6 + p0.toInt).toNat := iz_46.trans (congrArg _ (by omega))
      refine lv_iload_n hx hb dX12_bent_51 rfl (lv_at hl 3 rfl) ?_
      refine tq_clR hS (hAf _ hS.1) (tq_rV (As := [.int p0, .int p1, .int z_40, .int z_46, .int p2]) (rest := []) ⟨hx, hb, hml, hown, hta⟩ (tp_P.pre hK hN hL hU hI hP) (tp_recv hK hP ho.1 hf_26 rfl) lk_X12_437 (r_X12_scoreNow l D cy H.size L K Γ_24 f_22 o p0 p1 z_40 z_46 p2 (6 + p0.toInt) ho (by first | omega | (simp only [Int32.toInt_toInt64]; omega) | decide | assumption) (by first | omega | assumption | (rw [hgr (46, 22, 0) (by decide)]; first | assumption | omega)) (by first | omega | assumption | (rw [hgr (43, 8800, 0) (by decide), hgr (45, 1056, 0) (by decide), hgr (46, 22, 0) (by decide)]; first | assumption | omega)) (by first | omega | assumption | (rw [hgr (51, 22, 0) (by decide)]; first | assumption | omega)) (by first | omega | (simp only [Int32.toInt_toInt64]; omega) | decide | assumption) (by first | omega | (simp only [Int32.toInt_toInt64]; omega) | decide | assumption) (by first | omega | (simp only [Int32.toInt_toInt64]; omega) | decide | assumption)) rfl rfl ⟨Nat.le_of_ble_eq_true rfl, Nat.le_of_ble_eq_true rfl⟩ rfl hl.1 rfl (Nat.le_of_ble_eq_true rfl) dX12_bent_52 ⟨Nat.le_of_ble_eq_true rfl, Nat.le_of_ble_eq_true rfl⟩) (fun r_48 f_49 Γ_51 H locs hw_47 hP hI hc_50 hcg_52 hS => ?_)
      have hD : va_D A (va_pl L f_49) := tp_D hL hAL
      have hfr := tp_fr2 hfr hc_50 (by decide)
      have hgr : ∀ κ : tk_K, κ.1 ∉ ([39, 58, 57, 60, 61, 62, 63, 59] : List Nat) → Γ_51 κ = Γ κ := tg_fr2 hgr hcg_52 (by decide)
      have hw_47 : Γ_51 (39, 0, 0) 0 = Γ_24 (39, 0, 0) 0 ∧ (gex (Γ_24 (59, 300, 0)) (z_40.toInt) (z_46.toInt + 1) → 0 < Γ_24 (39, 0, 0) 14 → 0 < Γ_51 (39, 0, 0) 14) ∧ (Γ_51 (39, 0, 0) 11 = z_40.toInt ∧ Γ_51 (39, 0, 0) 12 = z_46.toInt) ∧ (Γ_51 (39, 0, 0) 15 = 0 ∨ Γ_51 (39, 0, 0) 15 = 1) ∧ (0 ≤ Γ_51 (39, 0, 0) 13 ∧ Γ_51 (39, 0, 0) 13 ≤ 42) ∧ (0 < Γ_51 (39, 0, 0) 13 → 0 < Γ_51 (39, 0, 0) 10) ∧ (Γ_51 (39, 0, 0) 15 = 1 → 0 < Γ_51 (39, 0, 0) 13 ∧ 0 < Γ_51 (39, 0, 0) 14) ∧ (Γ_51 (39, 0, 0) 15 = 1 → gex (Γ_24 (59, 300, 0)) (z_40.toInt) (z_46.toInt + 1)) ∧ (∀ j : Nat, (j : Int) < Γ_51 (39, 0, 0) 13 → 0 ≤ Γ_51 (61, 42, 0) j ∧ Γ_51 (61, 42, 0) j ≤ 299) ∧ (∀ j : Nat, (j : Int) + 1 < Γ_51 (39, 0, 0) 13 → Γ_51 (61, 42, 0) j < Γ_51 (61, 42, 0) (j + 1)) := hw_47
      have hpo9 : Γ_51 (39, 0, 0) 0 = Γ (39, 0, 0) 0 := (by omega)
      exact W.lret (v := r_48) hx hb hr (fun t ht hW => ⟨⟨_, (f_49, Γ_51), rfl, hpo9, by rw [ht]; exact hP, hI, hfr, hgr⟩, hS.F ht⟩) hS.2.2 dX12_bent_55
    · have c_19 := hw_17.f c_19
      refine lv_ldc2 (v := (-2000000000)) hx hb hown (hta _ wk_990) dX12_bent_21 ?_
      have hpo9 : Γ (39, 0, 0) 0 = Γ (39, 0, 0) 0 := (by omega)
      exact W.lret (v := (-2000000000)) hx hb hr (fun t ht hW => ⟨⟨_, (f, Γ), rfl, hpo9, by rw [ht]; exact hP, hI, hfr, hgr⟩, hS.F ht⟩) hS.2.2 dX12_bent_24
