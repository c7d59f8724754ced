theorem dX12_amountOf_0 : decode cX12_amountOf 0 = .ok (.aload_n 0, 1) := by decide +kernel
theorem dX12_amountOf_1 : decode cX12_amountOf 1 = .ok (.getfield 425, 3) := by decide +kernel
theorem dX12_amountOf_4 : decode cX12_amountOf 4 = .ok (.ifCond .ne 7, 3) := by decide +kernel
theorem dX12_amountOf_7 : decode cX12_amountOf 7 = .ok (.ldc2_w 457, 3) := by decide +kernel
theorem dX12_amountOf_10 : decode cX12_amountOf 10 = .ok (.lreturn, 1) := by decide +kernel
theorem dX12_amountOf_11 : decode cX12_amountOf 11 = .ok (.aload_n 0, 1) := by decide +kernel
theorem dX12_amountOf_12 : decode cX12_amountOf 12 = .ok (.invokevirtual 431, 3) := by decide +kernel
theorem dX12_amountOf_15 : decode cX12_amountOf 15 = .ok (.lstore_n 2, 1) := by decide +kernel
theorem dX12_amountOf_16 : decode cX12_amountOf 16 = .ok (.lconst 0, 1) := by decide +kernel
theorem dX12_amountOf_17 : decode cX12_amountOf 17 = .ok (.lstore 4, 2) := by decide +kernel
theorem dX12_amountOf_19 : decode cX12_amountOf 19 = .ok (.aload_n 0, 1) := by decide +kernel
theorem dX12_amountOf_20 : decode cX12_amountOf 20 = .ok (.getfield 389, 3) := by decide +kernel
theorem dX12_amountOf_23 : decode cX12_amountOf 23 = .ok (.istore 6, 2) := by decide +kernel
theorem dX12_amountOf_25 : decode cX12_amountOf 25 = .ok (.iload 6, 2) := by decide +kernel
theorem dX12_amountOf_27 : decode cX12_amountOf 27 = .ok (.aload_n 0, 1) := by decide +kernel
theorem dX12_amountOf_28 : decode cX12_amountOf 28 = .ok (.getfield 392, 3) := by decide +kernel
theorem dX12_amountOf_31 : decode cX12_amountOf 31 = .ok (.if_icmp .gt 38, 3) := by decide +kernel
theorem dX12_amountOf_34 : decode cX12_amountOf 34 = .ok (.lload 4, 2) := by decide +kernel
theorem dX12_amountOf_36 : decode cX12_amountOf 36 = .ok (.aload_n 0, 1) := by decide +kernel
theorem dX12_amountOf_37 : decode cX12_amountOf 37 = .ok (.getfield 69, 3) := by decide +kernel
theorem dX12_amountOf_40 : decode cX12_amountOf 40 = .ok (.iload 6, 2) := by decide +kernel
theorem dX12_amountOf_42 : decode cX12_amountOf 42 = .ok (.iaload, 1) := by decide +kernel
theorem dX12_amountOf_43 : decode cX12_amountOf 43 = .ok (.ldc 109, 2) := by decide +kernel
theorem dX12_amountOf_45 : decode cX12_amountOf 45 = .ok (.if_icmp .ne 7, 3) := by decide +kernel
theorem dX12_amountOf_48 : decode cX12_amountOf 48 = .ok (.lconst 0, 1) := by decide +kernel
theorem dX12_amountOf_49 : decode cX12_amountOf 49 = .ok (.goto 11, 3) := by decide +kernel
theorem dX12_amountOf_52 : decode cX12_amountOf 52 = .ok (.aload_n 0, 1) := by decide +kernel
theorem dX12_amountOf_53 : decode cX12_amountOf 53 = .ok (.iload_n 1, 1) := by decide +kernel
theorem dX12_amountOf_54 : decode cX12_amountOf 54 = .ok (.iload 6, 2) := by decide +kernel
theorem dX12_amountOf_56 : decode cX12_amountOf 56 = .ok (.invokevirtual 150, 3) := by decide +kernel
theorem dX12_amountOf_59 : decode cX12_amountOf 59 = .ok (.i2l, 1) := by decide +kernel
theorem dX12_amountOf_60 : decode cX12_amountOf 60 = .ok (.ladd, 1) := by decide +kernel
theorem dX12_amountOf_61 : decode cX12_amountOf 61 = .ok (.lstore 4, 2) := by decide +kernel
theorem dX12_amountOf_63 : decode cX12_amountOf 63 = .ok (.iinc 6 1, 3) := by decide +kernel
theorem dX12_amountOf_66 : decode cX12_amountOf 66 = .ok (.goto (-41), 3) := by decide +kernel
theorem dX12_amountOf_69 : decode cX12_amountOf 69 = .ok (.lload 4, 2) := by decide +kernel
theorem dX12_amountOf_71 : decode cX12_amountOf 71 = .ok (.lconst 0, 1) := by decide +kernel
theorem dX12_amountOf_72 : decode cX12_amountOf 72 = .ok (.lcmp, 1) := by decide +kernel
theorem dX12_amountOf_73 : decode cX12_amountOf 73 = .ok (.ifCond .ne 9, 3) := by decide +kernel
theorem dX12_amountOf_76 : decode cX12_amountOf 76 = .ok (.ldc2_w 457, 3) := by decide +kernel
theorem dX12_amountOf_79 : decode cX12_amountOf 79 = .ok (.goto 27, 3) := by decide +kernel
theorem dX12_amountOf_82 : decode cX12_amountOf 82 = .ok (.lload_n 2, 1) := by decide +kernel
theorem dX12_amountOf_83 : decode cX12_amountOf 83 = .ok (.lconst 1, 1) := by decide +kernel
theorem dX12_amountOf_84 : decode cX12_amountOf 84 = .ok (.lcmp, 1) := by decide +kernel
theorem dX12_amountOf_85 : decode cX12_amountOf 85 = .ok (.ifCond .ge 7, 3) := by decide +kernel
theorem dX12_amountOf_88 : decode cX12_amountOf 88 = .ok (.lconst 0, 1) := by decide +kernel
theorem dX12_amountOf_89 : decode cX12_amountOf 89 = .ok (.goto 17, 3) := by decide +kernel
theorem dX12_amountOf_92 : decode cX12_amountOf 92 = .ok (.lload_n 2, 1) := by decide +kernel
theorem dX12_amountOf_93 : decode cX12_amountOf 93 = .ok (.aload_n 0, 1) := by decide +kernel
theorem dX12_amountOf_94 : decode cX12_amountOf 94 = .ok (.getfield 411, 3) := by decide +kernel
theorem dX12_amountOf_97 : decode cX12_amountOf 97 = .ok (.i2l, 1) := by decide +kernel
theorem dX12_amountOf_98 : decode cX12_amountOf 98 = .ok (.lmul, 1) := by decide +kernel
theorem dX12_amountOf_99 : decode cX12_amountOf 99 = .ok (.ldc2_w 148, 3) := by decide +kernel
theorem dX12_amountOf_102 : decode cX12_amountOf 102 = .ok (.lmul, 1) := by decide +kernel
theorem dX12_amountOf_103 : decode cX12_amountOf 103 = .ok (.lload 4, 2) := by decide +kernel
theorem dX12_amountOf_105 : decode cX12_amountOf 105 = .ok (.ldiv, 1) := by decide +kernel
theorem dX12_amountOf_106 : decode cX12_amountOf 106 = .ok (.lreturn, 1) := by decide +kernel
theorem wk_327 : Cond.methodLink RX12 150 yX12_depthOf ∈ tl_L := List.mem_filter.mpr ⟨lw_m7 (i := 29) rfl, rfl⟩
theorem wk_328 : Cond.instanceMethod yX12_depthOf ∈ tl_L := List.mem_filter.mpr ⟨lw_m7 (i := 31) rfl, rfl⟩
theorem wk_329 : Cond.selects RX12 yX12_depthOf yX12_depthOf ∈ tl_L := List.mem_filter.mpr ⟨lw_s7 (i := 11) (q := (yX12_depthOf, 49)) rfl, rfl⟩
theorem wk_330 : Cond.code yX12_depthOf cX12_depthOf 4 (some .int) ∈ tl_L := List.mem_filter.mpr ⟨lw_m7 (i := 32) rfl, rfl⟩
theorem lk_X12_150 : tl_kV RX12 150 RX12 yX12_depthOf cX12_depthOf 4 (some .int) 2 := ⟨wk_330, wk_327, wk_328, wk_329, wk_5, ⟨by decide +kernel, by decide +kernel, by decide +kernel⟩⟩
theorem dX12_isElse_0 : decode cX12_isElse 0 = .ok (.aload_n 0, 1) := by decide +kernel
theorem dX12_isElse_1 : decode cX12_isElse 1 = .ok (.iload_n 1, 1) := by decide +kernel
theorem dX12_isElse_2 : decode cX12_isElse 2 = .ok (.iconst 1, 1) := by decide +kernel
theorem dX12_isElse_3 : decode cX12_isElse 3 = .ok (.invokevirtual 143, 3) := by decide +kernel
theorem dX12_isElse_6 : decode cX12_isElse 6 = .ok (.istore_n 3, 1) := by decide +kernel
theorem dX12_isElse_7 : decode cX12_isElse 7 = .ok (.aload_n 0, 1) := by decide +kernel
theorem dX12_isElse_8 : decode cX12_isElse 8 = .ok (.iload_n 1, 1) := by decide +kernel
theorem dX12_isElse_9 : decode cX12_isElse 9 = .ok (.iconst 0, 1) := by decide +kernel
theorem dX12_isElse_10 : decode cX12_isElse 10 = .ok (.invokevirtual 143, 3) := by decide +kernel
theorem dX12_isElse_13 : decode cX12_isElse 13 = .ok (.iload_n 2, 1) := by decide +kernel
theorem dX12_isElse_14 : decode cX12_isElse 14 = .ok (.if_icmp .ne 34, 3) := by decide +kernel
theorem dX12_isElse_17 : decode cX12_isElse 17 = .ok (.iload_n 3, 1) := by decide +kernel
theorem dX12_isElse_18 : decode cX12_isElse 18 = .ok (.aload_n 0, 1) := by decide +kernel
theorem dX12_isElse_19 : decode cX12_isElse 19 = .ok (.getfield 389, 3) := by decide +kernel
theorem dX12_isElse_22 : decode cX12_isElse 22 = .ok (.if_icmp .lt 11, 3) := by decide +kernel
theorem dX12_isElse_25 : decode cX12_isElse 25 = .ok (.iload_n 3, 1) := by decide +kernel
theorem dX12_isElse_26 : decode cX12_isElse 26 = .ok (.aload_n 0, 1) := by decide +kernel
theorem dX12_isElse_27 : decode cX12_isElse 27 = .ok (.getfield 392, 3) := by decide +kernel
theorem dX12_isElse_30 : decode cX12_isElse 30 = .ok (.if_icmp .le 18, 3) := by decide +kernel
theorem dX12_isElse_33 : decode cX12_isElse 33 = .ok (.aload_n 0, 1) := by decide +kernel
theorem dX12_isElse_34 : decode cX12_isElse 34 = .ok (.getfield 69, 3) := by decide +kernel
theorem dX12_isElse_37 : decode cX12_isElse 37 = .ok (.iload_n 3, 1) := by decide +kernel
theorem dX12_isElse_38 : decode cX12_isElse 38 = .ok (.iaload, 1) := by decide +kernel
theorem dX12_isElse_39 : decode cX12_isElse 39 = .ok (.ldc 109, 2) := by decide +kernel
theorem dX12_isElse_41 : decode cX12_isElse 41 = .ok (.if_icmp .eq 7, 3) := by decide +kernel
theorem dX12_isElse_44 : decode cX12_isElse 44 = .ok (.iconst 1, 1) := by decide +kernel
theorem dX12_isElse_45 : decode cX12_isElse 45 = .ok (.goto 4, 3) := by decide +kernel
theorem dX12_isElse_48 : decode cX12_isElse 48 = .ok (.iconst 0, 1) := by decide +kernel
theorem dX12_isElse_49 : decode cX12_isElse 49 = .ok (.ireturn, 1) := by decide +kernel
theorem dX12_elses_0 : decode cX12_elses 0 = .ok (.iconst 0, 1) := by decide +kernel
theorem dX12_elses_1 : decode cX12_elses 1 = .ok (.istore_n 2, 1) := by decide +kernel
theorem dX12_elses_2 : decode cX12_elses 2 = .ok (.iconst 0, 1) := by decide +kernel
theorem dX12_elses_3 : decode cX12_elses 3 = .ok (.istore_n 3, 1) := by decide +kernel
theorem dX12_elses_4 : decode cX12_elses 4 = .ok (.iload_n 3, 1) := by decide +kernel
theorem dX12_elses_5 : decode cX12_elses 5 = .ok (.aload_n 0, 1) := by decide +kernel
theorem dX12_elses_6 : decode cX12_elses 6 = .ok (.getfield 7, 3) := by decide +kernel
theorem dX12_elses_9 : decode cX12_elses 9 = .ok (.iconst 3, 1) := by decide +kernel
theorem dX12_elses_10 : decode cX12_elses 10 = .ok (.iaload, 1) := by decide +kernel
theorem dX12_elses_11 : decode cX12_elses 11 = .ok (.if_icmp .ge 26, 3) := by decide +kernel
theorem dX12_elses_14 : decode cX12_elses 14 = .ok (.iload_n 2, 1) := by decide +kernel
theorem dX12_elses_15 : decode cX12_elses 15 = .ok (.aload_n 0, 1) := by decide +kernel
theorem dX12_elses_16 : decode cX12_elses 16 = .ok (.iload_n 3, 1) := by decide +kernel
theorem dX12_elses_17 : decode cX12_elses 17 = .ok (.iload_n 1, 1) := by decide +kernel
theorem dX12_elses_18 : decode cX12_elses 18 = .ok (.invokevirtual 477, 3) := by decide +kernel
theorem dX12_elses_21 : decode cX12_elses 21 = .ok (.ifCond .eq 7, 3) := by decide +kernel
theorem dX12_elses_24 : decode cX12_elses 24 = .ok (.iconst 1, 1) := by decide +kernel
theorem dX12_elses_25 : decode cX12_elses 25 = .ok (.goto 4, 3) := by decide +kernel
theorem dX12_elses_28 : decode cX12_elses 28 = .ok (.iconst 0, 1) := by decide +kernel
theorem dX12_elses_29 : decode cX12_elses 29 = .ok (.iadd, 1) := by decide +kernel
theorem dX12_elses_30 : decode cX12_elses 30 = .ok (.istore_n 2, 1) := by decide +kernel
theorem dX12_elses_31 : decode cX12_elses 31 = .ok (.iinc 3 1, 3) := by decide +kernel
theorem dX12_elses_34 : decode cX12_elses 34 = .ok (.goto (-30), 3) := by decide +kernel
theorem dX12_elses_37 : decode cX12_elses 37 = .ok (.iload_n 2, 1) := by decide +kernel
theorem dX12_elses_38 : decode cX12_elses 38 = .ok (.ireturn, 1) := by decide +kernel
theorem wk_1133 : Cond.methodLink RX12 477 yX12_isElse ∈ tl_L := List.mem_filter.mpr ⟨lw_m8 (i := 120) rfl, rfl⟩
theorem wk_1134 : Cond.instanceMethod yX12_isElse ∈ tl_L := List.mem_filter.mpr ⟨lw_m8 (i := 122) rfl, rfl⟩
theorem wk_1135 : Cond.selects RX12 yX12_isElse yX12_isElse ∈ tl_L := List.mem_filter.mpr ⟨lw_s11 (i := 0) (q := (yX12_isElse, 49)) rfl, rfl⟩
theorem wk_1136 : Cond.code yX12_isElse cX12_isElse 4 (some .boolean) ∈ tl_L := List.mem_filter.mpr ⟨lw_m8 (i := 123) rfl, rfl⟩
theorem lk_X12_477 : tl_kV RX12 477 RX12 yX12_isElse cX12_isElse 4 (some .boolean) 2 := ⟨wk_1136, wk_1133, wk_1134, wk_1135, wk_5, ⟨by decide +kernel, by decide +kernel, by decide +kernel⟩⟩
theorem dX12_theres_0 : decode cX12_theres 0 = .ok (.aload_n 0, 1) := by decide +kernel
theorem dX12_theres_1 : decode cX12_theres 1 = .ok (.iload_n 1, 1) := by decide +kernel
theorem dX12_theres_2 : decode cX12_theres 2 = .ok (.invokevirtual 480, 3) := by decide +kernel
theorem dX12_theres_5 : decode cX12_theres 5 = .ok (.lstore_n 2, 1) := by decide +kernel
theorem dX12_theres_6 : decode cX12_theres 6 = .ok (.iconst 0, 1) := by decide +kernel
theorem dX12_theres_7 : decode cX12_theres 7 = .ok (.istore 4, 2) := by decide +kernel
theorem dX12_theres_9 : decode cX12_theres 9 = .ok (.iconst 0, 1) := by decide +kernel
theorem dX12_theres_10 : decode cX12_theres 10 = .ok (.istore 5, 2) := by decide +kernel
theorem dX12_theres_12 : decode cX12_theres 12 = .ok (.iload 5, 2) := by decide +kernel
theorem dX12_theres_14 : decode cX12_theres 14 = .ok (.aload_n 0, 1) := by decide +kernel
theorem dX12_theres_15 : decode cX12_theres 15 = .ok (.getfield 7, 3) := by decide +kernel
theorem dX12_theres_18 : decode cX12_theres 18 = .ok (.iconst 3, 1) := by decide +kernel
theorem dX12_theres_19 : decode cX12_theres 19 = .ok (.iaload, 1) := by decide +kernel
theorem dX12_theres_20 : decode cX12_theres 20 = .ok (.if_icmp .ge 69, 3) := by decide +kernel
theorem dX12_theres_23 : decode cX12_theres 23 = .ok (.lload_n 2, 1) := by decide +kernel
theorem dX12_theres_24 : decode cX12_theres 24 = .ok (.lconst 0, 1) := by decide +kernel
theorem dX12_theres_25 : decode cX12_theres 25 = .ok (.lcmp, 1) := by decide +kernel
theorem dX12_theres_26 : decode cX12_theres 26 = .ok (.ifCond .lt 63, 3) := by decide +kernel
theorem dX12_theres_29 : decode cX12_theres 29 = .ok (.iload 4, 2) := by decide +kernel
theorem dX12_theres_31 : decode cX12_theres 31 = .ok (.aload_n 0, 1) := by decide +kernel
theorem dX12_theres_32 : decode cX12_theres 32 = .ok (.iload 5, 2) := by decide +kernel
theorem dX12_theres_34 : decode cX12_theres 34 = .ok (.iload_n 1, 1) := by decide +kernel
theorem dX12_theres_35 : decode cX12_theres 35 = .ok (.invokevirtual 477, 3) := by decide +kernel
theorem dX12_theres_38 : decode cX12_theres 38 = .ok (.ifCond .eq 41, 3) := by decide +kernel
theorem dX12_theres_41 : decode cX12_theres 41 = .ok (.ldc2_w 483, 3) := by decide +kernel
theorem dX12_theres_44 : decode cX12_theres 44 = .ok (.aload_n 0, 1) := by decide +kernel
theorem dX12_theres_45 : decode cX12_theres 45 = .ok (.getfield 82, 3) := by decide +kernel
theorem dX12_theres_48 : decode cX12_theres 48 = .ok (.aload_n 0, 1) := by decide +kernel
theorem dX12_theres_49 : decode cX12_theres 49 = .ok (.iload 5, 2) := by decide +kernel
theorem dX12_theres_51 : decode cX12_theres 51 = .ok (.iconst 1, 1) := by decide +kernel
theorem dX12_theres_52 : decode cX12_theres 52 = .ok (.invokevirtual 143, 3) := by decide +kernel
theorem dX12_theres_55 : decode cX12_theres 55 = .ok (.laload, 1) := by decide +kernel
theorem dX12_theres_56 : decode cX12_theres 56 = .ok (.lmul, 1) := by decide +kernel
theorem dX12_theres_57 : decode cX12_theres 57 = .ok (.lload_n 2, 1) := by decide +kernel
theorem dX12_theres_58 : decode cX12_theres 58 = .ok (.aload_n 0, 1) := by decide +kernel
theorem dX12_theres_59 : decode cX12_theres 59 = .ok (.iload 5, 2) := by decide +kernel
theorem dX12_theres_61 : decode cX12_theres 61 = .ok (.iconst 2, 1) := by decide +kernel
theorem dX12_theres_62 : decode cX12_theres 62 = .ok (.invokevirtual 143, 3) := by decide +kernel
theorem dX12_theres_65 : decode cX12_theres 65 = .ok (.i2l, 1) := by decide +kernel
theorem dX12_theres_66 : decode cX12_theres 66 = .ok (.lmul, 1) := by decide +kernel
theorem dX12_theres_67 : decode cX12_theres 67 = .ok (.ldc2_w 148, 3) := by decide +kernel
theorem dX12_theres_70 : decode cX12_theres 70 = .ok (.ldiv, 1) := by decide +kernel
theorem dX12_theres_71 : decode cX12_theres 71 = .ok (.lcmp, 1) := by decide +kernel
theorem dX12_theres_72 : decode cX12_theres 72 = .ok (.ifCond .lt 7, 3) := by decide +kernel
theorem dX12_theres_75 : decode cX12_theres 75 = .ok (.iconst 1, 1) := by decide +kernel
theorem dX12_theres_76 : decode cX12_theres 76 = .ok (.goto 4, 3) := by decide +kernel
theorem dX12_theres_79 : decode cX12_theres 79 = .ok (.iconst 0, 1) := by decide +kernel
theorem dX12_theres_80 : decode cX12_theres 80 = .ok (.iadd, 1) := by decide +kernel
theorem dX12_theres_81 : decode cX12_theres 81 = .ok (.istore 4, 2) := by decide +kernel
theorem dX12_theres_83 : decode cX12_theres 83 = .ok (.iinc 5 1, 3) := by decide +kernel
theorem dX12_theres_86 : decode cX12_theres 86 = .ok (.goto (-74), 3) := by decide +kernel
theorem dX12_theres_89 : decode cX12_theres 89 = .ok (.iload 4, 2) := by decide +kernel
theorem dX12_theres_91 : decode cX12_theres 91 = .ok (.ireturn, 1) := by decide +kernel
theorem wk_1124 : Cond.constantLong RX12 483 (-2) ∈ tl_L := List.mem_filter.mpr ⟨lw_m8 (i := 111) rfl, rfl⟩
theorem wk_1125 : Cond.methodLink RX12 480 yX12_amountOf ∈ tl_L := List.mem_filter.mpr ⟨lw_m8 (i := 112) rfl, rfl⟩
theorem wk_1126 : Cond.instanceMethod yX12_amountOf ∈ tl_L := List.mem_filter.mpr ⟨lw_m8 (i := 114) rfl, rfl⟩
theorem wk_1127 : Cond.selects RX12 yX12_amountOf yX12_amountOf ∈ tl_L := List.mem_filter.mpr ⟨lw_s10 (i := 14) (q := (yX12_amountOf, 49)) rfl, rfl⟩
theorem wk_1128 : Cond.code yX12_amountOf cX12_amountOf 7 (some .long) ∈ tl_L := List.mem_filter.mpr ⟨lw_m8 (i := 115) rfl, rfl⟩
theorem lk_X12_480 : tl_kV RX12 480 RX12 yX12_amountOf cX12_amountOf 7 (some .long) 1 := ⟨wk_1128, wk_1125, wk_1126, wk_1127, wk_5, ⟨by decide +kernel, by decide +kernel, by decide +kernel⟩⟩
theorem dX12_boundOf_0 : decode cX12_boundOf 0 = .ok (.ldc2_w 457, 3) := by decide +kernel
theorem dX12_boundOf_3 : decode cX12_boundOf 3 = .ok (.lstore_n 2, 1) := by decide +kernel
theorem dX12_boundOf_4 : decode cX12_boundOf 4 = .ok (.iconst 0, 1) := by decide +kernel
theorem dX12_boundOf_5 : decode cX12_boundOf 5 = .ok (.istore 4, 2) := by decide +kernel
theorem dX12_boundOf_7 : decode cX12_boundOf 7 = .ok (.iload 4, 2) := by decide +kernel
theorem dX12_boundOf_9 : decode cX12_boundOf 9 = .ok (.aload_n 0, 1) := by decide +kernel
theorem dX12_boundOf_10 : decode cX12_boundOf 10 = .ok (.getfield 7, 3) := by decide +kernel
theorem dX12_boundOf_13 : decode cX12_boundOf 13 = .ok (.iconst 3, 1) := by decide +kernel
theorem dX12_boundOf_14 : decode cX12_boundOf 14 = .ok (.iaload, 1) := by decide +kernel
theorem dX12_boundOf_15 : decode cX12_boundOf 15 = .ok (.if_icmp .ge 98, 3) := by decide +kernel
theorem dX12_boundOf_18 : decode cX12_boundOf 18 = .ok (.aload_n 0, 1) := by decide +kernel
theorem dX12_boundOf_19 : decode cX12_boundOf 19 = .ok (.getfield 398, 3) := by decide +kernel
theorem dX12_boundOf_22 : decode cX12_boundOf 22 = .ok (.ifCond .le 91, 3) := by decide +kernel
theorem dX12_boundOf_25 : decode cX12_boundOf 25 = .ok (.aload_n 0, 1) := by decide +kernel
theorem dX12_boundOf_26 : decode cX12_boundOf 26 = .ok (.iload 4, 2) := by decide +kernel
theorem dX12_boundOf_28 : decode cX12_boundOf 28 = .ok (.iload_n 1, 1) := by decide +kernel
theorem dX12_boundOf_29 : decode cX12_boundOf 29 = .ok (.invokevirtual 477, 3) := by decide +kernel
theorem dX12_boundOf_32 : decode cX12_boundOf 32 = .ok (.ifCond .ne 6, 3) := by decide +kernel
theorem dX12_boundOf_35 : decode cX12_boundOf 35 = .ok (.goto 72, 3) := by decide +kernel
theorem dX12_boundOf_38 : decode cX12_boundOf 38 = .ok (.aload_n 0, 1) := by decide +kernel
theorem dX12_boundOf_39 : decode cX12_boundOf 39 = .ok (.invokevirtual 434, 3) := by decide +kernel
theorem dX12_boundOf_42 : decode cX12_boundOf 42 = .ok (.aload_n 0, 1) := by decide +kernel
theorem dX12_boundOf_43 : decode cX12_boundOf 43 = .ok (.getfield 82, 3) := by decide +kernel
theorem dX12_boundOf_46 : decode cX12_boundOf 46 = .ok (.aload_n 0, 1) := by decide +kernel
theorem dX12_boundOf_47 : decode cX12_boundOf 47 = .ok (.iload 4, 2) := by decide +kernel
theorem dX12_boundOf_49 : decode cX12_boundOf 49 = .ok (.iconst 1, 1) := by decide +kernel
theorem dX12_boundOf_50 : decode cX12_boundOf 50 = .ok (.invokevirtual 143, 3) := by decide +kernel
theorem dX12_boundOf_53 : decode cX12_boundOf 53 = .ok (.laload, 1) := by decide +kernel
theorem dX12_boundOf_54 : decode cX12_boundOf 54 = .ok (.lsub, 1) := by decide +kernel
theorem dX12_boundOf_55 : decode cX12_boundOf 55 = .ok (.ldc2_w 148, 3) := by decide +kernel
theorem dX12_boundOf_58 : decode cX12_boundOf 58 = .ok (.lmul, 1) := by decide +kernel
theorem dX12_boundOf_59 : decode cX12_boundOf 59 = .ok (.aload_n 0, 1) := by decide +kernel
theorem dX12_boundOf_60 : decode cX12_boundOf 60 = .ok (.iload 4, 2) := by decide +kernel
theorem dX12_boundOf_62 : decode cX12_boundOf 62 = .ok (.iconst 2, 1) := by decide +kernel
theorem dX12_boundOf_63 : decode cX12_boundOf 63 = .ok (.invokevirtual 143, 3) := by decide +kernel
theorem dX12_boundOf_66 : decode cX12_boundOf 66 = .ok (.i2l, 1) := by decide +kernel
theorem dX12_boundOf_67 : decode cX12_boundOf 67 = .ok (.invokestatic 401, 3) := by decide +kernel
theorem dX12_boundOf_70 : decode cX12_boundOf 70 = .ok (.lstore 5, 2) := by decide +kernel
theorem dX12_boundOf_72 : decode cX12_boundOf 72 = .ok (.lload 5, 2) := by decide +kernel
theorem dX12_boundOf_74 : decode cX12_boundOf 74 = .ok (.lconst 0, 1) := by decide +kernel
theorem dX12_boundOf_75 : decode cX12_boundOf 75 = .ok (.lcmp, 1) := by decide +kernel
theorem dX12_boundOf_76 : decode cX12_boundOf 76 = .ok (.ifCond .ge 7, 3) := by decide +kernel
theorem dX12_boundOf_79 : decode cX12_boundOf 79 = .ok (.lconst 0, 1) := by decide +kernel
theorem dX12_boundOf_80 : decode cX12_boundOf 80 = .ok (.goto 5, 3) := by decide +kernel
theorem dX12_boundOf_83 : decode cX12_boundOf 83 = .ok (.lload 5, 2) := by decide +kernel
theorem dX12_boundOf_85 : decode cX12_boundOf 85 = .ok (.lstore 5, 2) := by decide +kernel
theorem dX12_boundOf_87 : decode cX12_boundOf 87 = .ok (.lload_n 2, 1) := by decide +kernel
theorem dX12_boundOf_88 : decode cX12_boundOf 88 = .ok (.lconst 0, 1) := by decide +kernel
theorem dX12_boundOf_89 : decode cX12_boundOf 89 = .ok (.lcmp, 1) := by decide +kernel
theorem dX12_boundOf_90 : decode cX12_boundOf 90 = .ok (.ifCond .lt 10, 3) := by decide +kernel
theorem dX12_boundOf_93 : decode cX12_boundOf 93 = .ok (.lload 5, 2) := by decide +kernel
theorem dX12_boundOf_95 : decode cX12_boundOf 95 = .ok (.lload_n 2, 1) := by decide +kernel
theorem dX12_boundOf_96 : decode cX12_boundOf 96 = .ok (.lcmp, 1) := by decide +kernel
theorem dX12_boundOf_97 : decode cX12_boundOf 97 = .ok (.ifCond .ge 8, 3) := by decide +kernel
theorem dX12_boundOf_100 : decode cX12_boundOf 100 = .ok (.lload 5, 2) := by decide +kernel
theorem dX12_boundOf_102 : decode cX12_boundOf 102 = .ok (.goto 4, 3) := by decide +kernel
theorem dX12_boundOf_105 : decode cX12_boundOf 105 = .ok (.lload_n 2, 1) := by decide +kernel
theorem dX12_boundOf_106 : decode cX12_boundOf 106 = .ok (.lstore_n 2, 1) := by decide +kernel
theorem dX12_boundOf_107 : decode cX12_boundOf 107 = .ok (.iinc 4 1, 3) := by decide +kernel
theorem dX12_boundOf_110 : decode cX12_boundOf 110 = .ok (.goto (-103), 3) := by decide +kernel
theorem dX12_boundOf_113 : decode cX12_boundOf 113 = .ok (.lload_n 2, 1) := by decide +kernel
theorem dX12_boundOf_114 : decode cX12_boundOf 114 = .ok (.lreturn, 1) := by decide +kernel
theorem dX12_stuff_0 : decode cX12_stuff 0 = .ok (.aload_n 0, 1) := by decide +kernel
theorem dX12_stuff_1 : decode cX12_stuff 1 = .ok (.iload_n 1, 1) := by decide +kernel
theorem dX12_stuff_2 : decode cX12_stuff 2 = .ok (.iload_n 2, 1) := by decide +kernel
theorem dX12_stuff_3 : decode cX12_stuff 3 = .ok (.invokevirtual 447, 3) := by decide +kernel
theorem dX12_stuff_6 : decode cX12_stuff 6 = .ok (.ifCond .eq 28, 3) := by decide +kernel
theorem dX12_stuff_9 : decode cX12_stuff 9 = .ok (.iload_n 3, 1) := by decide +kernel
theorem dX12_stuff_10 : decode cX12_stuff 10 = .ok (.i2l, 1) := by decide +kernel
theorem dX12_stuff_11 : decode cX12_stuff 11 = .ok (.lconst 0, 1) := by decide +kernel
theorem dX12_stuff_12 : decode cX12_stuff 12 = .ok (.ldc2_w 146, 3) := by decide +kernel
theorem dX12_stuff_15 : decode cX12_stuff 15 = .ok (.invokestatic 112, 3) := by decide +kernel
theorem dX12_stuff_18 : decode cX12_stuff 18 = .ok (.ifCond .eq 16, 3) := by decide +kernel
theorem dX12_stuff_21 : decode cX12_stuff 21 = .ok (.iload 4, 2) := by decide +kernel
theorem dX12_stuff_23 : decode cX12_stuff 23 = .ok (.i2l, 1) := by decide +kernel
theorem dX12_stuff_24 : decode cX12_stuff 24 = .ok (.lconst 0, 1) := by decide +kernel
theorem dX12_stuff_25 : decode cX12_stuff 25 = .ok (.ldc2_w 116, 3) := by decide +kernel
theorem dX12_stuff_28 : decode cX12_stuff 28 = .ok (.invokestatic 112, 3) := by decide +kernel
theorem dX12_stuff_31 : decode cX12_stuff 31 = .ok (.ifCond .ne 7, 3) := by decide +kernel
theorem dX12_stuff_34 : decode cX12_stuff 34 = .ok (.ldc2_w 483, 3) := by decide +kernel
theorem dX12_stuff_37 : decode cX12_stuff 37 = .ok (.lreturn, 1) := by decide +kernel
theorem dX12_stuff_38 : decode cX12_stuff 38 = .ok (.aload_n 0, 1) := by decide +kernel
theorem dX12_stuff_39 : decode cX12_stuff 39 = .ok (.iload_n 1, 1) := by decide +kernel
theorem dX12_stuff_40 : decode cX12_stuff 40 = .ok (.iload_n 2, 1) := by decide +kernel
theorem dX12_stuff_41 : decode cX12_stuff 41 = .ok (.invokevirtual 450, 3) := by decide +kernel
theorem dX12_stuff_44 : decode cX12_stuff 44 = .ok (.pop2, 1) := by decide +kernel
theorem dX12_stuff_45 : decode cX12_stuff 45 = .ok (.iload 4, 2) := by decide +kernel
theorem dX12_stuff_47 : decode cX12_stuff 47 = .ok (.ifCond .ne 11, 3) := by decide +kernel
theorem dX12_stuff_50 : decode cX12_stuff 50 = .ok (.aload_n 0, 1) := by decide +kernel
theorem dX12_stuff_51 : decode cX12_stuff 51 = .ok (.iload_n 3, 1) := by decide +kernel
theorem dX12_stuff_52 : decode cX12_stuff 52 = .ok (.invokevirtual 480, 3) := by decide +kernel
theorem dX12_stuff_55 : decode cX12_stuff 55 = .ok (.goto 38, 3) := by decide +kernel
theorem dX12_stuff_58 : decode cX12_stuff 58 = .ok (.iload 4, 2) := by decide +kernel
theorem dX12_stuff_60 : decode cX12_stuff 60 = .ok (.iconst 1, 1) := by decide +kernel
theorem dX12_stuff_61 : decode cX12_stuff 61 = .ok (.if_icmp .ne 12, 3) := by decide +kernel
theorem dX12_stuff_64 : decode cX12_stuff 64 = .ok (.aload_n 0, 1) := by decide +kernel
theorem dX12_stuff_65 : decode cX12_stuff 65 = .ok (.iload_n 3, 1) := by decide +kernel
theorem dX12_stuff_66 : decode cX12_stuff 66 = .ok (.invokevirtual 485, 3) := by decide +kernel
theorem dX12_stuff_69 : decode cX12_stuff 69 = .ok (.i2l, 1) := by decide +kernel
theorem dX12_stuff_70 : decode cX12_stuff 70 = .ok (.goto 23, 3) := by decide +kernel
theorem dX12_stuff_73 : decode cX12_stuff 73 = .ok (.iload 4, 2) := by decide +kernel
theorem dX12_stuff_75 : decode cX12_stuff 75 = .ok (.iconst 2, 1) := by decide +kernel
theorem dX12_stuff_76 : decode cX12_stuff 76 = .ok (.if_icmp .ne 12, 3) := by decide +kernel
theorem dX12_stuff_79 : decode cX12_stuff 79 = .ok (.aload_n 0, 1) := by decide +kernel
theorem dX12_stuff_80 : decode cX12_stuff 80 = .ok (.iload_n 3, 1) := by decide +kernel
theorem dX12_stuff_81 : decode cX12_stuff 81 = .ok (.invokevirtual 488, 3) := by decide +kernel
theorem dX12_stuff_84 : decode cX12_stuff 84 = .ok (.i2l, 1) := by decide +kernel
theorem dX12_stuff_85 : decode cX12_stuff 85 = .ok (.goto 8, 3) := by decide +kernel
theorem dX12_stuff_88 : decode cX12_stuff 88 = .ok (.aload_n 0, 1) := by decide +kernel
theorem dX12_stuff_89 : decode cX12_stuff 89 = .ok (.iload_n 3, 1) := by decide +kernel
theorem dX12_stuff_90 : decode cX12_stuff 90 = .ok (.invokevirtual 491, 3) := by decide +kernel
theorem dX12_stuff_93 : decode cX12_stuff 93 = .ok (.lreturn, 1) := by decide +kernel
theorem wk_325 : Cond.constantLong RX12 146 (11) ∈ tl_L := List.mem_filter.mpr ⟨lw_m7 (i := 27) rfl, rfl⟩
theorem wk_1129 : Cond.methodLink RX12 485 yX12_elses ∈ tl_L := List.mem_filter.mpr ⟨lw_m8 (i := 116) rfl, rfl⟩
theorem wk_1130 : Cond.instanceMethod yX12_elses ∈ tl_L := List.mem_filter.mpr ⟨lw_m8 (i := 118) rfl, rfl⟩
theorem wk_1131 : Cond.selects RX12 yX12_elses yX12_elses ∈ tl_L := List.mem_filter.mpr ⟨lw_s10 (i := 15) (q := (yX12_elses, 49)) rfl, rfl⟩
theorem wk_1132 : Cond.code yX12_elses cX12_elses 4 (some .int) ∈ tl_L := List.mem_filter.mpr ⟨lw_m8 (i := 119) rfl, rfl⟩
theorem wk_1137 : Cond.methodLink RX12 488 yX12_theres ∈ tl_L := List.mem_filter.mpr ⟨lw_m8 (i := 124) rfl, rfl⟩
theorem wk_1138 : Cond.instanceMethod yX12_theres ∈ tl_L := List.mem_filter.mpr ⟨lw_m8 (i := 126) rfl, rfl⟩
theorem wk_1139 : Cond.selects RX12 yX12_theres yX12_theres ∈ tl_L := List.mem_filter.mpr ⟨lw_s11 (i := 1) (q := (yX12_theres, 49)) rfl, rfl⟩
theorem wk_1140 : Cond.code yX12_theres cX12_theres 6 (some .int) ∈ tl_L := List.mem_filter.mpr ⟨lw_m8 (i := 127) rfl, rfl⟩
theorem wk_1141 : Cond.methodLink RX12 491 yX12_boundOf ∈ tl_L := List.mem_filter.mpr ⟨lw_m8 (i := 128) rfl, rfl⟩
theorem wk_1142 : Cond.instanceMethod yX12_boundOf ∈ tl_L := List.mem_filter.mpr ⟨lw_m8 (i := 130) rfl, rfl⟩
theorem wk_1143 : Cond.selects RX12 yX12_boundOf yX12_boundOf ∈ tl_L := List.mem_filter.mpr ⟨lw_s11 (i := 2) (q := (yX12_boundOf, 49)) rfl, rfl⟩
theorem wk_1144 : Cond.code yX12_boundOf cX12_boundOf 7 (some .long) ∈ tl_L := List.mem_filter.mpr ⟨lw_m8 (i := 131) rfl, rfl⟩
theorem lk_X12_485 : tl_kV RX12 485 RX12 yX12_elses cX12_elses 4 (some .int) 1 := ⟨wk_1132, wk_1129, wk_1130, wk_1131, wk_5, ⟨by decide +kernel, by decide +kernel, by decide +kernel⟩⟩
theorem lk_X12_488 : tl_kV RX12 488 RX12 yX12_theres cX12_theres 6 (some .int) 1 := ⟨wk_1140, wk_1137, wk_1138, wk_1139, wk_5, ⟨by decide +kernel, by decide +kernel, by decide +kernel⟩⟩
theorem lk_X12_491 : tl_kV RX12 491 RX12 yX12_boundOf cX12_boundOf 7 (some .long) 1 := ⟨wk_1144, wk_1141, wk_1142, wk_1143, wk_5, ⟨by decide +kernel, by decide +kernel, by decide +kernel⟩⟩
theorem dX12_likeliest_0 : decode cX12_likeliest 0 = .ok (.aload_n 0, 1) := by decide +kernel
theorem dX12_likeliest_1 : decode cX12_likeliest 1 = .ok (.iload_n 1, 1) := by decide +kernel
theorem dX12_likeliest_2 : decode cX12_likeliest 2 = .ok (.iload_n 2, 1) := by decide +kernel
theorem dX12_likeliest_3 : decode cX12_likeliest 3 = .ok (.invokevirtual 447, 3) := by decide +kernel
theorem dX12_likeliest_6 : decode cX12_likeliest 6 = .ok (.ifCond .ne 5, 3) := by decide +kernel
theorem dX12_likeliest_9 : decode cX12_likeliest 9 = .ok (.iconst (-1), 1) := by decide +kernel
theorem dX12_likeliest_10 : decode cX12_likeliest 10 = .ok (.ireturn, 1) := by decide +kernel
theorem dX12_likeliest_11 : decode cX12_likeliest 11 = .ok (.aload_n 0, 1) := by decide +kernel
theorem dX12_likeliest_12 : decode cX12_likeliest 12 = .ok (.iload_n 1, 1) := by decide +kernel
theorem dX12_likeliest_13 : decode cX12_likeliest 13 = .ok (.iload_n 2, 1) := by decide +kernel
theorem dX12_likeliest_14 : decode cX12_likeliest 14 = .ok (.invokevirtual 450, 3) := by decide +kernel
theorem dX12_likeliest_17 : decode cX12_likeliest 17 = .ok (.pop2, 1) := by decide +kernel
theorem dX12_likeliest_18 : decode cX12_likeliest 18 = .ok (.bipush (-2), 2) := by decide +kernel
theorem dX12_likeliest_20 : decode cX12_likeliest 20 = .ok (.istore_n 3, 1) := by decide +kernel
theorem dX12_likeliest_21 : decode cX12_likeliest 21 = .ok (.iconst 0, 1) := by decide +kernel
theorem dX12_likeliest_22 : decode cX12_likeliest 22 = .ok (.istore 4, 2) := by decide +kernel
theorem dX12_likeliest_24 : decode cX12_likeliest 24 = .ok (.iconst 1, 1) := by decide +kernel
theorem dX12_likeliest_25 : decode cX12_likeliest 25 = .ok (.istore 5, 2) := by decide +kernel
theorem dX12_likeliest_27 : decode cX12_likeliest 27 = .ok (.iconst 0, 1) := by decide +kernel
theorem dX12_likeliest_28 : decode cX12_likeliest 28 = .ok (.istore 6, 2) := by decide +kernel
theorem dX12_likeliest_30 : decode cX12_likeliest 30 = .ok (.iload 6, 2) := by decide +kernel
theorem dX12_likeliest_32 : decode cX12_likeliest 32 = .ok (.bipush 12, 2) := by decide +kernel
theorem dX12_likeliest_34 : decode cX12_likeliest 34 = .ok (.if_icmp .ge 92, 3) := by decide +kernel
theorem dX12_likeliest_37 : decode cX12_likeliest 37 = .ok (.aload_n 0, 1) := by decide +kernel
theorem dX12_likeliest_38 : decode cX12_likeliest 38 = .ok (.iload 6, 2) := by decide +kernel
theorem dX12_likeliest_40 : decode cX12_likeliest 40 = .ok (.invokevirtual 480, 3) := by decide +kernel
theorem dX12_likeliest_43 : decode cX12_likeliest 43 = .ok (.lconst 0, 1) := by decide +kernel
theorem dX12_likeliest_44 : decode cX12_likeliest 44 = .ok (.lcmp, 1) := by decide +kernel
theorem dX12_likeliest_45 : decode cX12_likeliest 45 = .ok (.ifCond .ge 6, 3) := by decide +kernel
theorem dX12_likeliest_48 : decode cX12_likeliest 48 = .ok (.goto 72, 3) := by decide +kernel
theorem dX12_likeliest_51 : decode cX12_likeliest 51 = .ok (.aload_n 0, 1) := by decide +kernel
theorem dX12_likeliest_52 : decode cX12_likeliest 52 = .ok (.iload 6, 2) := by decide +kernel
theorem dX12_likeliest_54 : decode cX12_likeliest 54 = .ok (.invokevirtual 485, 3) := by decide +kernel
theorem dX12_likeliest_57 : decode cX12_likeliest 57 = .ok (.istore 7, 2) := by decide +kernel
theorem dX12_likeliest_59 : decode cX12_likeliest 59 = .ok (.iload 7, 2) := by decide +kernel
theorem dX12_likeliest_61 : decode cX12_likeliest 61 = .ok (.ifCond .ne 7, 3) := by decide +kernel
theorem dX12_likeliest_64 : decode cX12_likeliest 64 = .ok (.iconst 0, 1) := by decide +kernel
theorem dX12_likeliest_65 : decode cX12_likeliest 65 = .ok (.goto 9, 3) := by decide +kernel
theorem dX12_likeliest_68 : decode cX12_likeliest 68 = .ok (.aload_n 0, 1) := by decide +kernel
theorem dX12_likeliest_69 : decode cX12_likeliest 69 = .ok (.iload 6, 2) := by decide +kernel
theorem dX12_likeliest_71 : decode cX12_likeliest 71 = .ok (.invokevirtual 488, 3) := by decide +kernel
theorem dX12_likeliest_74 : decode cX12_likeliest 74 = .ok (.istore 8, 2) := by decide +kernel
theorem dX12_likeliest_76 : decode cX12_likeliest 76 = .ok (.iload 7, 2) := by decide +kernel
theorem dX12_likeliest_78 : decode cX12_likeliest 78 = .ok (.ifCond .ne 7, 3) := by decide +kernel
theorem dX12_likeliest_81 : decode cX12_likeliest 81 = .ok (.iconst 1, 1) := by decide +kernel
theorem dX12_likeliest_82 : decode cX12_likeliest 82 = .ok (.goto 5, 3) := by decide +kernel
theorem dX12_likeliest_85 : decode cX12_likeliest 85 = .ok (.iload 7, 2) := by decide +kernel
theorem dX12_likeliest_87 : decode cX12_likeliest 87 = .ok (.istore 9, 2) := by decide +kernel
theorem dX12_likeliest_89 : decode cX12_likeliest 89 = .ok (.iload_n 3, 1) := by decide +kernel
theorem dX12_likeliest_90 : decode cX12_likeliest 90 = .ok (.ifCond .lt 19, 3) := by decide +kernel
theorem dX12_likeliest_93 : decode cX12_likeliest 93 = .ok (.iload 8, 2) := by decide +kernel
theorem dX12_likeliest_95 : decode cX12_likeliest 95 = .ok (.iload 5, 2) := by decide +kernel
theorem dX12_likeliest_97 : decode cX12_likeliest 97 = .ok (.imul, 1) := by decide +kernel
theorem dX12_likeliest_98 : decode cX12_likeliest 98 = .ok (.iload 4, 2) := by decide +kernel
theorem dX12_likeliest_100 : decode cX12_likeliest 100 = .ok (.iload 9, 2) := by decide +kernel
theorem dX12_likeliest_102 : decode cX12_likeliest 102 = .ok (.imul, 1) := by decide +kernel
theorem dX12_likeliest_103 : decode cX12_likeliest 103 = .ok (.if_icmp .gt 6, 3) := by decide +kernel
theorem dX12_likeliest_106 : decode cX12_likeliest 106 = .ok (.goto 14, 3) := by decide +kernel
theorem dX12_likeliest_109 : decode cX12_likeliest 109 = .ok (.iload 6, 2) := by decide +kernel
theorem dX12_likeliest_111 : decode cX12_likeliest 111 = .ok (.istore_n 3, 1) := by decide +kernel
theorem dX12_likeliest_112 : decode cX12_likeliest 112 = .ok (.iload 8, 2) := by decide +kernel
theorem dX12_likeliest_114 : decode cX12_likeliest 114 = .ok (.istore 4, 2) := by decide +kernel
theorem dX12_likeliest_116 : decode cX12_likeliest 116 = .ok (.iload 9, 2) := by decide +kernel
theorem dX12_likeliest_118 : decode cX12_likeliest 118 = .ok (.istore 5, 2) := by decide +kernel
theorem dX12_likeliest_120 : decode cX12_likeliest 120 = .ok (.iinc 6 1, 3) := by decide +kernel
theorem dX12_likeliest_123 : decode cX12_likeliest 123 = .ok (.goto (-93), 3) := by decide +kernel
theorem dX12_likeliest_126 : decode cX12_likeliest 126 = .ok (.iload_n 3, 1) := by decide +kernel
theorem dX12_likeliest_127 : decode cX12_likeliest 127 = .ok (.ireturn, 1) := by decide +kernel
set_option maxHeartbeats 4000000 in
set_option maxRecDepth 100000 in
theorem r_X12_amountOf (l : Launch) (D : va_G) (cy : Nat → ClassId) (sz : Nat) (L : List Nat) (K : Nat → tk_K) (Γ : tk_G) (f : Nat → va_E) (o : Nat) (p0 : Int32) (ho : tp_r L K 39 (0) 0 o) (hs : (0 ≤ Γ (40, 7666, 0) 1 ∧ Γ (40, 7666, 0) 1 ≤ 24) ∧ (0 ≤ Γ (40, 7666, 0) 2 ∧ Γ (40, 7666, 0) 2 ≤ 40) ∧ (0 ≤ Γ (40, 7666, 0) 3 ∧ Γ (40, 7666, 0) 3 ≤ 60) ∧ (0 ≤ Γ (40, 7666, 0) 4 ∧ Γ (40, 7666, 0) 4 ≤ 10) ∧ (0 ≤ Γ (40, 7666, 0) 7665 ∧ Γ (40, 7666, 0) 7665 ≤ 8)) (hg : 0 ≤ Γ (39, 0, 0) 11 ∧ Γ (39, 0, 0) 12 ≤ 299) : Met l yX12_amountOf (tl_w yX12_amountOf cX12_amountOf 7 (some .long)) ({ frames := 2, cells := 0, slots := 0, locals := 48 }) (va_Pc [.ref o, .int p0] (tp_P D cy L K Γ f sz)) (va_Ql (fun (r : Int64) (u : (Nat → va_E) × tk_G) => u.2 (39, 0, 0) 0 = Γ (39, 0, 0) 0 ∧ u.2 (39, 0, 0) 10 = Γ (39, 0, 0) 10 ∧ u.2 (39, 0, 0) 11 = Γ (39, 0, 0) 11 ∧ u.2 (39, 0, 0) 12 = Γ (39, 0, 0) 12 ∧ u.2 (39, 0, 0) 13 = Γ (39, 0, 0) 13 ∧ u.2 (39, 0, 0) 15 = Γ (39, 0, 0) 15) (tp_BG D cy L K Γ f [39]) (tp_A L sz)) 0 0 (tp_A L sz) := by
  refine Met.ofW (cc := cX12_amountOf) (maxL := 7) (ret := (some .long)) (by decide) rfl ?_
  intro p e s m args below meth c s₁ B hml hv
  obtain ⟨rfl, hsz, hP, hK, hL, hI, hN, hU⟩ := hv
  have hx := B.exec
  have hb := B.bytes
  have hr := B.returns
  have hta := tl_hta (atoms_spec (ws := tl_w yX12_amountOf cX12_amountOf 7 (some .long)) B.pre)
  have hown : s.vm.findClass RX12 = some m.cls := findClass_of_methodNamed B.named
  have hlocks := B.notSynchronized
  subst hsz
  have hI0 := hI
  generalize hAe : tp_A L s.heap.size = A
  have hA : ∀ q : Nat, s.heap.size ≤ q → A q := fun q h => by rw [← hAe]; exact Or.inr h
  have hAL : ∀ q ∈ L, A q := fun q h => by rw [← hAe]; exact Or.inl h
  have hAf : ∀ (H : Heap), s.heap.size ≤ H.size → ∀ q, tp_A L H.size q → A q := fun H h q hq => hq.elim (hAL q) (fun h2 => hA q (Nat.le_trans h h2))
  have hS : va_S A s.heap s.heap [] := va_S.rf
  have hD : va_D A (va_pl L f) := tp_D hL hAL
  have hfr : ∀ b, (K b).1 ∉ ([39] : List Nat) → f b = f b := fun _ _ => rfl
  have hgr : ∀ κ : tk_K, κ.1 ∉ ([39] : List Nat) → Γ κ = Γ κ := fun _ _ => rfl
  have hl := lv_entry ([.ref o, .int p0]) (n := 7) (Nat.le_of_ble_eq_true rfl)
  rw [lg_entry_eq]
  generalize (lg_sl ([.ref o, .int p0]) ++ List.replicate (7 - (lg_sl ([.ref o, .int p0])).length) Slot.unset).toArray = ls at hl ⊢
  have hl : lv_has ls 7 [(0, .ref o), (1, .int p0)] := hl
  refine lv_aload_n hx hb dX12_amountOf_0 rfl (lv_at hl 0 rfl) ?_
  obtain ⟨r_2, v_3, q_4, hf_1, hr_5, hv_6⟩ := (show tp_o_M L K 0 0 (Γ (39, 0, 0)) (f o) from hI.at ho)
  have hx_13 : (v_3 15).toInt = Γ (39, 0, 0) 15 := hv_6 15 (by decide)
  refine tp_get (cy := cy) (ci := 12) (v := .int (v_3 15)) (C := RX12) (T := TX12) (N := 49) hx hb hta inlX12 hown hK hP ho.1 hf_1 rfl 40 (by decide) (hta _ wk_924) (fun _ h9 => h9) rfl dX12_amountOf_1 ?_
  refine lv_if_ne (tgt := 11) hx hb dX12_amountOf_4 (by decide) (fun c_14 => ?_) (fun c_14 => ?_)
  · have c_14 : ¬ (v_3 15).toInt = (0 : Int) := tl_neq c_14
    refine lv_aload_n hx hb dX12_amountOf_11 rfl (lv_at hl 0 rfl) ?_
    refine tq_clR hS (hAf _ hS.1) (tq_rV (As := []) (rest := []) ⟨hx, hb, hml, hown, hta⟩ (tp_P.pre hK hN hL hU hI hP) (tp_recv hK hP ho.1 hf_1 rfl) lk_X12_431 (r_X12_deepNow l D cy s.heap.size L K Γ f o ho (by first | omega | (simp only [Int32.toInt_toInt64]; omega) | decide | assumption)) rfl rfl ⟨Nat.le_of_ble_eq_true rfl, Nat.le_of_ble_eq_true rfl⟩ rfl hl.1 rfl (Nat.le_of_ble_eq_true rfl) dX12_amountOf_12 ⟨Nat.le_of_ble_eq_true rfl, Nat.le_of_ble_eq_true rfl⟩) (fun r_16 f_17 Γ_19 H locs hw_15 hP hI hc_18 hcg_20 hS => ?_)
    have hD : va_D A (va_pl L f_17) := tp_D hL hAL
    have hfr := tp_fr2 hfr hc_18 (by decide)
    have hgr : ∀ κ : tk_K, κ.1 ∉ ([39] : List Nat) → Γ_19 κ = Γ κ := tg_fr2 hgr hcg_20 (by decide)
    have hw_15 : 0 ≤ Γ_19 (39, 0, 0) 14 ∧ (0 < Γ_19 (39, 0, 0) 14 ↔ gex (Γ (59, 300, 0)) (Γ (39, 0, 0) 11) (Γ (39, 0, 0) 12 + 1)) ∧ Γ_19 (39, 0, 0) 0 = Γ (39, 0, 0) 0 ∧ Γ_19 (39, 0, 0) 10 = Γ (39, 0, 0) 10 ∧ Γ_19 (39, 0, 0) 11 = Γ (39, 0, 0) 11 ∧ Γ_19 (39, 0, 0) 12 = Γ (39, 0, 0) 12 ∧ Γ_19 (39, 0, 0) 13 = Γ (39, 0, 0) 13 ∧ Γ_19 (39, 0, 0) 15 = Γ (39, 0, 0) 15 := hw_15
    refine lv_lstore_n (lv' := [(2, .long r_16), (0, .ref o), (1, .int p0)]) hx hb dX12_amountOf_15 rfl hl (by decide) rfl (fun ls hl => ?_)
    refine lv_lconst (v := 0) hx hb dX12_amountOf_16 (by decide) ?_
    refine lv_lstore (lv' := [(4, .long 0), (2, .long r_16), (0, .ref o), (1, .int p0)]) hx hb dX12_amountOf_17 hl (by decide) rfl (fun ls hl => ?_)
    refine lv_aload_n hx hb dX12_amountOf_19 rfl (lv_at hl 2 rfl) ?_
    obtain ⟨r_22, v_23, q_24, hf_21, hr_25, hv_26⟩ := (show tp_o_M L K 0 0 (Γ_19 (39, 0, 0)) (f_17 o) from hI.at ho)
    have hx_29 : (v_23 11).toInt = Γ_19 (39, 0, 0) 11 := hv_26 11 (by decide)
    refine tp_get (cy := cy) (ci := 12) (v := .int (v_23 11)) (C := RX12) (T := TX12) (N := 49) hx hb hta inlX12 hown hK hP ho.1 hf_21 rfl 33 (by decide) (hta _ wk_931) (fun _ h9 => h9) rfl dX12_amountOf_20 ?_
    refine lv_istore (lv' := [(6, .int (v_23 11)), (4, .long 0), (2, .long r_16), (0, .ref o), (1, .int p0)]) hx hb dX12_amountOf_23 hl (by decide) rfl (fun ls hl => ?_)
    refine tl_ind (G := fun H locs ls => W p l e ((headSpec (tl_w yX12_amountOf cX12_amountOf 7 (some .long)) ({ frames := 2, cells := 0, slots := 0, locals := 48 })).room) s m #[.ref o, .int p0] below meth c H locs 0 0 (MQ below (va_Ql (fun (r : Int64) (u : (Nat → va_E) × tk_G) => u.2 (39, 0, 0) 0 = Γ (39, 0, 0) 0 ∧ u.2 (39, 0, 0) 10 = Γ (39, 0, 0) 10 ∧ u.2 (39, 0, 0) 11 = Γ (39, 0, 0) 11 ∧ u.2 (39, 0, 0) 12 = Γ (39, 0, 0) 12 ∧ u.2 (39, 0, 0) 13 = Γ (39, 0, 0) 13 ∧ u.2 (39, 0, 0) 15 = Γ (39, 0, 0) 15) (tp_BG D cy L K Γ f [39]) A) #[.ref o, .int p0] s 0 0 A) (F0 m 25 ls [])) (α := (Nat → va_E) × Int32 × Int64) (fun aq => (300 - aq.2.1.toInt).toNat) (fun aq H locs ls => (Γ (39, 0, 0) 11 ≤ aq.2.1.toInt) ∧ va_P D vwCl (va_pl L aq.1) H ∧ tp_I cy L K Γ_19 aq.1 ∧ (∀ b, (K b).1 ∉ ([39] : List Nat) → aq.1 b = f b) ∧ va_S A s.heap H locs ∧ lv_has ls 7 [(6, .int aq.2.1), (4, .long aq.2.2), (2, .long r_16), (0, .ref o), (1, .int p0)]) ?_ (f_17, (v_23 11), (0 : Int64)) H locs ls ⟨(show Γ (39, 0, 0) 11 ≤ (v_23 11).toInt from (by omega)), hP, hI, hfr, hS, lv_sub hl [0, 1, 2, 3, 4] rfl⟩
    rintro ⟨f_34, v6, v4⟩ H locs ls ⟨h6, hP, hI, hfr, hS, hl⟩ ih25
    have hP : va_P D vwCl (va_pl L f_34) H := hP
    have hI : tp_I cy L K Γ_19 f_34 := hI
    have hfr : ∀ b, (K b).1 ∉ ([39] : List Nat) → f_34 b = f b := hfr
    have hD : va_D A (va_pl L f_34) := tp_D hL hAL
    have h6 : Γ (39, 0, 0) 11 ≤ v6.toInt := h6
    have hl : lv_has ls 7 [(6, .int v6), (4, .long v4), (2, .long r_16), (0, .ref o), (1, .int p0)] := hl
    refine lv_iload hx hb dX12_amountOf_25 (lv_at hl 0 rfl) ?_
    refine lv_aload_n hx hb dX12_amountOf_27 rfl (lv_at hl 3 rfl) ?_
    obtain ⟨r_36, v_37, q_38, hf_35, hr_39, hv_40⟩ := (show tp_o_M L K 0 0 (Γ_19 (39, 0, 0)) (f_34 o) from hI.at ho)
    have hx_44 : (v_37 12).toInt = Γ_19 (39, 0, 0) 12 := hv_40 12 (by decide)
    have hx_46 : (v_37 14).toInt = Γ_19 (39, 0, 0) 14 := hv_40 14 (by decide)
    refine tp_get (cy := cy) (ci := 12) (v := .int (v_37 12)) (C := RX12) (T := TX12) (N := 49) hx hb hta inlX12 hown hK hP ho.1 hf_35 rfl 34 (by decide) (hta _ wk_932) (fun _ h9 => h9) rfl dX12_amountOf_28 ?_
    refine lv_icmp_gt (tgt := 69) hx hb dX12_amountOf_31 (by decide) (fun c_48 => ?_) (fun c_48 => ?_)
    · have c_48 : (v_37 12).toInt < v6.toInt := tl_lt c_48
      refine lv_lload hx hb dX12_amountOf_69 (lv_at hl 1 rfl) ?_
      refine lv_lconst (v := 0) hx hb dX12_amountOf_71 (by decide) ?_
      refine W.lcmp hx hb dX12_amountOf_72 ?_
      refine lv_if_ne (tgt := 82) hx hb dX12_amountOf_73 (by decide) (fun c_49 => ?_) (fun c_49 => ?_)
      · have c_49 : ¬ v4.toInt = (0 : Int) := tl_cmp_ne c_49
        refine lv_lload_n hx hb dX12_amountOf_82 rfl (lv_at hl 2 rfl) ?_
        refine lv_lconst (v := 1) hx hb dX12_amountOf_83 (by decide) ?_
        refine W.lcmp hx hb dX12_amountOf_84 ?_
        refine lv_if_ge (tgt := 92) hx hb dX12_amountOf_85 (by decide) (fun c_50 => ?_) (fun c_50 => ?_)
        · have c_50 : r_16.toInt ≥ (1 : Int) := tl_cmp_ge c_50
          refine lv_lload_n hx hb dX12_amountOf_92 rfl (lv_at hl 2 rfl) ?_
          refine lv_aload_n hx hb dX12_amountOf_93 rfl (lv_at hl 3 rfl) ?_
          refine tp_get (cy := cy) (ci := 12) (v := .int (v_37 14)) (C := RX12) (T := TX12) (N := 49) hx hb hta inlX12 hown hK hP ho.1 hf_35 rfl 39 (by decide) (hta _ wk_926) (fun _ h9 => h9) rfl dX12_amountOf_94 ?_
          refine lv_i2l (v := (v_37 14).toInt64) hx hb dX12_amountOf_97 (by first | rfl | decide) ?_
          refine lv_lmul hx hb dX12_amountOf_98 ?_
          refine lv_topl (fun z_51 ez_51 => ?_)
          refine lv_ldc2 (v := 1000) hx hb hown (hta _ wk_326) dX12_amountOf_99 ?_
          refine lv_lmul hx hb dX12_amountOf_102 ?_
          refine lv_topl (fun z_52 ez_52 => ?_)
          refine lv_lload hx hb dX12_amountOf_103 (lv_at hl 1 rfl) ?_
          refine lv_ldiv hx hb dX12_amountOf_105 (tl_ne0L (by omega)) ?_
          refine lv_topl (fun z_53 ez_53 => ?_)
          have hpo9 : Γ_19 (39, 0, 0) 0 = Γ (39, 0, 0) 0 ∧ Γ_19 (39, 0, 0) 10 = Γ (39, 0, 0) 10 ∧ Γ_19 (39, 0, 0) 11 = Γ (39, 0, 0) 11 ∧ Γ_19 (39, 0, 0) 12 = Γ (39, 0, 0) 12 ∧ Γ_19 (39, 0, 0) 13 = Γ (39, 0, 0) 13 ∧ Γ_19 (39, 0, 0) 15 = Γ (39, 0, 0) 15 := ⟨(by omega), (by omega), (by omega), (by omega), (by omega), (by omega)⟩
          exact W.lret (v := z_53) hx hb hr (fun t ht hW => ⟨⟨_, (f_34, Γ_19), rfl, hpo9, by rw [ht]; exact hP, hI, hfr, hgr⟩, hS.F ht⟩) hS.2.2 dX12_amountOf_106
        · have c_50 : r_16.toInt < (1 : Int) := tl_cmp_nge c_50
          refine lv_lconst (v := 0) hx hb dX12_amountOf_88 (by decide) ?_
          refine lv_goto (tgt := 106) hx hb dX12_amountOf_89 (by decide) ?_
          have hpo9 : Γ_19 (39, 0, 0) 0 = Γ (39, 0, 0) 0 ∧ Γ_19 (39, 0, 0) 10 = Γ (39, 0, 0) 10 ∧ Γ_19 (39, 0, 0) 11 = Γ (39, 0, 0) 11 ∧ Γ_19 (39, 0, 0) 12 = Γ (39, 0, 0) 12 ∧ Γ_19 (39, 0, 0) 13 = Γ (39, 0, 0) 13 ∧ Γ_19 (39, 0, 0) 15 = Γ (39, 0, 0) 15 := ⟨(by omega), (by omega), (by omega), (by omega), (by omega), (by omega)⟩
          exact W.lret (v := 0) hx hb hr (fun t ht hW => ⟨⟨_, (f_34, Γ_19), rfl, hpo9, by rw [ht]; exact hP, hI, hfr, hgr⟩, hS.F ht⟩) hS.2.2 dX12_amountOf_106
      · have c_49 : v4.toInt = (0 : Int) := tl_cmp_nne c_49
        refine lv_ldc2 (v := (-1)) hx hb hown (hta _ wk_991) dX12_amountOf_76 ?_
        refine lv_goto (tgt := 106) hx hb dX12_amountOf_79 (by decide) ?_
        have hpo9 : Γ_19 (39, 0, 0) 0 = Γ (39, 0, 0) 0 ∧ Γ_19 (39, 0, 0) 10 = Γ (39, 0, 0) 10 ∧ Γ_19 (39, 0, 0) 11 = Γ (39, 0, 0) 11 ∧ Γ_19 (39, 0, 0) 12 = Γ (39, 0, 0) 12 ∧ Γ_19 (39, 0, 0) 13 = Γ (39, 0, 0) 13 ∧ Γ_19 (39, 0, 0) 15 = Γ (39, 0, 0) 15 := ⟨(by omega), (by omega), (by omega), (by omega), (by omega), (by omega)⟩
        exact W.lret (v := (-1)) hx hb hr (fun t ht hW => ⟨⟨_, (f_34, Γ_19), rfl, hpo9, by rw [ht]; exact hP, hI, hfr, hgr⟩, hS.F ht⟩) hS.2.2 dX12_amountOf_106
    · have c_48 : v6.toInt ≤ (v_37 12).toInt := tl_nlt c_48
      refine lv_lload hx hb dX12_amountOf_34 (lv_at hl 1 rfl) ?_
      refine lv_aload_n hx hb dX12_amountOf_36 rfl (lv_at hl 3 rfl) ?_
      refine tp_get (cy := cy) (ci := 12) (v := .ref (r_36 19)) (C := RX12) (T := TX12) (N := 49) hx hb hta inlX12 hown hK hP ho.1 hf_35 rfl 30 (by decide) (hta _ wk_169) (fun _ h9 => h9) rfl dX12_amountOf_37 ?_
      refine lv_iload hx hb dX12_amountOf_40 (lv_at hl 0 rfl) ?_
      obtain ⟨g_55, hf_54, hg_56⟩ := (show tp_gi cy (300) (Γ (59, 300, 0)) (f (r_36 19)) from hI0.at (show tp_r L K 59 300 0 (r_36 19) from hr_39 19 (by decide)))
      have hn_57 : vp_in v6 (300) := tl_in (by omega) (by omega)
      refine tp_iald (cy := cy) hx hb hK hP (show tp_r L K 59 300 0 (r_36 19) from hr_39 19 (by decide)).1 ((tp_un hfr (show tp_r L K 59 300 0 (r_36 19) from hr_39 19 (by decide)) (by decide)).trans hf_54) hn_57 dX12_amountOf_42 ?_
      refine lv_topi (fun z_58 ez_58 => ?_)
      have iz_58 : z_58.toInt = Γ (59, 300, 0) v6.toInt.toNat := by rw [ez_58]; exact hg_56 _ (tp_pin hn_57)
      refine lv_ldc (v := (-1000000)) hx hb hown (hta _ wk_182) dX12_amountOf_43 ?_
      refine lv_icmp_ne (tgt := 52) hx hb dX12_amountOf_45 (by decide) (fun c_59 => ?_) (fun c_59 => ?_)
      · have c_59 : ¬ z_58.toInt = (-1000000 : Int) := tl_neq c_59
        refine lv_aload_n hx hb dX12_amountOf_52 rfl (lv_at hl 3 rfl) ?_
        refine lv_iload_n hx hb dX12_amountOf_53 rfl (lv_at hl 4 rfl) ?_
        refine lv_iload hx hb dX12_amountOf_54 (lv_at hl 0 rfl) ?_
        refine tl_si (tq_rV (As := [.int p0, .int v6]) (rest := [.long v4]) ⟨hx, hb, hml, hown, hta⟩ (tp_P.pre hK hN hL hU hI hP) (tp_recv hK hP ho.1 hf_35 rfl) lk_X12_150 (r_X12_depthOf l D cy H.size L K Γ_19 f_34 o p0 v6 ho (by first | omega | assumption | (rw [hgr (40, 7666, 0) (by decide)]; first | exact hs | assumption | omega))) rfl rfl ⟨Nat.le_of_ble_eq_true rfl, Nat.le_of_ble_eq_true rfl⟩ rfl hl.1 rfl (Nat.le_of_ble_eq_true rfl) dX12_amountOf_56 ⟨Nat.le_of_ble_eq_true rfl, Nat.le_of_ble_eq_true rfl⟩) (fun r_61 hw_60 => ?_)
        refine lv_i2l (v := r_61.toInt64) hx hb dX12_amountOf_59 (by first | rfl | decide) ?_
        refine lv_ladd hx hb dX12_amountOf_60 ?_
        refine lv_topl (fun z_62 ez_62 => ?_)
        refine lv_lstore (lv' := [(4, .long z_62), (6, .int v6), (2, .long r_16), (0, .ref o), (1, .int p0)]) hx hb dX12_amountOf_61 hl (by decide) rfl (fun ls hl => ?_)
        obtain ⟨z_63, ez_63⟩ : ∃ y : Int32, y = v6 + 1 := ⟨_, rfl⟩
        refine lv_iinc (v := z_63) (lv' := [(6, .int z_63), (4, .long z_62), (2, .long r_16), (0, .ref o), (1, .int p0)]) hx hb dX12_amountOf_63 hl (k := 1) rfl (by rw [ez_63]; rfl) (by decide) rfl (fun ls hl => ?_)
        try have iz_63 : z_63.toInt = v6.toInt + 1 := by rw [ez_63]; exact tl_addL v6 1 (by decide) (by omega) (by omega)
        refine lv_goto (tgt := 25) hx hb dX12_amountOf_66 (by decide) ?_
        exact ih25 (f_34, z_63, z_62) H locs ls (by show (300 - z_63.toInt).toNat < (300 - v6.toInt).toNat; omega) ⟨(show Γ (39, 0, 0) 11 ≤ z_63.toInt from (by omega)), hP, hI, hfr, hS, lv_sub hl [0, 1, 2, 3, 4] rfl⟩
      · have c_59 : z_58.toInt = (-1000000 : Int) := tl_eq c_59
        refine lv_lconst (v := 0) hx hb dX12_amountOf_48 (by decide) ?_
        refine lv_goto (tgt := 60) hx hb dX12_amountOf_49 (by decide) ?_
        refine lv_ladd hx hb dX12_amountOf_60 ?_
        refine lv_topl (fun z_64 ez_64 => ?_)
        refine lv_lstore (lv' := [(4, .long z_64), (6, .int v6), (2, .long r_16), (0, .ref o), (1, .int p0)]) hx hb dX12_amountOf_61 hl (by decide) rfl (fun ls hl => ?_)
        obtain ⟨z_65, ez_65⟩ : ∃ y : Int32, y = v6 + 1 := ⟨_, rfl⟩
        refine lv_iinc (v := z_65) (lv' := [(6, .int z_65), (4, .long z_64), (2, .long r_16), (0, .ref o), (1, .int p0)]) hx hb dX12_amountOf_63 hl (k := 1) rfl (by rw [ez_65]; rfl) (by decide) rfl (fun ls hl => ?_)
        try have iz_65 : z_65.toInt = v6.toInt + 1 := by rw [ez_65]; exact tl_addL v6 1 (by decide) (by omega) (by omega)
        refine lv_goto (tgt := 25) hx hb dX12_amountOf_66 (by decide) ?_
        exact ih25 (f_34, z_65, z_64) H locs ls (by show (300 - z_65.toInt).toNat < (300 - v6.toInt).toNat; omega) ⟨(show Γ (39, 0, 0) 11 ≤ z_65.toInt from (by omega)), hP, hI, hfr, hS, lv_sub hl [0, 1, 2, 3, 4] rfl⟩
  · have c_14 : (v_3 15).toInt = (0 : Int) := tl_eq c_14
    refine lv_ldc2 (v := (-1)) hx hb hown (hta _ wk_991) dX12_amountOf_7 ?_
    have hpo9 : Γ (39, 0, 0) 0 = Γ (39, 0, 0) 0 ∧ Γ (39, 0, 0) 10 = Γ (39, 0, 0) 10 ∧ Γ (39, 0, 0) 11 = Γ (39, 0, 0) 11 ∧ Γ (39, 0, 0) 12 = Γ (39, 0, 0) 12 ∧ Γ (39, 0, 0) 13 = Γ (39, 0, 0) 13 ∧ Γ (39, 0, 0) 15 = Γ (39, 0, 0) 15 := ⟨(by omega), (by omega), (by omega), (by omega), (by omega), (by omega)⟩
    exact W.lret (v := (-1)) hx hb hr (fun t ht hW => ⟨⟨_, (f, Γ), rfl, hpo9, by rw [ht]; exact hP, hI, hfr, hgr⟩, hS.F ht⟩) hS.2.2 dX12_amountOf_10
set_option maxHeartbeats 4000000 in
set_option maxRecDepth 100000 in
theorem r_X12_isElse (l : Launch) (D : va_G) (cy : Nat → ClassId) (sz : Nat) (L : List Nat) (K : Nat → tk_K) (Γ : tk_G) (f : Nat → va_E) (o : Nat) (p0 : Int32) (p1 : Int32) (ho : tp_r L K 39 (0) 0 o) (hsd : ts_said (Γ (40, 7666, 0)) (Γ (42, 3, 0) 1)) (h0 : 0 ≤ p0.toInt ∧ p0.toInt ≤ 59) : Met l yX12_isElse (tl_w yX12_isElse cX12_isElse 4 (some .boolean)) ({ frames := 1, cells := 0, slots := 0, locals := 22 }) (va_Pc [.ref o, .int p0, .int p1] (tp_P D cy L K Γ f sz)) (vp_Si (fun r : Int32 => tl_J r (True))) 0 0 (fun _ => False) := by
  refine Met.ofW (cc := cX12_isElse) (maxL := 4) (ret := (some .boolean)) (by decide) rfl ?_
  intro p e s m args below meth c s₁ B hml hv
  obtain ⟨rfl, hsz, hP, hK, hL, hI, hN, hU⟩ := hv
  have hx := B.exec
  have hb := B.bytes
  have hr := B.returns
  have hta := tl_hta (atoms_spec (ws := tl_w yX12_isElse cX12_isElse 4 (some .boolean)) B.pre)
  have hown : s.vm.findClass RX12 = some m.cls := findClass_of_methodNamed B.named
  have hlocks := B.notSynchronized
  subst hsz
  have hI0 := hI
  have hl := lv_entry ([.ref o, .int p0, .int p1]) (n := 4) (Nat.le_of_ble_eq_true rfl)
  rw [lg_entry_eq]
  generalize (lg_sl ([.ref o, .int p0, .int p1]) ++ List.replicate (4 - (lg_sl ([.ref o, .int p0, .int p1])).length) Slot.unset).toArray = ls at hl ⊢
  have hl : lv_has ls 4 [(0, .ref o), (1, .int p0), (2, .int p1)] := hl
  refine lv_aload_n hx hb dX12_isElse_0 rfl (lv_at hl 0 rfl) ?_
  refine lv_iload_n hx hb dX12_isElse_1 rfl (lv_at hl 1 rfl) ?_
  refine lv_iconst (v := 1) hx hb dX12_isElse_2 (by decide) ?_
  obtain ⟨r_2, v_3, q_4, hf_1, hr_5, hv_6⟩ := (show tp_o_M L K 0 0 (Γ (39, 0, 0)) (f o) from hI0.at ho)
  have hx_9 : (v_3 11).toInt = Γ (39, 0, 0) 11 := hv_6 11 (by decide)
  have hx_10 : (v_3 12).toInt = Γ (39, 0, 0) 12 := hv_6 12 (by decide)
  refine tl_si (tq_rV (As := [.int p0, .int 1]) (rest := []) ⟨hx, hb, hml, hown, hta⟩ (tp_P.pre hK hN hL hU hI hP) (tp_recv hK hP ho.1 hf_1 rfl) lk_X12_143 (r_X12_lineOf l D cy s.heap.size L K Γ f o p0 1 ho (by first | omega | (simp only [Int32.toInt_toInt64]; omega) | decide | assumption) (by first | omega | (simp only [Int32.toInt_toInt64]; omega) | decide | assumption)) rfl rfl ⟨Nat.le_of_ble_eq_true rfl, Nat.le_of_ble_eq_true rfl⟩ rfl hl.1 rfl (Nat.le_of_ble_eq_true rfl) dX12_isElse_3 ⟨Nat.le_of_ble_eq_true rfl, Nat.le_of_ble_eq_true rfl⟩) (fun r_15 hw_14 => ?_)
  have hw_14 : r_15.toInt = Γ (40, 7666, 0) (241 + 3 * p0.toInt + (1 : Int)).toNat := hw_14
  have hlir_15 : 0 ≤ r_15.toInt ∧ r_15.toInt ≤ 299 := by have q9 := ts_ln hsd p0.toInt.toNat (by omega); rw [show Γ (40, 7666, 0) (242 + 3 * p0.toInt.toNat) = r_15.toInt from ((hw_14).trans (congrArg _ (by omega))).symm] at q9; exact q9
  refine lv_istore_n (lv' := [(3, .int r_15), (0, .ref o), (1, .int p0), (2, .int p1)]) hx hb dX12_isElse_6 rfl hl (by decide) rfl (fun ls hl => ?_)
  refine lv_aload_n hx hb dX12_isElse_7 rfl (lv_at hl 1 rfl) ?_
  refine lv_iload_n hx hb dX12_isElse_8 rfl (lv_at hl 2 rfl) ?_
  refine lv_iconst (v := 0) hx hb dX12_isElse_9 (by decide) ?_
  refine tl_si (tq_rV (As := [.int p0, .int 0]) (rest := []) ⟨hx, hb, hml, hown, hta⟩ (tp_P.pre hK hN hL hU hI hP) (tp_recv hK hP ho.1 hf_1 rfl) lk_X12_143 (r_X12_lineOf l D cy s.heap.size L K Γ f o p0 0 ho (by first | omega | (simp only [Int32.toInt_toInt64]; omega) | decide | assumption) (by first | omega | (simp only [Int32.toInt_toInt64]; omega) | decide | assumption)) rfl rfl ⟨Nat.le_of_ble_eq_true rfl, Nat.le_of_ble_eq_true rfl⟩ rfl hl.1 rfl (Nat.le_of_ble_eq_true rfl) dX12_isElse_10 ⟨Nat.le_of_ble_eq_true rfl, Nat.le_of_ble_eq_true rfl⟩) (fun r_17 hw_16 => ?_)
  have hw_16 : r_17.toInt = Γ (40, 7666, 0) (241 + 3 * p0.toInt + (0 : Int)).toNat := hw_16
  refine lv_iload_n hx hb dX12_isElse_13 rfl (lv_at hl 3 rfl) ?_
  refine lv_icmp_ne (tgt := 48) hx hb dX12_isElse_14 (by decide) (fun c_18 => ?_) (fun c_18 => ?_)
  · have c_18 : ¬ r_17.toInt = p1.toInt := tl_neq c_18
    refine lv_iconst (v := 0) hx hb dX12_isElse_48 (by decide) ?_
    exact W.zret (ty := .boolean) (v := 0) hx hb hr rfl (fun t ht hW => ⟨_, rfl, (Or.inr rfl), ht⟩) (fun q h => by cases h) dX12_isElse_49
  · have c_18 : r_17.toInt = p1.toInt := tl_eq c_18
    refine lv_iload_n hx hb dX12_isElse_17 rfl (lv_at hl 0 rfl) ?_
    refine lv_aload_n hx hb dX12_isElse_18 rfl (lv_at hl 1 rfl) ?_
    refine tp_get (cy := cy) (ci := 12) (v := .int (v_3 11)) (C := RX12) (T := TX12) (N := 49) hx hb hta inlX12 hown hK hP ho.1 hf_1 rfl 33 (by decide) (hta _ wk_931) (fun _ h9 => h9) rfl dX12_isElse_19 ?_
    refine lv_icmp_lt (tgt := 33) hx hb dX12_isElse_22 (by decide) (fun c_19 => ?_) (fun c_19 => ?_)
    · have c_19 : r_15.toInt < (v_3 11).toInt := tl_lt c_19
      refine lv_aload_n hx hb dX12_isElse_33 rfl (lv_at hl 1 rfl) ?_
      refine tp_get (cy := cy) (ci := 12) (v := .ref (r_2 19)) (C := RX12) (T := TX12) (N := 49) hx hb hta inlX12 hown hK hP ho.1 hf_1 rfl 30 (by decide) (hta _ wk_169) (fun _ h9 => h9) rfl dX12_isElse_34 ?_
      refine lv_iload_n hx hb dX12_isElse_37 rfl (lv_at hl 0 rfl) ?_
      obtain ⟨g_21, hf_20, hg_22⟩ := (show tp_gi cy (300) (Γ (59, 300, 0)) (f (r_2 19)) from hI0.at (show tp_r L K 59 300 0 (r_2 19) from hr_5 19 (by decide)))
      have hn_23 : vp_in r_15 (300) := tl_in (by omega) (by omega)
      refine tp_iald (cy := cy) hx hb hK hP (show tp_r L K 59 300 0 (r_2 19) from hr_5 19 (by decide)).1 hf_20 hn_23 dX12_isElse_38 ?_
      refine lv_topi (fun z_24 ez_24 => ?_)
      have iz_24 : z_24.toInt = Γ (59, 300, 0) r_15.toInt.toNat := by rw [ez_24]; exact hg_22 _ (tp_pin hn_23)
      refine lv_ldc (v := (-1000000)) hx hb hown (hta _ wk_182) dX12_isElse_39 ?_
      refine lv_icmp_eq (tgt := 48) hx hb dX12_isElse_41 (by decide) (fun c_25 => ?_) (fun c_25 => ?_)
      · have c_25 : z_24.toInt = (-1000000 : Int) := tl_eq c_25
        refine lv_iconst (v := 0) hx hb dX12_isElse_48 (by decide) ?_
        exact W.zret (ty := .boolean) (v := 0) hx hb hr rfl (fun t ht hW => ⟨_, rfl, (Or.inr rfl), ht⟩) (fun q h => by cases h) dX12_isElse_49
      · have c_25 : ¬ z_24.toInt = (-1000000 : Int) := tl_neq c_25
        refine lv_iconst (v := 1) hx hb dX12_isElse_44 (by decide) ?_
        refine lv_goto (tgt := 49) hx hb dX12_isElse_45 (by decide) ?_
        exact W.zret (ty := .boolean) (v := 1) hx hb hr rfl (fun t ht hW => ⟨_, rfl, (Or.inl ⟨rfl, trivial⟩), ht⟩) (fun q h => by cases h) dX12_isElse_49
    · have c_19 : (v_3 11).toInt ≤ r_15.toInt := tl_nlt c_19
      refine lv_iload_n hx hb dX12_isElse_25 rfl (lv_at hl 0 rfl) ?_
      refine lv_aload_n hx hb dX12_isElse_26 rfl (lv_at hl 1 rfl) ?_
      refine tp_get (cy := cy) (ci := 12) (v := .int (v_3 12)) (C := RX12) (T := TX12) (N := 49) hx hb hta inlX12 hown hK hP ho.1 hf_1 rfl 34 (by decide) (hta _ wk_932) (fun _ h9 => h9) rfl dX12_isElse_27 ?_
      refine lv_icmp_le (tgt := 48) hx hb dX12_isElse_30 (by decide) (fun c_26 => ?_) (fun c_26 => ?_)
      · have c_26 : r_15.toInt ≤ (v_3 12).toInt := tl_le c_26
        refine lv_iconst (v := 0) hx hb dX12_isElse_48 (by decide) ?_
        exact W.zret (ty := .boolean) (v := 0) hx hb hr rfl (fun t ht hW => ⟨_, rfl, (Or.inr rfl), ht⟩) (fun q h => by cases h) dX12_isElse_49
      · have c_26 : (v_3 12).toInt < r_15.toInt := tl_nle c_26
        refine lv_aload_n hx hb dX12_isElse_33 rfl (lv_at hl 1 rfl) ?_
        refine tp_get (cy := cy) (ci := 12) (v := .ref (r_2 19)) (C := RX12) (T := TX12) (N := 49) hx hb hta inlX12 hown hK hP ho.1 hf_1 rfl 30 (by decide) (hta _ wk_169) (fun _ h9 => h9) rfl dX12_isElse_34 ?_
        refine lv_iload_n hx hb dX12_isElse_37 rfl (lv_at hl 0 rfl) ?_
        obtain ⟨g_28, hf_27, hg_29⟩ := (show tp_gi cy (300) (Γ (59, 300, 0)) (f (r_2 19)) from hI0.at (show tp_r L K 59 300 0 (r_2 19) from hr_5 19 (by decide)))
        have hn_30 : vp_in r_15 (300) := tl_in (by omega) (by omega)
        refine tp_iald (cy := cy) hx hb hK hP (show tp_r L K 59 300 0 (r_2 19) from hr_5 19 (by decide)).1 hf_27 hn_30 dX12_isElse_38 ?_
        refine lv_topi (fun z_31 ez_31 => ?_)
        have iz_31 : z_31.toInt = Γ (59, 300, 0) r_15.toInt.toNat := by rw [ez_31]; exact hg_29 _ (tp_pin hn_30)
        refine lv_ldc (v := (-1000000)) hx hb hown (hta _ wk_182) dX12_isElse_39 ?_
        refine lv_icmp_eq (tgt := 48) hx hb dX12_isElse_41 (by decide) (fun c_32 => ?_) (fun c_32 => ?_)
        · have c_32 : z_31.toInt = (-1000000 : Int) := tl_eq c_32
          refine lv_iconst (v := 0) hx hb dX12_isElse_48 (by decide) ?_
          exact W.zret (ty := .boolean) (v := 0) hx hb hr rfl (fun t ht hW => ⟨_, rfl, (Or.inr rfl), ht⟩) (fun q h => by cases h) dX12_isElse_49
        · have c_32 : ¬ z_31.toInt = (-1000000 : Int) := tl_neq c_32
          refine lv_iconst (v := 1) hx hb dX12_isElse_44 (by decide) ?_
          refine lv_goto (tgt := 49) hx hb dX12_isElse_45 (by decide) ?_
          exact W.zret (ty := .boolean) (v := 1) hx hb hr rfl (fun t ht hW => ⟨_, rfl, (Or.inl ⟨rfl, trivial⟩), ht⟩) (fun q h => by cases h) dX12_isElse_49
set_option maxHeartbeats 4000000 in
set_option maxRecDepth 100000 in
theorem r_X12_elses (l : Launch) (D : va_G) (cy : Nat → ClassId) (sz : Nat) (L : List Nat) (K : Nat → tk_K) (Γ : tk_G) (f : Nat → va_E) (o : Nat) (p0 : Int32) (ho : tp_r L K 39 (0) 0 o) (hsd : ts_said (Γ (40, 7666, 0)) (Γ (42, 3, 0) 1)) : Met l yX12_elses (tl_w yX12_elses cX12_elses 4 (some .int)) ({ frames := 2, cells := 0, slots := 0, locals := 45 }) (va_Pc [.ref o, .int p0] (tp_P D cy L K Γ f sz)) (vp_Si (fun r : Int32 => True)) 0 0 (fun _ => False) := by
  refine Met.ofW (cc := cX12_elses) (maxL := 4) (ret := (some .int)) (by decide) rfl ?_
  intro p e s m args below meth c s₁ B hml hv
  obtain ⟨rfl, hsz, hP, hK, hL, hI, hN, hU⟩ := hv
  have hx := B.exec
  have hb := B.bytes
  have hr := B.returns
  have hta := tl_hta (atoms_spec (ws := tl_w yX12_elses cX12_elses 4 (some .int)) B.pre)
  have hown : s.vm.findClass RX12 = some m.cls := findClass_of_methodNamed B.named
  have hlocks := B.notSynchronized
  subst hsz
  have hI0 := hI
  have hl := lv_entry ([.ref o, .int p0]) (n := 4) (Nat.le_of_ble_eq_true rfl)
  rw [lg_entry_eq]
  generalize (lg_sl ([.ref o, .int p0]) ++ List.replicate (4 - (lg_sl ([.ref o, .int p0])).length) Slot.unset).toArray = ls at hl ⊢
  have hl : lv_has ls 4 [(0, .ref o), (1, .int p0)] := hl
  have hs := ts_hs hsd
  refine lv_iconst (v := 0) hx hb dX12_elses_0 (by decide) ?_
  refine lv_istore_n (lv' := [(2, .int 0), (0, .ref o), (1, .int p0)]) hx hb dX12_elses_1 rfl hl (by decide) rfl (fun ls hl => ?_)
  refine lv_iconst (v := 0) hx hb dX12_elses_2 (by decide) ?_
  refine lv_istore_n (lv' := [(3, .int 0), (2, .int 0), (0, .ref o), (1, .int p0)]) hx hb dX12_elses_3 rfl hl (by decide) rfl (fun ls hl => ?_)
  refine tl_indR (G := fun ls => W p l e ((headSpec (tl_w yX12_elses cX12_elses 4 (some .int)) ({ frames := 2, cells := 0, slots := 0, locals := 45 })).room) s m #[.ref o, .int p0] below meth c s.heap [] 0 0 (MQ below (vp_Si (fun r : Int32 => True)) #[.ref o, .int p0] s 0 0 (fun _ => False)) (F0 m 4 ls [])) (α := Int32 × Int32) (fun aq => (60 - aq.1.toInt).toNat) (fun aq ls => (0 ≤ aq.1.toInt) ∧ (aq.1.toInt ≤ 60) ∧ lv_has ls 4 [(3, .int aq.1), (2, .int aq.2), (0, .ref o), (1, .int p0)]) ?_ ((0 : Int32), (0 : Int32)) ls ⟨(show 0 ≤ (0 : Int) from (by omega)), (show (0 : Int) ≤ 60 from (by omega)), lv_sub hl [0, 1, 2, 3] rfl⟩
  rintro ⟨v3, v2⟩ ls ⟨h0, h1, hl⟩ ih4
  have h0 : 0 ≤ v3.toInt := h0
  have h1 : v3.toInt ≤ 60 := h1
  have hl : lv_has ls 4 [(3, .int v3), (2, .int v2), (0, .ref o), (1, .int p0)] := hl
  refine lv_iload_n hx hb dX12_elses_4 rfl (lv_at hl 0 rfl) ?_
  refine lv_aload_n hx hb dX12_elses_5 rfl (lv_at hl 2 rfl) ?_
  obtain ⟨r_2, v_3, q_4, hf_1, hr_5, hv_6⟩ := (show tp_o_M L K 0 0 (Γ (39, 0, 0)) (f o) from hI0.at ho)
  refine tp_get (cy := cy) (ci := 12) (v := .ref (r_2 0)) (C := RX12) (T := TX12) (N := 49) hx hb hta inlX12 hown hK hP ho.1 hf_1 rfl 0 (by decide) (hta _ wk_149) (fun _ h9 => h9) rfl dX12_elses_6 ?_
  refine lv_iconst (v := 3) hx hb dX12_elses_9 (by decide) ?_
  obtain ⟨g_8, hf_7, hg_9⟩ := (show tp_gi cy (7666) (Γ (40, 7666, 0)) (f (r_2 0)) from hI0.at (show tp_r L K 40 7666 0 (r_2 0) from hr_5 0 (by decide)))
  have hn_10 : vp_in 3 (7666) := tl_in (by decide) (by decide)
  refine tp_iald (cy := cy) hx hb hK hP (show tp_r L K 40 7666 0 (r_2 0) from hr_5 0 (by decide)).1 hf_7 hn_10 dX12_elses_10 ?_
  refine lv_topi (fun z_11 ez_11 => ?_)
  have iz_11 : z_11.toInt = Γ (40, 7666, 0) 3 := by rw [ez_11]; exact hg_9 _ (tp_pin hn_10)
  refine lv_icmp_ge (tgt := 37) hx hb dX12_elses_11 (by decide) (fun c_12 => ?_) (fun c_12 => ?_)
  · have c_12 : z_11.toInt ≤ v3.toInt := tl_le c_12
    refine lv_iload_n hx hb dX12_elses_37 rfl (lv_at hl 1 rfl) ?_
    exact W.iret (v := v2) hx hb hr (fun t ht hW => ⟨_, rfl, trivial, ht⟩) (fun q h => by cases h) dX12_elses_38
  · have c_12 : v3.toInt < z_11.toInt := tl_nle c_12
    refine lv_iload_n hx hb dX12_elses_14 rfl (lv_at hl 1 rfl) ?_
    refine lv_aload_n hx hb dX12_elses_15 rfl (lv_at hl 2 rfl) ?_
    refine lv_iload_n hx hb dX12_elses_16 rfl (lv_at hl 0 rfl) ?_
    refine lv_iload_n hx hb dX12_elses_17 rfl (lv_at hl 3 rfl) ?_
    refine tl_si (tq_rV (As := [.int v3, .int p0]) (rest := [.int v2]) ⟨hx, hb, hml, hown, hta⟩ (tp_P.pre hK hN hL hU hI hP) (tp_recv hK hP ho.1 hf_1 rfl) lk_X12_477 (r_X12_isElse l D cy s.heap.size L K Γ f o v3 p0 ho (by first | omega | (simp only [Int32.toInt_toInt64]; omega) | decide | assumption) (by first | omega | (simp only [Int32.toInt_toInt64]; omega) | decide | assumption)) rfl rfl ⟨Nat.le_of_ble_eq_true rfl, Nat.le_of_ble_eq_true rfl⟩ rfl hl.1 rfl (Nat.le_of_ble_eq_true rfl) dX12_elses_18 ⟨Nat.le_of_ble_eq_true rfl, Nat.le_of_ble_eq_true rfl⟩) (fun r_14 hw_13 => ?_)
    have hw_13 : tl_J r_14 (True) := hw_13
    refine lv_if_eq (tgt := 28) hx hb dX12_elses_21 (by decide) (fun c_15 => ?_) (fun c_15 => ?_)
    · have c_15 := c_15
      refine lv_iconst (v := 0) hx hb dX12_elses_28 (by decide) ?_
      refine lv_iadd hx hb dX12_elses_29 ?_
      refine lv_topi (fun z_16 ez_16 => ?_)
      try have iz_16 : z_16.toInt = v2.toInt + (0 : Int) := by rw [ez_16]; exact tl_addN v2 0 rfl rfl (by omega) (by omega)
      refine lv_istore_n (lv' := [(2, .int z_16), (3, .int v3), (0, .ref o), (1, .int p0)]) hx hb dX12_elses_30 rfl hl (by decide) rfl (fun ls hl => ?_)
      obtain ⟨z_17, ez_17⟩ : ∃ y : Int32, y = v3 + 1 := ⟨_, rfl⟩
      refine lv_iinc (v := z_17) (lv' := [(3, .int z_17), (2, .int z_16), (0, .ref o), (1, .int p0)]) hx hb dX12_elses_31 hl (k := 1) rfl (by rw [ez_17]; rfl) (by decide) rfl (fun ls hl => ?_)
      try have iz_17 : z_17.toInt = v3.toInt + 1 := by rw [ez_17]; exact tl_addL v3 1 (by decide) (by omega) (by omega)
      refine lv_goto (tgt := 4) hx hb dX12_elses_34 (by decide) ?_
      exact ih4 (z_17, z_16) ls (by show (60 - z_17.toInt).toNat < (60 - v3.toInt).toNat; omega) ⟨(show 0 ≤ z_17.toInt from (by omega)), (show z_17.toInt ≤ 60 from (by omega)), lv_sub hl [0, 1, 2, 3] rfl⟩
    · have c_15 := hw_13.t c_15
      refine lv_iconst (v := 1) hx hb dX12_elses_24 (by decide) ?_
      refine lv_goto (tgt := 29) hx hb dX12_elses_25 (by decide) ?_
      refine lv_iadd hx hb dX12_elses_29 ?_
      refine lv_topi (fun z_18 ez_18 => ?_)
      try have iz_18 : z_18.toInt = v2.toInt + (1 : Int) := by rw [ez_18]; exact tl_addN v2 1 rfl rfl (by omega) (by omega)
      refine lv_istore_n (lv' := [(2, .int z_18), (3, .int v3), (0, .ref o), (1, .int p0)]) hx hb dX12_elses_30 rfl hl (by decide) rfl (fun ls hl => ?_)
      obtain ⟨z_19, ez_19⟩ : ∃ y : Int32, y = v3 + 1 := ⟨_, rfl⟩
      refine lv_iinc (v := z_19) (lv' := [(3, .int z_19), (2, .int z_18), (0, .ref o), (1, .int p0)]) hx hb dX12_elses_31 hl (k := 1) rfl (by rw [ez_19]; rfl) (by decide) rfl (fun ls hl => ?_)
      try have iz_19 : z_19.toInt = v3.toInt + 1 := by rw [ez_19]; exact tl_addL v3 1 (by decide) (by omega) (by omega)
      refine lv_goto (tgt := 4) hx hb dX12_elses_34 (by decide) ?_
      exact ih4 (z_19, z_18) ls (by show (60 - z_19.toInt).toNat < (60 - v3.toInt).toNat; omega) ⟨(show 0 ≤ z_19.toInt from (by omega)), (show z_19.toInt ≤ 60 from (by omega)), lv_sub hl [0, 1, 2, 3] rfl⟩
set_option maxHeartbeats 4000000 in
set_option maxRecDepth 100000 in
theorem r_X12_theres (l : Launch) (D : va_G) (cy : Nat → ClassId) (sz : Nat) (L : List Nat) (K : Nat → tk_K) (Γ : tk_G) (f : Nat → va_E) (o : Nat) (p0 : Int32) (ho : tp_r L K 39 (0) 0 o) (hsd : ts_said (Γ (40, 7666, 0)) (Γ (42, 3, 0) 1)) (hg : 0 ≤ Γ (39, 0, 0) 11 ∧ Γ (39, 0, 0) 12 ≤ 299) : Met l yX12_theres (tl_w yX12_theres cX12_theres 6 (some .int)) ({ frames := 3, cells := 0, slots := 0, locals := 74 }) (va_Pc [.ref o, .int p0] (tp_P D cy L K Γ f sz)) (va_Qi (fun (r : Int32) (u : (Nat → va_E) × tk_G) => u.2 (39, 0, 0) 0 = Γ (39, 0, 0) 0 ∧ u.2 (39, 0, 0) 10 = Γ (39, 0, 0) 10 ∧ u.2 (39, 0, 0) 11 = Γ (39, 0, 0) 11 ∧ u.2 (39, 0, 0) 12 = Γ (39, 0, 0) 12 ∧ u.2 (39, 0, 0) 13 = Γ (39, 0, 0) 13 ∧ u.2 (39, 0, 0) 15 = Γ (39, 0, 0) 15) (tp_BG D cy L K Γ f [39]) (tp_A L sz)) 0 0 (tp_A L sz) := by
  refine Met.ofW (cc := cX12_theres) (maxL := 6) (ret := (some .int)) (by decide) rfl ?_
  intro p e s m args below meth c s₁ B hml hv
  obtain ⟨rfl, hsz, hP, hK, hL, hI, hN, hU⟩ := hv
  have hx := B.exec
  have hb := B.bytes
  have hr := B.returns
  have hta := tl_hta (atoms_spec (ws := tl_w yX12_theres cX12_theres 6 (some .int)) B.pre)
  have hown : s.vm.findClass RX12 = some m.cls := findClass_of_methodNamed B.named
  have hlocks := B.notSynchronized
  subst hsz
  have hI0 := hI
  generalize hAe : tp_A L s.heap.size = A
  have hA : ∀ q : Nat, s.heap.size ≤ q → A q := fun q h => by rw [← hAe]; exact Or.inr h
  have hAL : ∀ q ∈ L, A q := fun q h => by rw [← hAe]; exact Or.inl h
  have hAf : ∀ (H : Heap), s.heap.size ≤ H.size → ∀ q, tp_A L H.size q → A q := fun H h q hq => hq.elim (hAL q) (fun h2 => hA q (Nat.le_trans h h2))
  have hS : va_S A s.heap s.heap [] := va_S.rf
  have hD : va_D A (va_pl L f) := tp_D hL hAL
  have hfr : ∀ b, (K b).1 ∉ ([39] : List Nat) → f b = f b := fun _ _ => rfl
  have hgr : ∀ κ : tk_K, κ.1 ∉ ([39] : List Nat) → Γ κ = Γ κ := fun _ _ => rfl
  have hl := lv_entry ([.ref o, .int p0]) (n := 6) (Nat.le_of_ble_eq_true rfl)
  rw [lg_entry_eq]
  generalize (lg_sl ([.ref o, .int p0]) ++ List.replicate (6 - (lg_sl ([.ref o, .int p0])).length) Slot.unset).toArray = ls at hl ⊢
  have hl : lv_has ls 6 [(0, .ref o), (1, .int p0)] := hl
  have hs := ts_hs hsd
  refine lv_aload_n hx hb dX12_theres_0 rfl (lv_at hl 0 rfl) ?_
  refine lv_iload_n hx hb dX12_theres_1 rfl (lv_at hl 1 rfl) ?_
  obtain ⟨r_2, v_3, q_4, hf_1, hr_5, hv_6⟩ := (show tp_o_M L K 0 0 (Γ (39, 0, 0)) (f o) from hI.at ho)
  refine tq_clR hS (hAf _ hS.1) (tq_rV (As := [.int p0]) (rest := []) ⟨hx, hb, hml, hown, hta⟩ (tp_P.pre hK hN hL hU hI hP) (tp_recv hK hP ho.1 hf_1 rfl) lk_X12_480 (r_X12_amountOf l D cy s.heap.size L K Γ f o p0 ho (by first | omega | (simp only [Int32.toInt_toInt64]; omega) | decide | assumption) (by first | omega | (simp only [Int32.toInt_toInt64]; omega) | decide | assumption)) rfl rfl ⟨Nat.le_of_ble_eq_true rfl, Nat.le_of_ble_eq_true rfl⟩ rfl hl.1 rfl (Nat.le_of_ble_eq_true rfl) dX12_theres_2 ⟨Nat.le_of_ble_eq_true rfl, Nat.le_of_ble_eq_true rfl⟩) (fun r_15 f_16 Γ_18 H locs hw_14 hP hI hc_17 hcg_19 hS => ?_)
  have hD : va_D A (va_pl L f_16) := tp_D hL hAL
  have hfr := tp_fr2 hfr hc_17 (by decide)
  have hgr : ∀ κ : tk_K, κ.1 ∉ ([39] : List Nat) → Γ_18 κ = Γ κ := tg_fr2 hgr hcg_19 (by decide)
  have hw_14 : Γ_18 (39, 0, 0) 0 = Γ (39, 0, 0) 0 ∧ Γ_18 (39, 0, 0) 10 = Γ (39, 0, 0) 10 ∧ Γ_18 (39, 0, 0) 11 = Γ (39, 0, 0) 11 ∧ Γ_18 (39, 0, 0) 12 = Γ (39, 0, 0) 12 ∧ Γ_18 (39, 0, 0) 13 = Γ (39, 0, 0) 13 ∧ Γ_18 (39, 0, 0) 15 = Γ (39, 0, 0) 15 := hw_14
  refine lv_lstore_n (lv' := [(2, .long r_15), (0, .ref o), (1, .int p0)]) hx hb dX12_theres_5 rfl hl (by decide) rfl (fun ls hl => ?_)
  refine lv_iconst (v := 0) hx hb dX12_theres_6 (by decide) ?_
  refine lv_istore (lv' := [(4, .int 0), (2, .long r_15), (0, .ref o), (1, .int p0)]) hx hb dX12_theres_7 hl (by decide) rfl (fun ls hl => ?_)
  refine lv_iconst (v := 0) hx hb dX12_theres_9 (by decide) ?_
  refine lv_istore (lv' := [(5, .int 0), (4, .int 0), (2, .long r_15), (0, .ref o), (1, .int p0)]) hx hb dX12_theres_10 hl (by decide) rfl (fun ls hl => ?_)
  refine tl_ind (G := fun H locs ls => W p l e ((headSpec (tl_w yX12_theres cX12_theres 6 (some .int)) ({ frames := 3, cells := 0, slots := 0, locals := 74 })).room) s m #[.ref o, .int p0] below meth c H locs 0 0 (MQ below (va_Qi (fun (r : Int32) (u : (Nat → va_E) × tk_G) => u.2 (39, 0, 0) 0 = Γ (39, 0, 0) 0 ∧ u.2 (39, 0, 0) 10 = Γ (39, 0, 0) 10 ∧ u.2 (39, 0, 0) 11 = Γ (39, 0, 0) 11 ∧ u.2 (39, 0, 0) 12 = Γ (39, 0, 0) 12 ∧ u.2 (39, 0, 0) 13 = Γ (39, 0, 0) 13 ∧ u.2 (39, 0, 0) 15 = Γ (39, 0, 0) 15) (tp_BG D cy L K Γ f [39]) A) #[.ref o, .int p0] s 0 0 A) (F0 m 12 ls [])) (α := (Nat → va_E) × Int32 × Int32) (fun aq => (60 - aq.2.1.toInt).toNat) (fun aq H locs ls => (0 ≤ aq.2.1.toInt) ∧ (aq.2.1.toInt ≤ 60) ∧ va_P D vwCl (va_pl L aq.1) H ∧ tp_I cy L K Γ_18 aq.1 ∧ (∀ b, (K b).1 ∉ ([39] : List Nat) → aq.1 b = f b) ∧ va_S A s.heap H locs ∧ lv_has ls 6 [(5, .int aq.2.1), (4, .int aq.2.2), (2, .long r_15), (0, .ref o), (1, .int p0)]) ?_ (f_16, (0 : Int32), (0 : Int32)) H locs ls ⟨(show 0 ≤ (0 : Int) from (by omega)), (show (0 : Int) ≤ 60 from (by omega)), hP, hI, hfr, hS, lv_sub hl [0, 1, 2, 3, 4] rfl⟩
  rintro ⟨f_20, v5, v4⟩ H locs ls ⟨h0, h1, hP, hI, hfr, hS, hl⟩ ih12
  have hP : va_P D vwCl (va_pl L f_20) H := hP
  have hI : tp_I cy L K Γ_18 f_20 := hI
  have hfr : ∀ b, (K b).1 ∉ ([39] : List Nat) → f_20 b = f b := hfr
  have hD : va_D A (va_pl L f_20) := tp_D hL hAL
  have h0 : 0 ≤ v5.toInt := h0
  have h1 : v5.toInt ≤ 60 := h1
  have hl : lv_has ls 6 [(5, .int v5), (4, .int v4), (2, .long r_15), (0, .ref o), (1, .int p0)] := hl
  refine lv_iload hx hb dX12_theres_12 (lv_at hl 0 rfl) ?_
  refine lv_aload_n hx hb dX12_theres_14 rfl (lv_at hl 3 rfl) ?_
  obtain ⟨r_22, v_23, q_24, hf_21, hr_25, hv_26⟩ := (show tp_o_M L K 0 0 (Γ_18 (39, 0, 0)) (f_20 o) from hI.at ho)
  refine tp_get (cy := cy) (ci := 12) (v := .ref (r_22 0)) (C := RX12) (T := TX12) (N := 49) hx hb hta inlX12 hown hK hP ho.1 hf_21 rfl 0 (by decide) (hta _ wk_149) (fun _ h9 => h9) rfl dX12_theres_15 ?_
  refine lv_iconst (v := 3) hx hb dX12_theres_18 (by decide) ?_
  obtain ⟨g_35, hf_34, hg_36⟩ := (show tp_gi cy (7666) (Γ (40, 7666, 0)) (f (r_22 0)) from hI0.at (show tp_r L K 40 7666 0 (r_22 0) from hr_25 0 (by decide)))
  have hn_37 : vp_in 3 (7666) := tl_in (by decide) (by decide)
  refine tp_iald (cy := cy) hx hb hK hP (show tp_r L K 40 7666 0 (r_22 0) from hr_25 0 (by decide)).1 ((tp_un hfr (show tp_r L K 40 7666 0 (r_22 0) from hr_25 0 (by decide)) (by decide)).trans hf_34) hn_37 dX12_theres_19 ?_
  refine lv_topi (fun z_38 ez_38 => ?_)
  have iz_38 : z_38.toInt = Γ (40, 7666, 0) 3 := by rw [ez_38]; exact hg_36 _ (tp_pin hn_37)
  refine lv_icmp_ge (tgt := 89) hx hb dX12_theres_20 (by decide) (fun c_39 => ?_) (fun c_39 => ?_)
  · have c_39 : z_38.toInt ≤ v5.toInt := tl_le c_39
    refine lv_iload hx hb dX12_theres_89 (lv_at hl 1 rfl) ?_
    have hpo9 : Γ_18 (39, 0, 0) 0 = Γ (39, 0, 0) 0 ∧ Γ_18 (39, 0, 0) 10 = Γ (39, 0, 0) 10 ∧ Γ_18 (39, 0, 0) 11 = Γ (39, 0, 0) 11 ∧ Γ_18 (39, 0, 0) 12 = Γ (39, 0, 0) 12 ∧ Γ_18 (39, 0, 0) 13 = Γ (39, 0, 0) 13 ∧ Γ_18 (39, 0, 0) 15 = Γ (39, 0, 0) 15 := ⟨(by omega), (by omega), (by omega), (by omega), (by omega), (by omega)⟩
    exact W.iret (v := v4) hx hb hr (fun t ht hW => ⟨⟨_, (f_20, Γ_18), rfl, hpo9, by rw [ht]; exact hP, hI, hfr, hgr⟩, hS.F ht⟩) hS.2.2 dX12_theres_91
  · have c_39 : v5.toInt < z_38.toInt := tl_nle c_39
    refine lv_lload_n hx hb dX12_theres_23 rfl (lv_at hl 2 rfl) ?_
    refine lv_lconst (v := 0) hx hb dX12_theres_24 (by decide) ?_
    refine W.lcmp hx hb dX12_theres_25 ?_
    refine lv_if_lt (tgt := 89) hx hb dX12_theres_26 (by decide) (fun c_40 => ?_) (fun c_40 => ?_)
    · have c_40 : r_15.toInt < (0 : Int) := tl_cmp_lt c_40
      refine lv_iload hx hb dX12_theres_89 (lv_at hl 1 rfl) ?_
      have hpo9 : Γ_18 (39, 0, 0) 0 = Γ (39, 0, 0) 0 ∧ Γ_18 (39, 0, 0) 10 = Γ (39, 0, 0) 10 ∧ Γ_18 (39, 0, 0) 11 = Γ (39, 0, 0) 11 ∧ Γ_18 (39, 0, 0) 12 = Γ (39, 0, 0) 12 ∧ Γ_18 (39, 0, 0) 13 = Γ (39, 0, 0) 13 ∧ Γ_18 (39, 0, 0) 15 = Γ (39, 0, 0) 15 := ⟨(by omega), (by omega), (by omega), (by omega), (by omega), (by omega)⟩
      exact W.iret (v := v4) hx hb hr (fun t ht hW => ⟨⟨_, (f_20, Γ_18), rfl, hpo9, by rw [ht]; exact hP, hI, hfr, hgr⟩, hS.F ht⟩) hS.2.2 dX12_theres_91
    · have c_40 : r_15.toInt ≥ (0 : Int) := tl_cmp_nlt c_40
      refine lv_iload hx hb dX12_theres_29 (lv_at hl 1 rfl) ?_
      refine lv_aload_n hx hb dX12_theres_31 rfl (lv_at hl 3 rfl) ?_
      refine lv_iload hx hb dX12_theres_32 (lv_at hl 0 rfl) ?_
      refine lv_iload_n hx hb dX12_theres_34 rfl (lv_at hl 4 rfl) ?_
      refine tl_si (tq_rV (As := [.int v5, .int p0]) (rest := [.int v4]) ⟨hx, hb, hml, hown, hta⟩ (tp_P.pre hK hN hL hU hI hP) (tp_recv hK hP ho.1 hf_21 rfl) lk_X12_477 (r_X12_isElse l D cy H.size L K Γ_18 f_20 o v5 p0 ho (by first | omega | assumption | (rw [hgr (40, 7666, 0) (by decide), hgr (42, 3, 0) (by decide)]; first | exact hsd | assumption | omega)) (by first | omega | (simp only [Int32.toInt_toInt64]; omega) | decide | assumption)) rfl rfl ⟨Nat.le_of_ble_eq_true rfl, Nat.le_of_ble_eq_true rfl⟩ rfl hl.1 rfl (Nat.le_of_ble_eq_true rfl) dX12_theres_35 ⟨Nat.le_of_ble_eq_true rfl, Nat.le_of_ble_eq_true rfl⟩) (fun r_42 hw_41 => ?_)
      have hw_41 : tl_J r_42 (True) := hw_41
      refine lv_if_eq (tgt := 79) hx hb dX12_theres_38 (by decide) (fun c_43 => ?_) (fun c_43 => ?_)
      · have c_43 := c_43
        refine lv_iconst (v := 0) hx hb dX12_theres_79 (by decide) ?_
        refine lv_iadd hx hb dX12_theres_80 ?_
        refine lv_topi (fun z_44 ez_44 => ?_)
        try have iz_44 : z_44.toInt = v4.toInt + (0 : Int) := by rw [ez_44]; exact tl_addN v4 0 rfl rfl (by omega) (by omega)
        refine lv_istore (lv' := [(4, .int z_44), (5, .int v5), (2, .long r_15), (0, .ref o), (1, .int p0)]) hx hb dX12_theres_81 hl (by decide) rfl (fun ls hl => ?_)
        obtain ⟨z_45, ez_45⟩ : ∃ y : Int32, y = v5 + 1 := ⟨_, rfl⟩
        refine lv_iinc (v := z_45) (lv' := [(5, .int z_45), (4, .int z_44), (2, .long r_15), (0, .ref o), (1, .int p0)]) hx hb dX12_theres_83 hl (k := 1) rfl (by rw [ez_45]; rfl) (by decide) rfl (fun ls hl => ?_)
        try have iz_45 : z_45.toInt = v5.toInt + 1 := by rw [ez_45]; exact tl_addL v5 1 (by decide) (by omega) (by omega)
        refine lv_goto (tgt := 12) hx hb dX12_theres_86 (by decide) ?_
        exact ih12 (f_20, z_45, z_44) H locs ls (by show (60 - z_45.toInt).toNat < (60 - v5.toInt).toNat; omega) ⟨(show 0 ≤ z_45.toInt from (by omega)), (show z_45.toInt ≤ 60 from (by omega)), hP, hI, hfr, hS, lv_sub hl [0, 1, 2, 3, 4] rfl⟩
      · have c_43 := hw_41.t c_43
        refine lv_ldc2 (v := (-2)) hx hb hown (hta _ wk_1124) dX12_theres_41 ?_
        refine lv_aload_n hx hb dX12_theres_44 rfl (lv_at hl 3 rfl) ?_
        refine tp_get (cy := cy) (ci := 12) (v := .ref (r_22 23)) (C := RX12) (T := TX12) (N := 49) hx hb hta inlX12 hown hK hP ho.1 hf_21 rfl 38 (by decide) (hta _ wk_173) (fun _ h9 => h9) rfl dX12_theres_45 ?_
        refine lv_aload_n hx hb dX12_theres_48 rfl (lv_at hl 3 rfl) ?_
        refine lv_iload hx hb dX12_theres_49 (lv_at hl 0 rfl) ?_
        refine lv_iconst (v := 1) hx hb dX12_theres_51 (by decide) ?_
        refine tl_si (tq_rV (As := [.int v5, .int 1]) (rest := [.ref (r_22 23), .long (-2), .int v4]) ⟨hx, hb, hml, hown, hta⟩ (tp_P.pre hK hN hL hU hI hP) (tp_recv hK hP ho.1 hf_21 rfl) lk_X12_143 (r_X12_lineOf l D cy H.size L K Γ_18 f_20 o v5 1 ho (by first | omega | (simp only [Int32.toInt_toInt64]; omega) | decide | assumption) (by first | omega | (simp only [Int32.toInt_toInt64]; omega) | decide | assumption)) rfl rfl ⟨Nat.le_of_ble_eq_true rfl, Nat.le_of_ble_eq_true rfl⟩ rfl hl.1 rfl (Nat.le_of_ble_eq_true rfl) dX12_theres_52 ⟨Nat.le_of_ble_eq_true rfl, Nat.le_of_ble_eq_true rfl⟩) (fun r_47 hw_46 => ?_)
        have hw_46 : r_47.toInt = Γ_18 (40, 7666, 0) (241 + 3 * v5.toInt + (1 : Int)).toNat := hw_46
        have hlir_47 : 0 ≤ r_47.toInt ∧ r_47.toInt ≤ 299 := by have q9 := ts_ln hsd v5.toInt.toNat (by omega); rw [show Γ (40, 7666, 0) (242 + 3 * v5.toInt.toNat) = r_47.toInt from (((hw_46.trans (congrFun (hgr (40, 7666, 0) (by decide)) _))).trans (congrArg _ (by omega))).symm] at q9; exact q9
        obtain ⟨g_49, hf_48⟩ := (show tp_aj cy (300) (f (r_22 23)) from hI0.at (show tp_r L K 63 300 0 (r_22 23) from hr_25 23 (by decide)))
        have hn_51 : vp_in r_47 (300) := tl_in (by omega) (by omega)
        refine tp_lald (cy := cy) hx hb hK hP (show tp_r L K 63 300 0 (r_22 23) from hr_25 23 (by decide)).1 ((tp_un hfr (show tp_r L K 63 300 0 (r_22 23) from hr_25 23 (by decide)) (by decide)).trans hf_48) hn_51 dX12_theres_55 ?_
        refine lv_topl (fun z_52 ez_52 => ?_)
        refine lv_lmul hx hb dX12_theres_56 ?_
        refine lv_topl (fun z_53 ez_53 => ?_)
        refine lv_lload_n hx hb dX12_theres_57 rfl (lv_at hl 2 rfl) ?_
        refine lv_aload_n hx hb dX12_theres_58 rfl (lv_at hl 3 rfl) ?_
        refine lv_iload hx hb dX12_theres_59 (lv_at hl 0 rfl) ?_
        refine lv_iconst (v := 2) hx hb dX12_theres_61 (by decide) ?_
        refine tl_si (tq_rV (As := [.int v5, .int 2]) (rest := [.long r_15, .long z_53, .int v4]) ⟨hx, hb, hml, hown, hta⟩ (tp_P.pre hK hN hL hU hI hP) (tp_recv hK hP ho.1 hf_21 rfl) lk_X12_143 (r_X12_lineOf l D cy H.size L K Γ_18 f_20 o v5 2 ho (by first | omega | (simp only [Int32.toInt_toInt64]; omega) | decide | assumption) (by first | omega | (simp only [Int32.toInt_toInt64]; omega) | decide | assumption)) rfl rfl ⟨Nat.le_of_ble_eq_true rfl, Nat.le_of_ble_eq_true rfl⟩ rfl hl.1 rfl (Nat.le_of_ble_eq_true rfl) dX12_theres_62 ⟨Nat.le_of_ble_eq_true rfl, Nat.le_of_ble_eq_true rfl⟩) (fun r_55 hw_54 => ?_)
        have hw_54 : r_55.toInt = Γ_18 (40, 7666, 0) (241 + 3 * v5.toInt + (2 : Int)).toNat := hw_54
        have hlir_55 : 1 ≤ r_55.toInt := by have q9 := ts_dp hsd v5.toInt.toNat (by omega); rw [show Γ (40, 7666, 0) (243 + 3 * v5.toInt.toNat) = r_55.toInt from (((hw_54.trans (congrFun (hgr (40, 7666, 0) (by decide)) _))).trans (congrArg _ (by omega))).symm] at q9; exact q9
        refine lv_i2l (v := r_55.toInt64) hx hb dX12_theres_65 (by first | rfl | decide) ?_
        refine lv_lmul hx hb dX12_theres_66 ?_
        refine lv_topl (fun z_56 ez_56 => ?_)
        refine lv_ldc2 (v := 1000) hx hb hown (hta _ wk_326) dX12_theres_67 ?_
        refine lv_ldiv hx hb dX12_theres_70 (by decide) ?_
        refine lv_topl (fun z_57 ez_57 => ?_)
        refine W.lcmp hx hb dX12_theres_71 ?_
        refine lv_if_lt (tgt := 79) hx hb dX12_theres_72 (by decide) (fun c_58 => ?_) (fun c_58 => ?_)
        · have c_58 : z_53.toInt < z_57.toInt := tl_cmp_lt c_58
          refine lv_iconst (v := 0) hx hb dX12_theres_79 (by decide) ?_
          refine lv_iadd hx hb dX12_theres_80 ?_
          refine lv_topi (fun z_59 ez_59 => ?_)
          try have iz_59 : z_59.toInt = v4.toInt + (0 : Int) := by rw [ez_59]; exact tl_addN v4 0 rfl rfl (by omega) (by omega)
          refine lv_istore (lv' := [(4, .int z_59), (5, .int v5), (2, .long r_15), (0, .ref o), (1, .int p0)]) hx hb dX12_theres_81 hl (by decide) rfl (fun ls hl => ?_)
          obtain ⟨z_60, ez_60⟩ : ∃ y : Int32, y = v5 + 1 := ⟨_, rfl⟩
          refine lv_iinc (v := z_60) (lv' := [(5, .int z_60), (4, .int z_59), (2, .long r_15), (0, .ref o), (1, .int p0)]) hx hb dX12_theres_83 hl (k := 1) rfl (by rw [ez_60]; rfl) (by decide) rfl (fun ls hl => ?_)
          try have iz_60 : z_60.toInt = v5.toInt + 1 := by rw [ez_60]; exact tl_addL v5 1 (by decide) (by omega) (by omega)
          refine lv_goto (tgt := 12) hx hb dX12_theres_86 (by decide) ?_
          exact ih12 (f_20, z_60, z_59) H locs ls (by show (60 - z_60.toInt).toNat < (60 - v5.toInt).toNat; omega) ⟨(show 0 ≤ z_60.toInt from (by omega)), (show z_60.toInt ≤ 60 from (by omega)), hP, hI, hfr, hS, lv_sub hl [0, 1, 2, 3, 4] rfl⟩
        · have c_58 : z_53.toInt ≥ z_57.toInt := tl_cmp_nlt c_58
          refine lv_iconst (v := 1) hx hb dX12_theres_75 (by decide) ?_
          refine lv_goto (tgt := 80) hx hb dX12_theres_76 (by decide) ?_
          refine lv_iadd hx hb dX12_theres_80 ?_
          refine lv_topi (fun z_61 ez_61 => ?_)
          try have iz_61 : z_61.toInt = v4.toInt + (1 : Int) := by rw [ez_61]; exact tl_addN v4 1 rfl rfl (by omega) (by omega)
          refine lv_istore (lv' := [(4, .int z_61), (5, .int v5), (2, .long r_15), (0, .ref o), (1, .int p0)]) hx hb dX12_theres_81 hl (by decide) rfl (fun ls hl => ?_)
          obtain ⟨z_62, ez_62⟩ : ∃ y : Int32, y = v5 + 1 := ⟨_, rfl⟩
          refine lv_iinc (v := z_62) (lv' := [(5, .int z_62), (4, .int z_61), (2, .long r_15), (0, .ref o), (1, .int p0)]) hx hb dX12_theres_83 hl (k := 1) rfl (by rw [ez_62]; rfl) (by decide) rfl (fun ls hl => ?_)
          try have iz_62 : z_62.toInt = v5.toInt + 1 := by rw [ez_62]; exact tl_addL v5 1 (by decide) (by omega) (by omega)
          refine lv_goto (tgt := 12) hx hb dX12_theres_86 (by decide) ?_
          exact ih12 (f_20, z_62, z_61) H locs ls (by show (60 - z_62.toInt).toNat < (60 - v5.toInt).toNat; omega) ⟨(show 0 ≤ z_62.toInt from (by omega)), (show z_62.toInt ≤ 60 from (by omega)), hP, hI, hfr, hS, lv_sub hl [0, 1, 2, 3, 4] rfl⟩
set_option maxHeartbeats 4000000 in
set_option maxRecDepth 100000 in
theorem r_X12_boundOf (l : Launch) (D : va_G) (cy : Nat → ClassId) (sz : Nat) (L : List Nat) (K : Nat → tk_K) (Γ : tk_G) (f : Nat → va_E) (o : Nat) (p0 : Int32) (ho : tp_r L K 39 (0) 0 o) (hsd : ts_said (Γ (40, 7666, 0)) (Γ (42, 3, 0) 1)) (hu : 0 < Γ (39, 0, 0) 13 → 0 < Γ (39, 0, 0) 10) : Met l yX12_boundOf (tl_w yX12_boundOf cX12_boundOf 7 (some .long)) ({ frames := 2, cells := 0, slots := 0, locals := 45 }) (va_Pc [.ref o, .int p0] (tp_P D cy L K Γ f sz)) (vp_Sl (fun r : Int64 => True)) 0 0 (fun _ => False) := by
  refine Met.ofW (cc := cX12_boundOf) (maxL := 7) (ret := (some .long)) (by decide) rfl ?_
  intro p e s m args below meth c s₁ B hml hv
  obtain ⟨rfl, hsz, hP, hK, hL, hI, hN, hU⟩ := hv
  have hx := B.exec
  have hb := B.bytes
  have hr := B.returns
  have hta := tl_hta (atoms_spec (ws := tl_w yX12_boundOf cX12_boundOf 7 (some .long)) B.pre)
  have hown : s.vm.findClass RX12 = some m.cls := findClass_of_methodNamed B.named
  have hlocks := B.notSynchronized
  subst hsz
  have hI0 := hI
  have hl := lv_entry ([.ref o, .int p0]) (n := 7) (Nat.le_of_ble_eq_true rfl)
  rw [lg_entry_eq]
  generalize (lg_sl ([.ref o, .int p0]) ++ List.replicate (7 - (lg_sl ([.ref o, .int p0])).length) Slot.unset).toArray = ls at hl ⊢
  have hl : lv_has ls 7 [(0, .ref o), (1, .int p0)] := hl
  have hs := ts_hs hsd
  refine lv_ldc2 (v := (-1)) hx hb hown (hta _ wk_991) dX12_boundOf_0 ?_
  refine lv_lstore_n (lv' := [(2, .long (-1)), (0, .ref o), (1, .int p0)]) hx hb dX12_boundOf_3 rfl hl (by decide) rfl (fun ls hl => ?_)
  refine lv_iconst (v := 0) hx hb dX12_boundOf_4 (by decide) ?_
  refine lv_istore (lv' := [(4, .int 0), (2, .long (-1)), (0, .ref o), (1, .int p0)]) hx hb dX12_boundOf_5 hl (by decide) rfl (fun ls hl => ?_)
  refine tl_indR (G := fun ls => W p l e ((headSpec (tl_w yX12_boundOf cX12_boundOf 7 (some .long)) ({ frames := 2, cells := 0, slots := 0, locals := 45 })).room) s m #[.ref o, .int p0] below meth c s.heap [] 0 0 (MQ below (vp_Sl (fun r : Int64 => True)) #[.ref o, .int p0] s 0 0 (fun _ => False)) (F0 m 7 ls [])) (α := Int32 × Int64) (fun aq => (60 - aq.1.toInt).toNat) (fun aq ls => (0 ≤ aq.1.toInt) ∧ (aq.1.toInt ≤ 60) ∧ lv_has ls 7 [(4, .int aq.1), (2, .long aq.2), (0, .ref o), (1, .int p0)]) ?_ ((0 : Int32), ((-1) : Int64)) ls ⟨(show 0 ≤ (0 : Int) from (by omega)), (show (0 : Int) ≤ 60 from (by omega)), lv_sub hl [0, 1, 2, 3] rfl⟩
  rintro ⟨v4, v2⟩ ls ⟨h0, h1, hl⟩ ih7
  have h0 : 0 ≤ v4.toInt := h0
  have h1 : v4.toInt ≤ 60 := h1
  have hl : lv_has ls 7 [(4, .int v4), (2, .long v2), (0, .ref o), (1, .int p0)] := hl
  refine lv_iload hx hb dX12_boundOf_7 (lv_at hl 0 rfl) ?_
  refine lv_aload_n hx hb dX12_boundOf_9 rfl (lv_at hl 2 rfl) ?_
  obtain ⟨r_2, v_3, q_4, hf_1, hr_5, hv_6⟩ := (show tp_o_M L K 0 0 (Γ (39, 0, 0)) (f o) from hI0.at ho)
  have hx_11 : (v_3 13).toInt = Γ (39, 0, 0) 13 := hv_6 13 (by decide)
  refine tp_get (cy := cy) (ci := 12) (v := .ref (r_2 0)) (C := RX12) (T := TX12) (N := 49) hx hb hta inlX12 hown hK hP ho.1 hf_1 rfl 0 (by decide) (hta _ wk_149) (fun _ h9 => h9) rfl dX12_boundOf_10 ?_
  refine lv_iconst (v := 3) hx hb dX12_boundOf_13 (by decide) ?_
  obtain ⟨g_15, hf_14, hg_16⟩ := (show tp_gi cy (7666) (Γ (40, 7666, 0)) (f (r_2 0)) from hI0.at (show tp_r L K 40 7666 0 (r_2 0) from hr_5 0 (by decide)))
  have hn_17 : vp_in 3 (7666) := tl_in (by decide) (by decide)
  refine tp_iald (cy := cy) hx hb hK hP (show tp_r L K 40 7666 0 (r_2 0) from hr_5 0 (by decide)).1 hf_14 hn_17 dX12_boundOf_14 ?_
  refine lv_topi (fun z_18 ez_18 => ?_)
  have iz_18 : z_18.toInt = Γ (40, 7666, 0) 3 := by rw [ez_18]; exact hg_16 _ (tp_pin hn_17)
  refine lv_icmp_ge (tgt := 113) hx hb dX12_boundOf_15 (by decide) (fun c_19 => ?_) (fun c_19 => ?_)
  · have c_19 : z_18.toInt ≤ v4.toInt := tl_le c_19
    refine lv_lload_n hx hb dX12_boundOf_113 rfl (lv_at hl 1 rfl) ?_
    exact W.lret (v := v2) hx hb hr (fun t ht hW => ⟨_, rfl, trivial, ht⟩) (fun q h => by cases h) dX12_boundOf_114
  · have c_19 : v4.toInt < z_18.toInt := tl_nle c_19
    refine lv_aload_n hx hb dX12_boundOf_18 rfl (lv_at hl 2 rfl) ?_
    refine tp_get (cy := cy) (ci := 12) (v := .int (v_3 13)) (C := RX12) (T := TX12) (N := 49) hx hb hta inlX12 hown hK hP ho.1 hf_1 rfl 37 (by decide) (hta _ wk_903) (fun _ h9 => h9) rfl dX12_boundOf_19 ?_
    refine lv_if_le (tgt := 113) hx hb dX12_boundOf_22 (by decide) (fun c_20 => ?_) (fun c_20 => ?_)
    · have c_20 : (v_3 13).toInt ≤ (0 : Int) := tl_le c_20
      refine lv_lload_n hx hb dX12_boundOf_113 rfl (lv_at hl 1 rfl) ?_
      exact W.lret (v := v2) hx hb hr (fun t ht hW => ⟨_, rfl, trivial, ht⟩) (fun q h => by cases h) dX12_boundOf_114
    · have c_20 : (0 : Int) < (v_3 13).toInt := tl_nle c_20
      refine lv_aload_n hx hb dX12_boundOf_25 rfl (lv_at hl 2 rfl) ?_
      refine lv_iload hx hb dX12_boundOf_26 (lv_at hl 0 rfl) ?_
      refine lv_iload_n hx hb dX12_boundOf_28 rfl (lv_at hl 3 rfl) ?_
      refine tl_si (tq_rV (As := [.int v4, .int p0]) (rest := []) ⟨hx, hb, hml, hown, hta⟩ (tp_P.pre hK hN hL hU hI hP) (tp_recv hK hP ho.1 hf_1 rfl) lk_X12_477 (r_X12_isElse l D cy s.heap.size L K Γ f o v4 p0 ho (by first | omega | (simp only [Int32.toInt_toInt64]; omega) | decide | assumption) (by first | omega | (simp only [Int32.toInt_toInt64]; omega) | decide | assumption)) rfl rfl ⟨Nat.le_of_ble_eq_true rfl, Nat.le_of_ble_eq_true rfl⟩ rfl hl.1 rfl (Nat.le_of_ble_eq_true rfl) dX12_boundOf_29 ⟨Nat.le_of_ble_eq_true rfl, Nat.le_of_ble_eq_true rfl⟩) (fun r_22 hw_21 => ?_)
      have hw_21 : tl_J r_22 (True) := hw_21
      refine lv_if_ne (tgt := 38) hx hb dX12_boundOf_32 (by decide) (fun c_23 => ?_) (fun c_23 => ?_)
      · have c_23 := hw_21.t c_23
        refine lv_aload_n hx hb dX12_boundOf_38 rfl (lv_at hl 2 rfl) ?_
        refine tl_sl (tq_rV (As := []) (rest := []) ⟨hx, hb, hml, hown, hta⟩ (tp_P.pre hK hN hL hU hI hP) (tp_recv hK hP ho.1 hf_1 rfl) lk_X12_434 (r_X12_noiseNow l D cy s.heap.size L K Γ f o ho (by first | omega | (simp only [Int32.toInt_toInt64]; omega) | decide | assumption)) rfl rfl ⟨Nat.le_of_ble_eq_true rfl, Nat.le_of_ble_eq_true rfl⟩ rfl hl.1 rfl (Nat.le_of_ble_eq_true rfl) dX12_boundOf_39 ⟨Nat.le_of_ble_eq_true rfl, Nat.le_of_ble_eq_true rfl⟩) (fun r_25 hw_24 => ?_)
        have hw_24 : 1 ≤ r_25.toInt := hw_24
        refine lv_aload_n hx hb dX12_boundOf_42 rfl (lv_at hl 2 rfl) ?_
        refine tp_get (cy := cy) (ci := 12) (v := .ref (r_2 23)) (C := RX12) (T := TX12) (N := 49) hx hb hta inlX12 hown hK hP ho.1 hf_1 rfl 38 (by decide) (hta _ wk_173) (fun _ h9 => h9) rfl dX12_boundOf_43 ?_
        refine lv_aload_n hx hb dX12_boundOf_46 rfl (lv_at hl 2 rfl) ?_
        refine lv_iload hx hb dX12_boundOf_47 (lv_at hl 0 rfl) ?_
        refine lv_iconst (v := 1) hx hb dX12_boundOf_49 (by decide) ?_
        refine tl_si (tq_rV (As := [.int v4, .int 1]) (rest := [.ref (r_2 23), .long r_25]) ⟨hx, hb, hml, hown, hta⟩ (tp_P.pre hK hN hL hU hI hP) (tp_recv hK hP ho.1 hf_1 rfl) lk_X12_143 (r_X12_lineOf l D cy s.heap.size L K Γ f o v4 1 ho (by first | omega | (simp only [Int32.toInt_toInt64]; omega) | decide | assumption) (by first | omega | (simp only [Int32.toInt_toInt64]; omega) | decide | assumption)) rfl rfl ⟨Nat.le_of_ble_eq_true rfl, Nat.le_of_ble_eq_true rfl⟩ rfl hl.1 rfl (Nat.le_of_ble_eq_true rfl) dX12_boundOf_50 ⟨Nat.le_of_ble_eq_true rfl, Nat.le_of_ble_eq_true rfl⟩) (fun r_27 hw_26 => ?_)
        have hw_26 : r_27.toInt = Γ (40, 7666, 0) (241 + 3 * v4.toInt + (1 : Int)).toNat := hw_26
        have hlir_27 : 0 ≤ r_27.toInt ∧ r_27.toInt ≤ 299 := by have q9 := ts_ln hsd v4.toInt.toNat (by omega); rw [show Γ (40, 7666, 0) (242 + 3 * v4.toInt.toNat) = r_27.toInt from ((hw_26).trans (congrArg _ (by omega))).symm] at q9; exact q9
        obtain ⟨g_29, hf_28⟩ := (show tp_aj cy (300) (f (r_2 23)) from hI0.at (show tp_r L K 63 300 0 (r_2 23) from hr_5 23 (by decide)))
        have hn_31 : vp_in r_27 (300) := tl_in (by omega) (by omega)
        refine tp_lald (cy := cy) hx hb hK hP (show tp_r L K 63 300 0 (r_2 23) from hr_5 23 (by decide)).1 hf_28 hn_31 dX12_boundOf_53 ?_
        refine lv_topl (fun z_32 ez_32 => ?_)
        refine lv_lsub hx hb dX12_boundOf_54 ?_
        refine lv_topl (fun z_33 ez_33 => ?_)
        refine lv_ldc2 (v := 1000) hx hb hown (hta _ wk_326) dX12_boundOf_55 ?_
        refine lv_lmul hx hb dX12_boundOf_58 ?_
        refine lv_topl (fun z_34 ez_34 => ?_)
        refine lv_aload_n hx hb dX12_boundOf_59 rfl (lv_at hl 2 rfl) ?_
        refine lv_iload hx hb dX12_boundOf_60 (lv_at hl 0 rfl) ?_
        refine lv_iconst (v := 2) hx hb dX12_boundOf_62 (by decide) ?_
        refine tl_si (tq_rV (As := [.int v4, .int 2]) (rest := [.long z_34]) ⟨hx, hb, hml, hown, hta⟩ (tp_P.pre hK hN hL hU hI hP) (tp_recv hK hP ho.1 hf_1 rfl) lk_X12_143 (r_X12_lineOf l D cy s.heap.size L K Γ f o v4 2 ho (by first | omega | (simp only [Int32.toInt_toInt64]; omega) | decide | assumption) (by first | omega | (simp only [Int32.toInt_toInt64]; omega) | decide | assumption)) rfl rfl ⟨Nat.le_of_ble_eq_true rfl, Nat.le_of_ble_eq_true rfl⟩ rfl hl.1 rfl (Nat.le_of_ble_eq_true rfl) dX12_boundOf_63 ⟨Nat.le_of_ble_eq_true rfl, Nat.le_of_ble_eq_true rfl⟩) (fun r_36 hw_35 => ?_)
        have hw_35 : r_36.toInt = Γ (40, 7666, 0) (241 + 3 * v4.toInt + (2 : Int)).toNat := hw_35
        have hlir_36 : 1 ≤ r_36.toInt := by have q9 := ts_dp hsd v4.toInt.toNat (by omega); rw [show Γ (40, 7666, 0) (243 + 3 * v4.toInt.toNat) = r_36.toInt from ((hw_35).trans (congrArg _ (by omega))).symm] at q9; exact q9
        refine lv_i2l (v := r_36.toInt64) hx hb dX12_boundOf_66 (by first | rfl | decide) ?_
        refine tl_sl (tq_rS (As := [.long z_34, .long r_36.toInt64]) (rest := []) ⟨hx, hb, hml, hown, hta⟩ (tp_P.pre hK hN hL hU hI hP) lk_X12_401 (r_X12_down l D cy s.heap.size L K Γ f z_34 r_36.toInt64 (by first | omega | (simp only [Int32.toInt_toInt64]; omega) | decide | assumption)) rfl rfl ⟨Nat.le_of_ble_eq_true rfl, Nat.le_of_ble_eq_true rfl⟩ rfl hl.1 rfl (Nat.le_of_ble_eq_true rfl) dX12_boundOf_67 ⟨Nat.le_of_ble_eq_true rfl, Nat.le_of_ble_eq_true rfl⟩) (fun r_38 hw_37 => ?_)
        refine lv_lstore (lv' := [(5, .long r_38), (4, .int v4), (2, .long v2), (0, .ref o), (1, .int p0)]) hx hb dX12_boundOf_70 hl (by decide) rfl (fun ls hl => ?_)
        refine lv_lload hx hb dX12_boundOf_72 (lv_at hl 0 rfl) ?_
        refine lv_lconst (v := 0) hx hb dX12_boundOf_74 (by decide) ?_
        refine W.lcmp hx hb dX12_boundOf_75 ?_
        refine lv_if_ge (tgt := 83) hx hb dX12_boundOf_76 (by decide) (fun c_39 => ?_) (fun c_39 => ?_)
        · have c_39 : r_38.toInt ≥ (0 : Int) := tl_cmp_ge c_39
          refine lv_lload hx hb dX12_boundOf_83 (lv_at hl 0 rfl) ?_
          refine lv_lstore (lv' := [(5, .long r_38), (4, .int v4), (2, .long v2), (0, .ref o), (1, .int p0)]) hx hb dX12_boundOf_85 hl (by decide) rfl (fun ls hl => ?_)
          refine lv_lload_n hx hb dX12_boundOf_87 rfl (lv_at hl 2 rfl) ?_
          refine lv_lconst (v := 0) hx hb dX12_boundOf_88 (by decide) ?_
          refine W.lcmp hx hb dX12_boundOf_89 ?_
          refine lv_if_lt (tgt := 100) hx hb dX12_boundOf_90 (by decide) (fun c_40 => ?_) (fun c_40 => ?_)
          · have c_40 : v2.toInt < (0 : Int) := tl_cmp_lt c_40
            refine lv_lload hx hb dX12_boundOf_100 (lv_at hl 0 rfl) ?_
            refine lv_goto (tgt := 106) hx hb dX12_boundOf_102 (by decide) ?_
            refine lv_lstore_n (lv' := [(2, .long r_38), (5, .long r_38), (4, .int v4), (0, .ref o), (1, .int p0)]) hx hb dX12_boundOf_106 rfl hl (by decide) rfl (fun ls hl => ?_)
            obtain ⟨z_41, ez_41⟩ : ∃ y : Int32, y = v4 + 1 := ⟨_, rfl⟩
            refine lv_iinc (v := z_41) (lv' := [(4, .int z_41), (2, .long r_38), (5, .long r_38), (0, .ref o), (1, .int p0)]) hx hb dX12_boundOf_107 hl (k := 2) rfl (by rw [ez_41]; rfl) (by decide) rfl (fun ls hl => ?_)
            try have iz_41 : z_41.toInt = v4.toInt + 1 := by rw [ez_41]; exact tl_addL v4 1 (by decide) (by omega) (by omega)
            refine lv_goto (tgt := 7) hx hb dX12_boundOf_110 (by decide) ?_
            exact ih7 (z_41, r_38) ls (by show (60 - z_41.toInt).toNat < (60 - v4.toInt).toNat; omega) ⟨(show 0 ≤ z_41.toInt from (by omega)), (show z_41.toInt ≤ 60 from (by omega)), lv_sub hl [0, 1, 3, 4] rfl⟩
          · have c_40 : v2.toInt ≥ (0 : Int) := tl_cmp_nlt c_40
            refine lv_lload hx hb dX12_boundOf_93 (lv_at hl 0 rfl) ?_
            refine lv_lload_n hx hb dX12_boundOf_95 rfl (lv_at hl 2 rfl) ?_
            refine W.lcmp hx hb dX12_boundOf_96 ?_
            refine lv_if_ge (tgt := 105) hx hb dX12_boundOf_97 (by decide) (fun c_42 => ?_) (fun c_42 => ?_)
            · have c_42 : r_38.toInt ≥ v2.toInt := tl_cmp_ge c_42
              refine lv_lload_n hx hb dX12_boundOf_105 rfl (lv_at hl 2 rfl) ?_
              refine lv_lstore_n (lv' := [(2, .long v2), (5, .long r_38), (4, .int v4), (0, .ref o), (1, .int p0)]) hx hb dX12_boundOf_106 rfl hl (by decide) rfl (fun ls hl => ?_)
              obtain ⟨z_43, ez_43⟩ : ∃ y : Int32, y = v4 + 1 := ⟨_, rfl⟩
              refine lv_iinc (v := z_43) (lv' := [(4, .int z_43), (2, .long v2), (5, .long r_38), (0, .ref o), (1, .int p0)]) hx hb dX12_boundOf_107 hl (k := 2) rfl (by rw [ez_43]; rfl) (by decide) rfl (fun ls hl => ?_)
              try have iz_43 : z_43.toInt = v4.toInt + 1 := by rw [ez_43]; exact tl_addL v4 1 (by decide) (by omega) (by omega)
              refine lv_goto (tgt := 7) hx hb dX12_boundOf_110 (by decide) ?_
              exact ih7 (z_43, v2) ls (by show (60 - z_43.toInt).toNat < (60 - v4.toInt).toNat; omega) ⟨(show 0 ≤ z_43.toInt from (by omega)), (show z_43.toInt ≤ 60 from (by omega)), lv_sub hl [0, 1, 3, 4] rfl⟩
            · have c_42 : r_38.toInt < v2.toInt := tl_cmp_nge c_42
              refine lv_lload hx hb dX12_boundOf_100 (lv_at hl 0 rfl) ?_
              refine lv_goto (tgt := 106) hx hb dX12_boundOf_102 (by decide) ?_
              refine lv_lstore_n (lv' := [(2, .long r_38), (5, .long r_38), (4, .int v4), (0, .ref o), (1, .int p0)]) hx hb dX12_boundOf_106 rfl hl (by decide) rfl (fun ls hl => ?_)
              obtain ⟨z_44, ez_44⟩ : ∃ y : Int32, y = v4 + 1 := ⟨_, rfl⟩
              refine lv_iinc (v := z_44) (lv' := [(4, .int z_44), (2, .long r_38), (5, .long r_38), (0, .ref o), (1, .int p0)]) hx hb dX12_boundOf_107 hl (k := 2) rfl (by rw [ez_44]; rfl) (by decide) rfl (fun ls hl => ?_)
              try have iz_44 : z_44.toInt = v4.toInt + 1 := by rw [ez_44]; exact tl_addL v4 1 (by decide) (by omega) (by omega)
              refine lv_goto (tgt := 7) hx hb dX12_boundOf_110 (by decide) ?_
              exact ih7 (z_44, r_38) ls (by show (60 - z_44.toInt).toNat < (60 - v4.toInt).toNat; omega) ⟨(show 0 ≤ z_44.toInt from (by omega)), (show z_44.toInt ≤ 60 from (by omega)), lv_sub hl [0, 1, 3, 4] rfl⟩
        · have c_39 : r_38.toInt < (0 : Int) := tl_cmp_nge c_39
          refine lv_lconst (v := 0) hx hb dX12_boundOf_79 (by decide) ?_
          refine lv_goto (tgt := 85) hx hb dX12_boundOf_80 (by decide) ?_
          refine lv_lstore (lv' := [(5, .long 0), (4, .int v4), (2, .long v2), (0, .ref o), (1, .int p0)]) hx hb dX12_boundOf_85 hl (by decide) rfl (fun ls hl => ?_)
          refine lv_lload_n hx hb dX12_boundOf_87 rfl (lv_at hl 2 rfl) ?_
          refine lv_lconst (v := 0) hx hb dX12_boundOf_88 (by decide) ?_
          refine W.lcmp hx hb dX12_boundOf_89 ?_
          refine lv_if_lt (tgt := 100) hx hb dX12_boundOf_90 (by decide) (fun c_45 => ?_) (fun c_45 => ?_)
          · have c_45 : v2.toInt < (0 : Int) := tl_cmp_lt c_45
            refine lv_lload hx hb dX12_boundOf_100 (lv_at hl 0 rfl) ?_
            refine lv_goto (tgt := 106) hx hb dX12_boundOf_102 (by decide) ?_
            refine lv_lstore_n (lv' := [(2, .long 0), (5, .long 0), (4, .int v4), (0, .ref o), (1, .int p0)]) hx hb dX12_boundOf_106 rfl hl (by decide) rfl (fun ls hl => ?_)
            obtain ⟨z_46, ez_46⟩ : ∃ y : Int32, y = v4 + 1 := ⟨_, rfl⟩
            refine lv_iinc (v := z_46) (lv' := [(4, .int z_46), (2, .long 0), (5, .long 0), (0, .ref o), (1, .int p0)]) hx hb dX12_boundOf_107 hl (k := 2) rfl (by rw [ez_46]; rfl) (by decide) rfl (fun ls hl => ?_)
            try have iz_46 : z_46.toInt = v4.toInt + 1 := by rw [ez_46]; exact tl_addL v4 1 (by decide) (by omega) (by omega)
            refine lv_goto (tgt := 7) hx hb dX12_boundOf_110 (by decide) ?_
            exact ih7 (z_46, 0) ls (by show (60 - z_46.toInt).toNat < (60 - v4.toInt).toNat; omega) ⟨(show 0 ≤ z_46.toInt from (by omega)), (show z_46.toInt ≤ 60 from (by omega)), lv_sub hl [0, 1, 3, 4] rfl⟩
          · have c_45 : v2.toInt ≥ (0 : Int) := tl_cmp_nlt c_45
            refine lv_lload hx hb dX12_boundOf_93 (lv_at hl 0 rfl) ?_
            refine lv_lload_n hx hb dX12_boundOf_95 rfl (lv_at hl 2 rfl) ?_
            refine W.lcmp hx hb dX12_boundOf_96 ?_
            refine lv_if_ge (tgt := 105) hx hb dX12_boundOf_97 (by decide) (fun c_47 => ?_) (fun c_47 => ?_)
            · have c_47 : (0 : Int) ≥ v2.toInt := tl_cmp_ge c_47
              refine lv_lload_n hx hb dX12_boundOf_105 rfl (lv_at hl 2 rfl) ?_
              refine lv_lstore_n (lv' := [(2, .long v2), (5, .long 0), (4, .int v4), (0, .ref o), (1, .int p0)]) hx hb dX12_boundOf_106 rfl hl (by decide) rfl (fun ls hl => ?_)
              obtain ⟨z_48, ez_48⟩ : ∃ y : Int32, y = v4 + 1 := ⟨_, rfl⟩
              refine lv_iinc (v := z_48) (lv' := [(4, .int z_48), (2, .long v2), (5, .long 0), (0, .ref o), (1, .int p0)]) hx hb dX12_boundOf_107 hl (k := 2) rfl (by rw [ez_48]; rfl) (by decide) rfl (fun ls hl => ?_)
              try have iz_48 : z_48.toInt = v4.toInt + 1 := by rw [ez_48]; exact tl_addL v4 1 (by decide) (by omega) (by omega)
              refine lv_goto (tgt := 7) hx hb dX12_boundOf_110 (by decide) ?_
              exact ih7 (z_48, v2) ls (by show (60 - z_48.toInt).toNat < (60 - v4.toInt).toNat; omega) ⟨(show 0 ≤ z_48.toInt from (by omega)), (show z_48.toInt ≤ 60 from (by omega)), lv_sub hl [0, 1, 3, 4] rfl⟩
            · have c_47 : (0 : Int) < v2.toInt := tl_cmp_nge c_47
              refine lv_lload hx hb dX12_boundOf_100 (lv_at hl 0 rfl) ?_
              refine lv_goto (tgt := 106) hx hb dX12_boundOf_102 (by decide) ?_
              refine lv_lstore_n (lv' := [(2, .long 0), (5, .long 0), (4, .int v4), (0, .ref o), (1, .int p0)]) hx hb dX12_boundOf_106 rfl hl (by decide) rfl (fun ls hl => ?_)
              obtain ⟨z_49, ez_49⟩ : ∃ y : Int32, y = v4 + 1 := ⟨_, rfl⟩
              refine lv_iinc (v := z_49) (lv' := [(4, .int z_49), (2, .long 0), (5, .long 0), (0, .ref o), (1, .int p0)]) hx hb dX12_boundOf_107 hl (k := 2) rfl (by rw [ez_49]; rfl) (by decide) rfl (fun ls hl => ?_)
              try have iz_49 : z_49.toInt = v4.toInt + 1 := by rw [ez_49]; exact tl_addL v4 1 (by decide) (by omega) (by omega)
              refine lv_goto (tgt := 7) hx hb dX12_boundOf_110 (by decide) ?_
              exact ih7 (z_49, 0) ls (by show (60 - z_49.toInt).toNat < (60 - v4.toInt).toNat; omega) ⟨(show 0 ≤ z_49.toInt from (by omega)), (show z_49.toInt ≤ 60 from (by omega)), lv_sub hl [0, 1, 3, 4] rfl⟩
      · have c_23 := c_23
        refine lv_goto (tgt := 107) hx hb dX12_boundOf_35 (by decide) ?_
        obtain ⟨z_50, ez_50⟩ : ∃ y : Int32, y = v4 + 1 := ⟨_, rfl⟩
        refine lv_iinc (v := z_50) (lv' := [(4, .int z_50), (2, .long v2), (0, .ref o), (1, .int p0)]) hx hb dX12_boundOf_107 hl (k := 0) rfl (by rw [ez_50]; rfl) (by decide) rfl (fun ls hl => ?_)
        try have iz_50 : z_50.toInt = v4.toInt + 1 := by rw [ez_50]; exact tl_addL v4 1 (by decide) (by omega) (by omega)
        refine lv_goto (tgt := 7) hx hb dX12_boundOf_110 (by decide) ?_
        exact ih7 (z_50, v2) ls (by show (60 - z_50.toInt).toNat < (60 - v4.toInt).toNat; omega) ⟨(show 0 ≤ z_50.toInt from (by omega)), (show z_50.toInt ≤ 60 from (by omega)), lv_sub hl [0, 1, 2, 3] rfl⟩
set_option maxHeartbeats 4000000 in
set_option maxRecDepth 100000 in
theorem r_X12_stuff (l : Launch) (D : va_G) (cy : Nat → ClassId) (sz : Nat) (L : List Nat) (K : Nat → tk_K) (Γ : tk_G) (f : Nat → va_E) (o : Nat) (p0 : Int32) (p1 : Int32) (p2 : Int32) (p3 : Int32) (ho : tp_r L K 39 (0) 0 o) (htx : tx_ok (Γ (43, 8800, 0)) (Γ (45, 1056, 0)) (Γ (46, 22, 0)) (Γ (47, 6, 0)) (Γ (48, 22, 0)) (Γ (49, 22, 0)) (Γ (50, 22, 0)) (Γ (51, 22, 0)) (Γ (42, 3, 0))) (hsd : ts_said (Γ (40, 7666, 0)) (Γ (42, 3, 0) 1)) : Met l yX12_stuff (tl_w yX12_stuff cX12_stuff 5 (some .long)) ({ frames := 7, cells := 0, slots := 0, locals := 177 }) (va_Pc [.ref o, .int p0, .int p1, .int p2, .int p3] (tp_P D cy L K Γ f sz)) (va_Ql (fun (r : Int64) (u : (Nat → va_E) × tk_G) => u.2 (39, 0, 0) 0 = Γ (39, 0, 0) 0) (tp_BG D cy L K Γ f [39, 58, 57, 60, 61, 62, 63, 59]) (tp_A L sz)) 0 0 (tp_A L sz) := by
  refine Met.ofW (cc := cX12_stuff) (maxL := 5) (ret := (some .long)) (by decide) rfl ?_
  intro p e s m args below meth c s₁ B hml hv
  obtain ⟨rfl, hsz, hP, hK, hL, hI, hN, hU⟩ := hv
  have hx := B.exec
  have hb := B.bytes
  have hr := B.returns
  have hta := tl_hta (atoms_spec (ws := tl_w yX12_stuff cX12_stuff 5 (some .long)) B.pre)
  have hown : s.vm.findClass RX12 = some m.cls := findClass_of_methodNamed B.named
  have hlocks := B.notSynchronized
  subst hsz
  have hI0 := hI
  generalize hAe : tp_A L s.heap.size = A
  have hA : ∀ q : Nat, s.heap.size ≤ q → A q := fun q h => by rw [← hAe]; exact Or.inr h
  have hAL : ∀ q ∈ L, A q := fun q h => by rw [← hAe]; exact Or.inl h
  have hAf : ∀ (H : Heap), s.heap.size ≤ H.size → ∀ q, tp_A L H.size q → A q := fun H h q hq => hq.elim (hAL q) (fun h2 => hA q (Nat.le_trans h h2))
  have hS : va_S A s.heap s.heap [] := va_S.rf
  have hD : va_D A (va_pl L f) := tp_D hL hAL
  have hfr : ∀ b, (K b).1 ∉ ([39, 58, 57, 60, 61, 62, 63, 59] : List Nat) → f b = f b := fun _ _ => rfl
  have hgr : ∀ κ : tk_K, κ.1 ∉ ([39, 58, 57, 60, 61, 62, 63, 59] : List Nat) → Γ κ = Γ κ := fun _ _ => rfl
  have hl := lv_entry ([.ref o, .int p0, .int p1, .int p2, .int p3]) (n := 5) (Nat.le_of_ble_eq_true rfl)
  rw [lg_entry_eq]
  generalize (lg_sl ([.ref o, .int p0, .int p1, .int p2, .int p3]) ++ List.replicate (5 - (lg_sl ([.ref o, .int p0, .int p1, .int p2, .int p3])).length) Slot.unset).toArray = ls at hl ⊢
  have hl : lv_has ls 5 [(0, .ref o), (1, .int p0), (2, .int p1), (3, .int p2), (4, .int p3)] := hl
  have hs := ts_hs hsd
  have hraw := ts_raw hsd
  have hslp := ts_slp hsd
  have htb := htx.1
  refine lv_aload_n hx hb dX12_stuff_0 rfl (lv_at hl 0 rfl) ?_
  refine lv_iload_n hx hb dX12_stuff_1 rfl (lv_at hl 1 rfl) ?_
  refine lv_iload_n hx hb dX12_stuff_2 rfl (lv_at hl 2 rfl) ?_
  obtain ⟨r_2, v_3, q_4, hf_1, hr_5, hv_6⟩ := (show tp_o_M L K 0 0 (Γ (39, 0, 0)) (f o) from hI.at ho)
  refine tl_si (tq_rV (As := [.int p0, .int p1]) (rest := []) ⟨hx, hb, hml, hown, hta⟩ (tp_P.pre hK hN hL hU hI hP) (tp_recv hK hP ho.1 hf_1 rfl) lk_X12_447 (r_X12_canAsk l D cy s.heap.size L K Γ f o p0 p1 ho) rfl rfl ⟨Nat.le_of_ble_eq_true rfl, Nat.le_of_ble_eq_true rfl⟩ rfl hl.1 rfl (Nat.le_of_ble_eq_true rfl) dX12_stuff_3 ⟨Nat.le_of_ble_eq_true rfl, Nat.le_of_ble_eq_true rfl⟩) (fun r_15 hw_14 => ?_)
  have hw_14 : tl_E r_15 ((0 ≤ p0.toInt ∧ p0.toInt < Γ (42, 3, 0) 1) ∧ 0 ≤ p1.toInt ∧ p1.toInt < Γ (40, 7666, 0) 1) 1 0 := hw_14
  refine lv_if_eq (tgt := 34) hx hb dX12_stuff_6 (by decide) (fun c_16 => ?_) (fun c_16 => ?_)
  · have c_16 := hw_14.f c_16
    refine lv_ldc2 (v := (-2)) hx hb hown (hta _ wk_1124) dX12_stuff_34 ?_
    have hpo9 : Γ (39, 0, 0) 0 = Γ (39, 0, 0) 0 := (by omega)
    exact W.lret (v := (-2)) hx hb hr (fun t ht hW => ⟨⟨_, (f, Γ), rfl, hpo9, by rw [ht]; exact hP, hI, hfr, hgr⟩, hS.F ht⟩) hS.2.2 dX12_stuff_37
  · have c_16 := hw_14.t c_16
    refine lv_iload_n hx hb dX12_stuff_9 rfl (lv_at hl 3 rfl) ?_
    refine lv_i2l (v := p2.toInt64) hx hb dX12_stuff_10 (by first | rfl | decide) ?_
    refine lv_lconst (v := 0) hx hb dX12_stuff_11 (by decide) ?_
    refine lv_ldc2 (v := 11) hx hb hown (hta _ wk_325) dX12_stuff_12 ?_
    refine tl_si (tq_rS (As := [.long p2.toInt64, .long 0, .long 11]) (rest := []) ⟨hx, hb, hml, hown, hta⟩ (tp_P.pre hK hN hL hU hI hP) lk_X12_112 (r_X12_in l D cy s.heap.size L K Γ f p2.toInt64 0 11 ) rfl rfl ⟨Nat.le_of_ble_eq_true rfl, Nat.le_of_ble_eq_true rfl⟩ rfl hl.1 rfl (Nat.le_of_ble_eq_true rfl) dX12_stuff_15 ⟨Nat.le_of_ble_eq_true rfl, Nat.le_of_ble_eq_true rfl⟩) (fun r_18 hw_17 => ?_)
    simp only [Int32.toInt_toInt64] at hw_17
    have hw_17 : tl_E r_18 ((0 : Int) ≤ p2.toInt ∧ p2.toInt ≤ (11 : Int)) 1 0 := hw_17
    refine lv_if_eq (tgt := 34) hx hb dX12_stuff_18 (by decide) (fun c_19 => ?_) (fun c_19 => ?_)
    · have c_19 := hw_17.f c_19
      refine lv_ldc2 (v := (-2)) hx hb hown (hta _ wk_1124) dX12_stuff_34 ?_
      have hpo9 : Γ (39, 0, 0) 0 = Γ (39, 0, 0) 0 := (by omega)
      exact W.lret (v := (-2)) hx hb hr (fun t ht hW => ⟨⟨_, (f, Γ), rfl, hpo9, by rw [ht]; exact hP, hI, hfr, hgr⟩, hS.F ht⟩) hS.2.2 dX12_stuff_37
    · have c_19 := hw_17.t c_19
      refine lv_iload hx hb dX12_stuff_21 (lv_at hl 4 rfl) ?_
      refine lv_i2l (v := p3.toInt64) hx hb dX12_stuff_23 (by first | rfl | decide) ?_
      refine lv_lconst (v := 0) hx hb dX12_stuff_24 (by decide) ?_
      refine lv_ldc2 (v := 3) hx hb hown (hta _ wk_221) dX12_stuff_25 ?_
      refine tl_si (tq_rS (As := [.long p3.toInt64, .long 0, .long 3]) (rest := []) ⟨hx, hb, hml, hown, hta⟩ (tp_P.pre hK hN hL hU hI hP) lk_X12_112 (r_X12_in l D cy s.heap.size L K Γ f p3.toInt64 0 3 ) rfl rfl ⟨Nat.le_of_ble_eq_true rfl, Nat.le_of_ble_eq_true rfl⟩ rfl hl.1 rfl (Nat.le_of_ble_eq_true rfl) dX12_stuff_28 ⟨Nat.le_of_ble_eq_true rfl, Nat.le_of_ble_eq_true rfl⟩) (fun r_21 hw_20 => ?_)
      simp only [Int32.toInt_toInt64] at hw_20
      have hw_20 : tl_E r_21 ((0 : Int) ≤ p3.toInt ∧ p3.toInt ≤ (3 : Int)) 1 0 := hw_20
      refine lv_if_ne (tgt := 38) hx hb dX12_stuff_31 (by decide) (fun c_22 => ?_) (fun c_22 => ?_)
      · have c_22 := hw_20.t c_22
        refine lv_aload_n hx hb dX12_stuff_38 rfl (lv_at hl 0 rfl) ?_
        refine lv_iload_n hx hb dX12_stuff_39 rfl (lv_at hl 1 rfl) ?_
        refine lv_iload_n hx hb dX12_stuff_40 rfl (lv_at hl 2 rfl) ?_
        refine tq_clR hS (hAf _ hS.1) (tq_rV (As := [.int p0, .int p1]) (rest := []) ⟨hx, hb, hml, hown, hta⟩ (tp_P.pre hK hN hL hU hI hP) (tp_recv hK hP ho.1 hf_1 rfl) lk_X12_450 (r_X12_scoreOf l D cy s.heap.size L K Γ f o p0 p1 ho (by first | omega | (simp only [Int32.toInt_toInt64]; omega) | decide | assumption) (by first | omega | (simp only [Int32.toInt_toInt64]; omega) | decide | assumption) (by first | omega | (simp only [Int32.toInt_toInt64]; omega) | decide | assumption) (by first | omega | (simp only [Int32.toInt_toInt64]; omega) | decide | assumption)) rfl rfl ⟨Nat.le_of_ble_eq_true rfl, Nat.le_of_ble_eq_true rfl⟩ rfl hl.1 rfl (Nat.le_of_ble_eq_true rfl) dX12_stuff_41 ⟨Nat.le_of_ble_eq_true rfl, Nat.le_of_ble_eq_true rfl⟩) (fun r_24 f_25 Γ_27 H locs hw_23 hP hI hc_26 hcg_28 hS => ?_)
        have hD : va_D A (va_pl L f_25) := tp_D hL hAL
        have hfr := tp_fr2 hfr hc_26 (by decide)
        have hgr : ∀ κ : tk_K, κ.1 ∉ ([39, 58, 57, 60, 61, 62, 63, 59] : List Nat) → Γ_27 κ = Γ κ := tg_fr2 hgr hcg_28 (by decide)
        have hw_23 : Γ_27 (39, 0, 0) 0 = Γ (39, 0, 0) 0 ∧ (0 ≤ Γ_27 (39, 0, 0) 11 ∧ Γ_27 (39, 0, 0) 12 ≤ 299) ∧ (Γ_27 (39, 0, 0) 11 = Γ (49, 22, 0) (6 + p0.toInt).toNat ∧ Γ_27 (39, 0, 0) 12 = Γ (50, 22, 0) (6 + p0.toInt).toNat) ∧ (Γ_27 (39, 0, 0) 15 = 0 ∨ Γ_27 (39, 0, 0) 15 = 1) ∧ (0 ≤ Γ_27 (39, 0, 0) 13 ∧ Γ_27 (39, 0, 0) 13 ≤ 42) ∧ (0 < Γ_27 (39, 0, 0) 13 → 0 < Γ_27 (39, 0, 0) 10) ∧ (Γ_27 (39, 0, 0) 15 = 1 → 0 < Γ_27 (39, 0, 0) 13 ∧ 0 < Γ_27 (39, 0, 0) 14) ∧ (Γ_27 (39, 0, 0) 15 = 1 → gex (Γ_27 (59, 300, 0)) (Γ (49, 22, 0) (6 + p0.toInt).toNat) (Γ (50, 22, 0) (6 + p0.toInt).toNat + 1)) ∧ (∀ j : Nat, (j : Int) < Γ_27 (39, 0, 0) 13 → 0 ≤ Γ_27 (61, 42, 0) j ∧ Γ_27 (61, 42, 0) j ≤ 299) ∧ (∀ j : Nat, (j : Int) + 1 < Γ_27 (39, 0, 0) 13 → Γ_27 (61, 42, 0) j < Γ_27 (61, 42, 0) (j + 1)) ∧ (∀ j : Nat, j < 300 → (Γ_27 (59, 300, 0) j = -1000000 ∨ (-500000 ≤ Γ_27 (59, 300, 0) j ∧ Γ_27 (59, 300, 0) j ≤ 500000))) := hw_23
        obtain ⟨hq0, hqb, hq11, hq15, hq13, hq10, hqd, hqg, hqk, hqr, hql⟩ := hw_23
        refine lv_pop2_2 hx hb dX12_stuff_44 rfl ?_
        refine lv_iload hx hb dX12_stuff_45 (lv_at hl 4 rfl) ?_
        refine lv_if_ne (tgt := 58) hx hb dX12_stuff_47 (by decide) (fun c_29 => ?_) (fun c_29 => ?_)
        · have c_29 : ¬ p3.toInt = (0 : Int) := tl_neq c_29
          refine lv_iload hx hb dX12_stuff_58 (lv_at hl 4 rfl) ?_
          refine lv_iconst (v := 1) hx hb dX12_stuff_60 (by decide) ?_
          refine lv_icmp_ne (tgt := 73) hx hb dX12_stuff_61 (by decide) (fun c_30 => ?_) (fun c_30 => ?_)
          · have c_30 : ¬ p3.toInt = (1 : Int) := tl_neq c_30
            refine lv_iload hx hb dX12_stuff_73 (lv_at hl 4 rfl) ?_
            refine lv_iconst (v := 2) hx hb dX12_stuff_75 (by decide) ?_
            refine lv_icmp_ne (tgt := 88) hx hb dX12_stuff_76 (by decide) (fun c_31 => ?_) (fun c_31 => ?_)
            · have c_31 : ¬ p3.toInt = (2 : Int) := tl_neq c_31
              refine lv_aload_n hx hb dX12_stuff_88 rfl (lv_at hl 0 rfl) ?_
              refine lv_iload_n hx hb dX12_stuff_89 rfl (lv_at hl 3 rfl) ?_
              obtain ⟨r_33, v_34, q_35, hf_32, hr_36, hv_37⟩ := (show tp_o_M L K 0 0 (Γ_27 (39, 0, 0)) (f_25 o) from hI.at ho)
              refine tl_sl (tq_rV (As := [.int p2]) (rest := []) ⟨hx, hb, hml, hown, hta⟩ (tp_P.pre hK hN hL hU hI hP) (tp_recv hK hP ho.1 hf_32 rfl) lk_X12_491 (r_X12_boundOf l D cy H.size L K Γ_27 f_25 o p2 ho (by first | omega | assumption | (rw [hgr (40, 7666, 0) (by decide), hgr (42, 3, 0) (by decide)]; first | exact hsd | assumption | omega)) (by first | omega | (simp only [Int32.toInt_toInt64]; omega) | decide | assumption)) rfl rfl ⟨Nat.le_of_ble_eq_true rfl, Nat.le_of_ble_eq_true rfl⟩ rfl hl.1 rfl (Nat.le_of_ble_eq_true rfl) dX12_stuff_90 ⟨Nat.le_of_ble_eq_true rfl, Nat.le_of_ble_eq_true rfl⟩) (fun r_46 hw_45 => ?_)
              have hpo9 : Γ_27 (39, 0, 0) 0 = Γ (39, 0, 0) 0 := (by omega)
              exact W.lret (v := r_46) hx hb hr (fun t ht hW => ⟨⟨_, (f_25, Γ_27), rfl, hpo9, by rw [ht]; exact hP, hI, hfr, hgr⟩, hS.F ht⟩) hS.2.2 dX12_stuff_93
            · have c_31 : p3.toInt = (2 : Int) := tl_eq c_31
              refine lv_aload_n hx hb dX12_stuff_79 rfl (lv_at hl 0 rfl) ?_
              refine lv_iload_n hx hb dX12_stuff_80 rfl (lv_at hl 3 rfl) ?_
              obtain ⟨r_48, v_49, q_50, hf_47, hr_51, hv_52⟩ := (show tp_o_M L K 0 0 (Γ_27 (39, 0, 0)) (f_25 o) from hI.at ho)
              refine tq_ciR hS (hAf _ hS.1) (tq_rV (As := [.int p2]) (rest := []) ⟨hx, hb, hml, hown, hta⟩ (tp_P.pre hK hN hL hU hI hP) (tp_recv hK hP ho.1 hf_47 rfl) lk_X12_488 (r_X12_theres l D cy H.size L K Γ_27 f_25 o p2 ho (by first | omega | assumption | (rw [hgr (40, 7666, 0) (by decide), hgr (42, 3, 0) (by decide)]; first | exact hsd | assumption | omega)) (by first | omega | (simp only [Int32.toInt_toInt64]; omega) | decide | assumption)) rfl rfl ⟨Nat.le_of_ble_eq_true rfl, Nat.le_of_ble_eq_true rfl⟩ rfl hl.1 rfl (Nat.le_of_ble_eq_true rfl) dX12_stuff_81 ⟨Nat.le_of_ble_eq_true rfl, Nat.le_of_ble_eq_true rfl⟩) (fun r_61 f_62 Γ_64 H locs hw_60 hP hI hc_63 hcg_65 hS => ?_)
              have hD : va_D A (va_pl L f_62) := tp_D hL hAL
              have hfr := tp_fr2 hfr hc_63 (by decide)
              have hgr : ∀ κ : tk_K, κ.1 ∉ ([39, 58, 57, 60, 61, 62, 63, 59] : List Nat) → Γ_64 κ = Γ κ := tg_fr2 hgr hcg_65 (by decide)
              have hw_60 : Γ_64 (39, 0, 0) 0 = Γ_27 (39, 0, 0) 0 ∧ Γ_64 (39, 0, 0) 10 = Γ_27 (39, 0, 0) 10 ∧ Γ_64 (39, 0, 0) 11 = Γ_27 (39, 0, 0) 11 ∧ Γ_64 (39, 0, 0) 12 = Γ_27 (39, 0, 0) 12 ∧ Γ_64 (39, 0, 0) 13 = Γ_27 (39, 0, 0) 13 ∧ Γ_64 (39, 0, 0) 15 = Γ_27 (39, 0, 0) 15 := hw_60
              refine lv_i2l (v := r_61.toInt64) hx hb dX12_stuff_84 (by first | rfl | decide) ?_
              refine lv_goto (tgt := 93) hx hb dX12_stuff_85 (by decide) ?_
              have hpo9 : Γ_64 (39, 0, 0) 0 = Γ (39, 0, 0) 0 := (by omega)
              exact W.lret (v := r_61.toInt64) hx hb hr (fun t ht hW => ⟨⟨_, (f_62, Γ_64), rfl, hpo9, by rw [ht]; exact hP, hI, hfr, hgr⟩, hS.F ht⟩) hS.2.2 dX12_stuff_93
          · have c_30 : p3.toInt = (1 : Int) := tl_eq c_30
            refine lv_aload_n hx hb dX12_stuff_64 rfl (lv_at hl 0 rfl) ?_
            refine lv_iload_n hx hb dX12_stuff_65 rfl (lv_at hl 3 rfl) ?_
            obtain ⟨r_67, v_68, q_69, hf_66, hr_70, hv_71⟩ := (show tp_o_M L K 0 0 (Γ_27 (39, 0, 0)) (f_25 o) from hI.at ho)
            refine tl_si (tq_rV (As := [.int p2]) (rest := []) ⟨hx, hb, hml, hown, hta⟩ (tp_P.pre hK hN hL hU hI hP) (tp_recv hK hP ho.1 hf_66 rfl) lk_X12_485 (r_X12_elses l D cy H.size L K Γ_27 f_25 o p2 ho (by first | omega | assumption | (rw [hgr (40, 7666, 0) (by decide), hgr (42, 3, 0) (by decide)]; first | exact hsd | assumption | omega))) rfl rfl ⟨Nat.le_of_ble_eq_true rfl, Nat.le_of_ble_eq_true rfl⟩ rfl hl.1 rfl (Nat.le_of_ble_eq_true rfl) dX12_stuff_66 ⟨Nat.le_of_ble_eq_true rfl, Nat.le_of_ble_eq_true rfl⟩) (fun r_80 hw_79 => ?_)
            refine lv_i2l (v := r_80.toInt64) hx hb dX12_stuff_69 (by first | rfl | decide) ?_
            refine lv_goto (tgt := 93) hx hb dX12_stuff_70 (by decide) ?_
            have hpo9 : Γ_27 (39, 0, 0) 0 = Γ (39, 0, 0) 0 := (by omega)
            exact W.lret (v := r_80.toInt64) hx hb hr (fun t ht hW => ⟨⟨_, (f_25, Γ_27), rfl, hpo9, by rw [ht]; exact hP, hI, hfr, hgr⟩, hS.F ht⟩) hS.2.2 dX12_stuff_93
        · have c_29 : p3.toInt = (0 : Int) := tl_eq c_29
          refine lv_aload_n hx hb dX12_stuff_50 rfl (lv_at hl 0 rfl) ?_
          refine lv_iload_n hx hb dX12_stuff_51 rfl (lv_at hl 3 rfl) ?_
          obtain ⟨r_82, v_83, q_84, hf_81, hr_85, hv_86⟩ := (show tp_o_M L K 0 0 (Γ_27 (39, 0, 0)) (f_25 o) from hI.at ho)
          refine tq_clR hS (hAf _ hS.1) (tq_rV (As := [.int p2]) (rest := []) ⟨hx, hb, hml, hown, hta⟩ (tp_P.pre hK hN hL hU hI hP) (tp_recv hK hP ho.1 hf_81 rfl) lk_X12_480 (r_X12_amountOf l D cy H.size L K Γ_27 f_25 o p2 ho (by first | omega | assumption | (rw [hgr (40, 7666, 0) (by decide)]; first | assumption | omega)) (by first | omega | (simp only [Int32.toInt_toInt64]; omega) | decide | assumption)) rfl rfl ⟨Nat.le_of_ble_eq_true rfl, Nat.le_of_ble_eq_true rfl⟩ rfl hl.1 rfl (Nat.le_of_ble_eq_true rfl) dX12_stuff_52 ⟨Nat.le_of_ble_eq_true rfl, Nat.le_of_ble_eq_true rfl⟩) (fun r_95 f_96 Γ_98 H locs hw_94 hP hI hc_97 hcg_99 hS => ?_)
          have hD : va_D A (va_pl L f_96) := tp_D hL hAL
          have hfr := tp_fr2 hfr hc_97 (by decide)
          have hgr : ∀ κ : tk_K, κ.1 ∉ ([39, 58, 57, 60, 61, 62, 63, 59] : List Nat) → Γ_98 κ = Γ κ := tg_fr2 hgr hcg_99 (by decide)
          have hw_94 : Γ_98 (39, 0, 0) 0 = Γ_27 (39, 0, 0) 0 ∧ Γ_98 (39, 0, 0) 10 = Γ_27 (39, 0, 0) 10 ∧ Γ_98 (39, 0, 0) 11 = Γ_27 (39, 0, 0) 11 ∧ Γ_98 (39, 0, 0) 12 = Γ_27 (39, 0, 0) 12 ∧ Γ_98 (39, 0, 0) 13 = Γ_27 (39, 0, 0) 13 ∧ Γ_98 (39, 0, 0) 15 = Γ_27 (39, 0, 0) 15 := hw_94
          refine lv_goto (tgt := 93) hx hb dX12_stuff_55 (by decide) ?_
          have hpo9 : Γ_98 (39, 0, 0) 0 = Γ (39, 0, 0) 0 := (by omega)
          exact W.lret (v := r_95) hx hb hr (fun t ht hW => ⟨⟨_, (f_96, Γ_98), rfl, hpo9, by rw [ht]; exact hP, hI, hfr, hgr⟩, hS.F ht⟩) hS.2.2 dX12_stuff_93
      · have c_22 := hw_20.f c_22
        refine lv_ldc2 (v := (-2)) hx hb hown (hta _ wk_1124) dX12_stuff_34 ?_
        have hpo9 : Γ (39, 0, 0) 0 = Γ (39, 0, 0) 0 := (by omega)
        exact W.lret (v := (-2)) hx hb hr (fun t ht hW => ⟨⟨_, (f, Γ), rfl, hpo9, by rw [ht]; exact hP, hI, hfr, hgr⟩, hS.F ht⟩) hS.2.2 dX12_stuff_37
set_option maxHeartbeats 4000000 in
set_option maxRecDepth 100000 in
theorem r_X12_likeliest (l : Launch) (D : va_G) (cy : Nat → ClassId) (sz : Nat) (L : List Nat) (K : Nat → tk_K) (Γ : tk_G) (f : Nat → va_E) (o : Nat) (p0 : Int32) (p1 : Int32) (ho : tp_r L K 39 (0) 0 o) (htx : tx_ok (Γ (43, 8800, 0)) (Γ (45, 1056, 0)) (Γ (46, 22, 0)) (Γ (47, 6, 0)) (Γ (48, 22, 0)) (Γ (49, 22, 0)) (Γ (50, 22, 0)) (Γ (51, 22, 0)) (Γ (42, 3, 0))) (hsd : ts_said (Γ (40, 7666, 0)) (Γ (42, 3, 0) 1)) : Met l yX12_likeliest (tl_w yX12_likeliest cX12_likeliest 10 (some .int)) ({ frames := 7, cells := 0, slots := 0, locals := 177 }) (va_Pc [.ref o, .int p0, .int p1] (tp_P D cy L K Γ f sz)) (va_Qi (fun (r : Int32) (u : (Nat → va_E) × tk_G) => u.2 (39, 0, 0) 0 = Γ (39, 0, 0) 0) (tp_BG D cy L K Γ f [39, 58, 57, 60, 61, 62, 63, 59]) (tp_A L sz)) 0 0 (tp_A L sz) := by
  refine Met.ofW (cc := cX12_likeliest) (maxL := 10) (ret := (some .int)) (by decide) rfl ?_
  intro p e s m args below meth c s₁ B hml hv
  obtain ⟨rfl, hsz, hP, hK, hL, hI, hN, hU⟩ := hv
  have hx := B.exec
  have hb := B.bytes
  have hr := B.returns
  have hta := tl_hta (atoms_spec (ws := tl_w yX12_likeliest cX12_likeliest 10 (some .int)) B.pre)
  have hown : s.vm.findClass RX12 = some m.cls := findClass_of_methodNamed B.named
  have hlocks := B.notSynchronized
  subst hsz
  have hI0 := hI
  generalize hAe : tp_A L s.heap.size = A
  have hA : ∀ q : Nat, s.heap.size ≤ q → A q := fun q h => by rw [← hAe]; exact Or.inr h
  have hAL : ∀ q ∈ L, A q := fun q h => by rw [← hAe]; exact Or.inl h
  have hAf : ∀ (H : Heap), s.heap.size ≤ H.size → ∀ q, tp_A L H.size q → A q := fun H h q hq => hq.elim (hAL q) (fun h2 => hA q (Nat.le_trans h h2))
  have hS : va_S A s.heap s.heap [] := va_S.rf
  have hD : va_D A (va_pl L f) := tp_D hL hAL
  have hfr : ∀ b, (K b).1 ∉ ([39, 58, 57, 60, 61, 62, 63, 59] : List Nat) → f b = f b := fun _ _ => rfl
  have hgr : ∀ κ : tk_K, κ.1 ∉ ([39, 58, 57, 60, 61, 62, 63, 59] : List Nat) → Γ κ = Γ κ := fun _ _ => rfl
  have hl := lv_entry ([.ref o, .int p0, .int p1]) (n := 10) (Nat.le_of_ble_eq_true rfl)
  rw [lg_entry_eq]
  generalize (lg_sl ([.ref o, .int p0, .int p1]) ++ List.replicate (10 - (lg_sl ([.ref o, .int p0, .int p1])).length) Slot.unset).toArray = ls at hl ⊢
  have hl : lv_has ls 10 [(0, .ref o), (1, .int p0), (2, .int p1)] := hl
  have hs := ts_hs hsd
  have hraw := ts_raw hsd
  have hslp := ts_slp hsd
  have htb := htx.1
  refine lv_aload_n hx hb dX12_likeliest_0 rfl (lv_at hl 0 rfl) ?_
  refine lv_iload_n hx hb dX12_likeliest_1 rfl (lv_at hl 1 rfl) ?_
  refine lv_iload_n hx hb dX12_likeliest_2 rfl (lv_at hl 2 rfl) ?_
  obtain ⟨r_2, v_3, q_4, hf_1, hr_5, hv_6⟩ := (show tp_o_M L K 0 0 (Γ (39, 0, 0)) (f o) from hI.at ho)
  refine tl_si (tq_rV (As := [.int p0, .int p1]) (rest := []) ⟨hx, hb, hml, hown, hta⟩ (tp_P.pre hK hN hL hU hI hP) (tp_recv hK hP ho.1 hf_1 rfl) lk_X12_447 (r_X12_canAsk l D cy s.heap.size L K Γ f o p0 p1 ho) rfl rfl ⟨Nat.le_of_ble_eq_true rfl, Nat.le_of_ble_eq_true rfl⟩ rfl hl.1 rfl (Nat.le_of_ble_eq_true rfl) dX12_likeliest_3 ⟨Nat.le_of_ble_eq_true rfl, Nat.le_of_ble_eq_true rfl⟩) (fun r_15 hw_14 => ?_)
  have hw_14 : tl_E r_15 ((0 ≤ p0.toInt ∧ p0.toInt < Γ (42, 3, 0) 1) ∧ 0 ≤ p1.toInt ∧ p1.toInt < Γ (40, 7666, 0) 1) 1 0 := hw_14
  refine lv_if_ne (tgt := 11) hx hb dX12_likeliest_6 (by decide) (fun c_16 => ?_) (fun c_16 => ?_)
  · have c_16 := hw_14.t c_16
    refine lv_aload_n hx hb dX12_likeliest_11 rfl (lv_at hl 0 rfl) ?_
    refine lv_iload_n hx hb dX12_likeliest_12 rfl (lv_at hl 1 rfl) ?_
    refine lv_iload_n hx hb dX12_likeliest_13 rfl (lv_at hl 2 rfl) ?_
    refine tq_clR hS (hAf _ hS.1) (tq_rV (As := [.int p0, .int p1]) (rest := []) ⟨hx, hb, hml, hown, hta⟩ (tp_P.pre hK hN hL hU hI hP) (tp_recv hK hP ho.1 hf_1 rfl) lk_X12_450 (r_X12_scoreOf l D cy s.heap.size L K Γ f o p0 p1 ho (by first | omega | (simp only [Int32.toInt_toInt64]; omega) | decide | assumption) (by first | omega | (simp only [Int32.toInt_toInt64]; omega) | decide | assumption) (by first | omega | (simp only [Int32.toInt_toInt64]; omega) | decide | assumption) (by first | omega | (simp only [Int32.toInt_toInt64]; omega) | decide | assumption)) rfl rfl ⟨Nat.le_of_ble_eq_true rfl, Nat.le_of_ble_eq_true rfl⟩ rfl hl.1 rfl (Nat.le_of_ble_eq_true rfl) dX12_likeliest_14 ⟨Nat.le_of_ble_eq_true rfl, Nat.le_of_ble_eq_true rfl⟩) (fun r_18 f_19 Γ_21 H locs hw_17 hP hI hc_20 hcg_22 hS => ?_)
    have hD : va_D A (va_pl L f_19) := tp_D hL hAL
    have hfr := tp_fr2 hfr hc_20 (by decide)
    have hgr : ∀ κ : tk_K, κ.1 ∉ ([39, 58, 57, 60, 61, 62, 63, 59] : List Nat) → Γ_21 κ = Γ κ := tg_fr2 hgr hcg_22 (by decide)
    have hw_17 : Γ_21 (39, 0, 0) 0 = Γ (39, 0, 0) 0 ∧ (0 ≤ Γ_21 (39, 0, 0) 11 ∧ Γ_21 (39, 0, 0) 12 ≤ 299) ∧ (Γ_21 (39, 0, 0) 11 = Γ (49, 22, 0) (6 + p0.toInt).toNat ∧ Γ_21 (39, 0, 0) 12 = Γ (50, 22, 0) (6 + p0.toInt).toNat) ∧ (Γ_21 (39, 0, 0) 15 = 0 ∨ Γ_21 (39, 0, 0) 15 = 1) ∧ (0 ≤ Γ_21 (39, 0, 0) 13 ∧ Γ_21 (39, 0, 0) 13 ≤ 42) ∧ (0 < Γ_21 (39, 0, 0) 13 → 0 < Γ_21 (39, 0, 0) 10) ∧ (Γ_21 (39, 0, 0) 15 = 1 → 0 < Γ_21 (39, 0, 0) 13 ∧ 0 < Γ_21 (39, 0, 0) 14) ∧ (Γ_21 (39, 0, 0) 15 = 1 → gex (Γ_21 (59, 300, 0)) (Γ (49, 22, 0) (6 + p0.toInt).toNat) (Γ (50, 22, 0) (6 + p0.toInt).toNat + 1)) ∧ (∀ j : Nat, (j : Int) < Γ_21 (39, 0, 0) 13 → 0 ≤ Γ_21 (61, 42, 0) j ∧ Γ_21 (61, 42, 0) j ≤ 299) ∧ (∀ j : Nat, (j : Int) + 1 < Γ_21 (39, 0, 0) 13 → Γ_21 (61, 42, 0) j < Γ_21 (61, 42, 0) (j + 1)) ∧ (∀ j : Nat, j < 300 → (Γ_21 (59, 300, 0) j = -1000000 ∨ (-500000 ≤ Γ_21 (59, 300, 0) j ∧ Γ_21 (59, 300, 0) j ≤ 500000))) := hw_17
    obtain ⟨hq0, hqb, hq11, hq15, hq13, hq10, hqd, hqg, hqk, hqr, hql⟩ := hw_17
    refine lv_pop2_2 hx hb dX12_likeliest_17 rfl ?_
    refine lv_bipush (v := (-2)) hx hb dX12_likeliest_18 (by decide) ?_
    refine lv_istore_n (lv' := [(3, .int (-2)), (0, .ref o), (1, .int p0), (2, .int p1)]) hx hb dX12_likeliest_20 rfl hl (by decide) rfl (fun ls hl => ?_)
    refine lv_iconst (v := 0) hx hb dX12_likeliest_21 (by decide) ?_
    refine lv_istore (lv' := [(4, .int 0), (3, .int (-2)), (0, .ref o), (1, .int p0), (2, .int p1)]) hx hb dX12_likeliest_22 hl (by decide) rfl (fun ls hl => ?_)
    refine lv_iconst (v := 1) hx hb dX12_likeliest_24 (by decide) ?_
    refine lv_istore (lv' := [(5, .int 1), (4, .int 0), (3, .int (-2)), (0, .ref o), (1, .int p0), (2, .int p1)]) hx hb dX12_likeliest_25 hl (by decide) rfl (fun ls hl => ?_)
    refine lv_iconst (v := 0) hx hb dX12_likeliest_27 (by decide) ?_
    refine lv_istore (lv' := [(6, .int 0), (5, .int 1), (4, .int 0), (3, .int (-2)), (0, .ref o), (1, .int p0), (2, .int p1)]) hx hb dX12_likeliest_28 hl (by decide) rfl (fun ls hl => ?_)
    refine tl_ind (G := fun H locs ls => W p l e ((headSpec (tl_w yX12_likeliest cX12_likeliest 10 (some .int)) ({ frames := 7, cells := 0, slots := 0, locals := 177 })).room) s m #[.ref o, .int p0, .int p1] below meth c H locs 0 0 (MQ below (va_Qi (fun (r : Int32) (u : (Nat → va_E) × tk_G) => u.2 (39, 0, 0) 0 = Γ (39, 0, 0) 0) (tp_BG D cy L K Γ f [39, 58, 57, 60, 61, 62, 63, 59]) A) #[.ref o, .int p0, .int p1] s 0 0 A) (F0 m 30 ls [])) (α := (Nat → va_E) × tk_G × Int32 × Int32 × Int32 × Int32) (fun aq => (12 - aq.2.2.1.toInt).toNat) (fun aq H locs ls => (0 ≤ aq.2.2.1.toInt) ∧ ((0 ≤ aq.2.1 (39, 0, 0) 11 ∧ aq.2.1 (39, 0, 0) 12 ≤ 299)) ∧ (aq.2.1 (39, 0, 0) 0 = Γ (39, 0, 0) 0) ∧ va_P D vwCl (va_pl L aq.1) H ∧ tp_I cy L K aq.2.1 aq.1 ∧ (∀ b, (K b).1 ∉ ([39, 58, 57, 60, 61, 62, 63, 59] : List Nat) → aq.1 b = f b) ∧ (∀ κ : tk_K, κ.1 ∉ ([39, 58, 57, 60, 61, 62, 63, 59] : List Nat) → aq.2.1 κ = Γ κ) ∧ va_S A s.heap H locs ∧ lv_has ls 10 [(6, .int aq.2.2.1), (5, .int aq.2.2.2.1), (4, .int aq.2.2.2.2.1), (3, .int aq.2.2.2.2.2), (0, .ref o), (1, .int p0), (2, .int p1)]) ?_ (f_19, Γ_21, (0 : Int32), (1 : Int32), (0 : Int32), ((-2) : Int32)) H locs ls ⟨(show 0 ≤ (0 : Int) from (by omega)), (show (0 ≤ Γ_21 (39, 0, 0) 11 ∧ Γ_21 (39, 0, 0) 12 ≤ 299) from (by omega)), (show Γ_21 (39, 0, 0) 0 = Γ (39, 0, 0) 0 from (by omega)), hP, hI, hfr, hgr, hS, lv_sub hl [0, 1, 2, 3, 4, 5, 6] rfl⟩
    rintro ⟨f_23, Γ_24, v6, v5, v4, v3⟩ H locs ls ⟨hr6, hgb, q0, hP, hI, hfr, hgr, hS, hl⟩ ih30
    have hgr : ∀ κ : tk_K, κ.1 ∉ ([39, 58, 57, 60, 61, 62, 63, 59] : List Nat) → Γ_24 κ = Γ κ := hgr
    have hP : va_P D vwCl (va_pl L f_23) H := hP
    have hI : tp_I cy L K Γ_24 f_23 := hI
    have hfr : ∀ b, (K b).1 ∉ ([39, 58, 57, 60, 61, 62, 63, 59] : List Nat) → f_23 b = f b := hfr
    have hD : va_D A (va_pl L f_23) := tp_D hL hAL
    have hr6 : 0 ≤ v6.toInt := hr6
    have hgb : (0 ≤ Γ_24 (39, 0, 0) 11 ∧ Γ_24 (39, 0, 0) 12 ≤ 299) := hgb
    have q0 : Γ_24 (39, 0, 0) 0 = Γ (39, 0, 0) 0 := q0
    have hl : lv_has ls 10 [(6, .int v6), (5, .int v5), (4, .int v4), (3, .int v3), (0, .ref o), (1, .int p0), (2, .int p1)] := hl
    refine lv_iload hx hb dX12_likeliest_30 (lv_at hl 0 rfl) ?_
    refine lv_bipush (v := 12) hx hb dX12_likeliest_32 (by decide) ?_
    refine lv_icmp_ge (tgt := 126) hx hb dX12_likeliest_34 (by decide) (fun c_25 => ?_) (fun c_25 => ?_)
    · have c_25 : (12 : Int) ≤ v6.toInt := tl_le c_25
      refine lv_iload_n hx hb dX12_likeliest_126 rfl (lv_at hl 3 rfl) ?_
      have hpo9 : Γ_24 (39, 0, 0) 0 = Γ (39, 0, 0) 0 := (by omega)
      exact W.iret (v := v3) hx hb hr (fun t ht hW => ⟨⟨_, (f_23, Γ_24), rfl, hpo9, by rw [ht]; exact hP, hI, hfr, hgr⟩, hS.F ht⟩) hS.2.2 dX12_likeliest_127
    · have c_25 : v6.toInt < (12 : Int) := tl_nle c_25
      refine lv_aload_n hx hb dX12_likeliest_37 rfl (lv_at hl 4 rfl) ?_
      refine lv_iload hx hb dX12_likeliest_38 (lv_at hl 0 rfl) ?_
      obtain ⟨r_27, v_28, q_29, hf_26, hr_30, hv_31⟩ := (show tp_o_M L K 0 0 (Γ_24 (39, 0, 0)) (f_23 o) from hI.at ho)
      refine tq_clR hS (hAf _ hS.1) (tq_rV (As := [.int v6]) (rest := []) ⟨hx, hb, hml, hown, hta⟩ (tp_P.pre hK hN hL hU hI hP) (tp_recv hK hP ho.1 hf_26 rfl) lk_X12_480 (r_X12_amountOf l D cy H.size L K Γ_24 f_23 o v6 ho (by first | omega | assumption | (rw [hgr (40, 7666, 0) (by decide)]; first | assumption | omega)) (by first | omega | (simp only [Int32.toInt_toInt64]; omega) | decide | assumption)) rfl rfl ⟨Nat.le_of_ble_eq_true rfl, Nat.le_of_ble_eq_true rfl⟩ rfl hl.1 rfl (Nat.le_of_ble_eq_true rfl) dX12_likeliest_40 ⟨Nat.le_of_ble_eq_true rfl, Nat.le_of_ble_eq_true rfl⟩) (fun r_40 f_41 Γ_43 H locs hw_39 hP hI hc_42 hcg_44 hS => ?_)
      have hD : va_D A (va_pl L f_41) := tp_D hL hAL
      have hfr := tp_fr2 hfr hc_42 (by decide)
      have hgr : ∀ κ : tk_K, κ.1 ∉ ([39, 58, 57, 60, 61, 62, 63, 59] : List Nat) → Γ_43 κ = Γ κ := tg_fr2 hgr hcg_44 (by decide)
      have hw_39 : Γ_43 (39, 0, 0) 0 = Γ_24 (39, 0, 0) 0 ∧ Γ_43 (39, 0, 0) 10 = Γ_24 (39, 0, 0) 10 ∧ Γ_43 (39, 0, 0) 11 = Γ_24 (39, 0, 0) 11 ∧ Γ_43 (39, 0, 0) 12 = Γ_24 (39, 0, 0) 12 ∧ Γ_43 (39, 0, 0) 13 = Γ_24 (39, 0, 0) 13 ∧ Γ_43 (39, 0, 0) 15 = Γ_24 (39, 0, 0) 15 := hw_39
      refine lv_lconst (v := 0) hx hb dX12_likeliest_43 (by decide) ?_
      refine W.lcmp hx hb dX12_likeliest_44 ?_
      refine lv_if_ge (tgt := 51) hx hb dX12_likeliest_45 (by decide) (fun c_45 => ?_) (fun c_45 => ?_)
      · have c_45 : r_40.toInt ≥ (0 : Int) := tl_cmp_ge c_45
        refine lv_aload_n hx hb dX12_likeliest_51 rfl (lv_at hl 4 rfl) ?_
        refine lv_iload hx hb dX12_likeliest_52 (lv_at hl 0 rfl) ?_
        obtain ⟨r_47, v_48, q_49, hf_46, hr_50, hv_51⟩ := (show tp_o_M L K 0 0 (Γ_43 (39, 0, 0)) (f_41 o) from hI.at ho)
        refine tl_si (tq_rV (As := [.int v6]) (rest := []) ⟨hx, hb, hml, hown, hta⟩ (tp_P.pre hK hN hL hU hI hP) (tp_recv hK hP ho.1 hf_46 rfl) lk_X12_485 (r_X12_elses l D cy H.size L K Γ_43 f_41 o v6 ho (by first | omega | assumption | (rw [hgr (40, 7666, 0) (by decide), hgr (42, 3, 0) (by decide)]; first | exact hsd | assumption | omega))) rfl rfl ⟨Nat.le_of_ble_eq_true rfl, Nat.le_of_ble_eq_true rfl⟩ rfl hl.1 rfl (Nat.le_of_ble_eq_true rfl) dX12_likeliest_54 ⟨Nat.le_of_ble_eq_true rfl, Nat.le_of_ble_eq_true rfl⟩) (fun r_60 hw_59 => ?_)
        refine lv_istore (lv' := [(7, .int r_60), (6, .int v6), (5, .int v5), (4, .int v4), (3, .int v3), (0, .ref o), (1, .int p0), (2, .int p1)]) hx hb dX12_likeliest_57 hl (by decide) rfl (fun ls hl => ?_)
        refine lv_iload hx hb dX12_likeliest_59 (lv_at hl 0 rfl) ?_
        refine lv_if_ne (tgt := 68) hx hb dX12_likeliest_61 (by decide) (fun c_61 => ?_) (fun c_61 => ?_)
        · have c_61 : ¬ r_60.toInt = (0 : Int) := tl_neq c_61
          refine lv_aload_n hx hb dX12_likeliest_68 rfl (lv_at hl 5 rfl) ?_
          refine lv_iload hx hb dX12_likeliest_69 (lv_at hl 1 rfl) ?_
          refine tq_ciR hS (hAf _ hS.1) (tq_rV (As := [.int v6]) (rest := []) ⟨hx, hb, hml, hown, hta⟩ (tp_P.pre hK hN hL hU hI hP) (tp_recv hK hP ho.1 hf_46 rfl) lk_X12_488 (r_X12_theres l D cy H.size L K Γ_43 f_41 o v6 ho (by first | omega | assumption | (rw [hgr (40, 7666, 0) (by decide), hgr (42, 3, 0) (by decide)]; first | exact hsd | assumption | omega)) (by first | omega | (simp only [Int32.toInt_toInt64]; omega) | decide | assumption)) rfl rfl ⟨Nat.le_of_ble_eq_true rfl, Nat.le_of_ble_eq_true rfl⟩ rfl hl.1 rfl (Nat.le_of_ble_eq_true rfl) dX12_likeliest_71 ⟨Nat.le_of_ble_eq_true rfl, Nat.le_of_ble_eq_true rfl⟩) (fun r_63 f_64 Γ_66 H locs hw_62 hP hI hc_65 hcg_67 hS => ?_)
          have hD : va_D A (va_pl L f_64) := tp_D hL hAL
          have hfr := tp_fr2 hfr hc_65 (by decide)
          have hgr : ∀ κ : tk_K, κ.1 ∉ ([39, 58, 57, 60, 61, 62, 63, 59] : List Nat) → Γ_66 κ = Γ κ := tg_fr2 hgr hcg_67 (by decide)
          have hw_62 : Γ_66 (39, 0, 0) 0 = Γ_43 (39, 0, 0) 0 ∧ Γ_66 (39, 0, 0) 10 = Γ_43 (39, 0, 0) 10 ∧ Γ_66 (39, 0, 0) 11 = Γ_43 (39, 0, 0) 11 ∧ Γ_66 (39, 0, 0) 12 = Γ_43 (39, 0, 0) 12 ∧ Γ_66 (39, 0, 0) 13 = Γ_43 (39, 0, 0) 13 ∧ Γ_66 (39, 0, 0) 15 = Γ_43 (39, 0, 0) 15 := hw_62
          refine lv_istore (lv' := [(8, .int r_63), (7, .int r_60), (6, .int v6), (5, .int v5), (4, .int v4), (3, .int v3), (0, .ref o), (1, .int p0), (2, .int p1)]) hx hb dX12_likeliest_74 hl (by decide) rfl (fun ls hl => ?_)
          refine lv_iload hx hb dX12_likeliest_76 (lv_at hl 1 rfl) ?_
          refine lv_if_ne (tgt := 85) hx hb dX12_likeliest_78 (by decide) (fun c_68 => ?_) (fun c_68 => ?_)
          · have c_68 : ¬ r_60.toInt = (0 : Int) := tl_neq c_68
            refine lv_iload hx hb dX12_likeliest_85 (lv_at hl 1 rfl) ?_
            refine lv_istore (lv' := [(9, .int r_60), (8, .int r_63), (7, .int r_60), (6, .int v6), (5, .int v5), (4, .int v4), (3, .int v3), (0, .ref o), (1, .int p0), (2, .int p1)]) hx hb dX12_likeliest_87 hl (by decide) rfl (fun ls hl => ?_)
            refine lv_iload_n hx hb dX12_likeliest_89 rfl (lv_at hl 6 rfl) ?_
            refine lv_if_lt (tgt := 109) hx hb dX12_likeliest_90 (by decide) (fun c_69 => ?_) (fun c_69 => ?_)
            · have c_69 : v3.toInt < (0 : Int) := tl_lt c_69
              refine lv_iload hx hb dX12_likeliest_109 (lv_at hl 3 rfl) ?_
              refine lv_istore_n (lv' := [(3, .int v6), (9, .int r_60), (8, .int r_63), (7, .int r_60), (6, .int v6), (5, .int v5), (4, .int v4), (0, .ref o), (1, .int p0), (2, .int p1)]) hx hb dX12_likeliest_111 rfl hl (by decide) rfl (fun ls hl => ?_)
              refine lv_iload hx hb dX12_likeliest_112 (lv_at hl 2 rfl) ?_
              refine lv_istore (lv' := [(4, .int r_63), (3, .int v6), (9, .int r_60), (8, .int r_63), (7, .int r_60), (6, .int v6), (5, .int v5), (0, .ref o), (1, .int p0), (2, .int p1)]) hx hb dX12_likeliest_114 hl (by decide) rfl (fun ls hl => ?_)
              refine lv_iload hx hb dX12_likeliest_116 (lv_at hl 2 rfl) ?_
              refine lv_istore (lv' := [(5, .int r_60), (4, .int r_63), (3, .int v6), (9, .int r_60), (8, .int r_63), (7, .int r_60), (6, .int v6), (0, .ref o), (1, .int p0), (2, .int p1)]) hx hb dX12_likeliest_118 hl (by decide) rfl (fun ls hl => ?_)
              obtain ⟨z_70, ez_70⟩ : ∃ y : Int32, y = v6 + 1 := ⟨_, rfl⟩
              refine lv_iinc (v := z_70) (lv' := [(6, .int z_70), (5, .int r_60), (4, .int r_63), (3, .int v6), (9, .int r_60), (8, .int r_63), (7, .int r_60), (0, .ref o), (1, .int p0), (2, .int p1)]) hx hb dX12_likeliest_120 hl (k := 6) rfl (by rw [ez_70]; rfl) (by decide) rfl (fun ls hl => ?_)
              try have iz_70 : z_70.toInt = v6.toInt + 1 := by rw [ez_70]; exact tl_addL v6 1 (by decide) (by omega) (by omega)
              refine lv_goto (tgt := 30) hx hb dX12_likeliest_123 (by decide) ?_
              exact ih30 (f_64, Γ_66, z_70, r_60, r_63, v6) H locs ls (by show (12 - z_70.toInt).toNat < (12 - v6.toInt).toNat; omega) ⟨(show 0 ≤ z_70.toInt from (by omega)), (show (0 ≤ Γ_66 (39, 0, 0) 11 ∧ Γ_66 (39, 0, 0) 12 ≤ 299) from (by omega)), (show Γ_66 (39, 0, 0) 0 = Γ (39, 0, 0) 0 from (by omega)), hP, hI, hfr, hgr, hS, lv_sub hl [0, 1, 2, 3, 7, 8, 9] rfl⟩
            · have c_69 : (0 : Int) ≤ v3.toInt := tl_nlt c_69
              refine lv_iload hx hb dX12_likeliest_93 (lv_at hl 1 rfl) ?_
              refine lv_iload hx hb dX12_likeliest_95 (lv_at hl 4 rfl) ?_
              refine lv_imul hx hb dX12_likeliest_97 ?_
              refine lv_topi (fun z_71 ez_71 => ?_)
              try have iz_71 : z_71.toInt = r_63.toInt * v5.toInt := by rw [ez_71]; exact tl_mulN r_63 v5 rfl rfl (by omega) (by omega)
              refine lv_iload hx hb dX12_likeliest_98 (lv_at hl 5 rfl) ?_
              refine lv_iload hx hb dX12_likeliest_100 (lv_at hl 0 rfl) ?_
              refine lv_imul hx hb dX12_likeliest_102 ?_
              refine lv_topi (fun z_72 ez_72 => ?_)
              try have iz_72 : z_72.toInt = v4.toInt * r_60.toInt := by rw [ez_72]; exact tl_mulN v4 r_60 rfl rfl (by omega) (by omega)
              refine lv_icmp_gt (tgt := 109) hx hb dX12_likeliest_103 (by decide) (fun c_73 => ?_) (fun c_73 => ?_)
              · have c_73 : z_72.toInt < z_71.toInt := tl_lt c_73
                refine lv_iload hx hb dX12_likeliest_109 (lv_at hl 3 rfl) ?_
                refine lv_istore_n (lv' := [(3, .int v6), (9, .int r_60), (8, .int r_63), (7, .int r_60), (6, .int v6), (5, .int v5), (4, .int v4), (0, .ref o), (1, .int p0), (2, .int p1)]) hx hb dX12_likeliest_111 rfl hl (by decide) rfl (fun ls hl => ?_)
                refine lv_iload hx hb dX12_likeliest_112 (lv_at hl 2 rfl) ?_
                refine lv_istore (lv' := [(4, .int r_63), (3, .int v6), (9, .int r_60), (8, .int r_63), (7, .int r_60), (6, .int v6), (5, .int v5), (0, .ref o), (1, .int p0), (2, .int p1)]) hx hb dX12_likeliest_114 hl (by decide) rfl (fun ls hl => ?_)
                refine lv_iload hx hb dX12_likeliest_116 (lv_at hl 2 rfl) ?_
                refine lv_istore (lv' := [(5, .int r_60), (4, .int r_63), (3, .int v6), (9, .int r_60), (8, .int r_63), (7, .int r_60), (6, .int v6), (0, .ref o), (1, .int p0), (2, .int p1)]) hx hb dX12_likeliest_118 hl (by decide) rfl (fun ls hl => ?_)
                obtain ⟨z_74, ez_74⟩ : ∃ y : Int32, y = v6 + 1 := ⟨_, rfl⟩
                refine lv_iinc (v := z_74) (lv' := [(6, .int z_74), (5, .int r_60), (4, .int r_63), (3, .int v6), (9, .int r_60), (8, .int r_63), (7, .int r_60), (0, .ref o), (1, .int p0), (2, .int p1)]) hx hb dX12_likeliest_120 hl (k := 6) rfl (by rw [ez_74]; rfl) (by decide) rfl (fun ls hl => ?_)
                try have iz_74 : z_74.toInt = v6.toInt + 1 := by rw [ez_74]; exact tl_addL v6 1 (by decide) (by omega) (by omega)
                refine lv_goto (tgt := 30) hx hb dX12_likeliest_123 (by decide) ?_
                exact ih30 (f_64, Γ_66, z_74, r_60, r_63, v6) H locs ls (by show (12 - z_74.toInt).toNat < (12 - v6.toInt).toNat; omega) ⟨(show 0 ≤ z_74.toInt from (by omega)), (show (0 ≤ Γ_66 (39, 0, 0) 11 ∧ Γ_66 (39, 0, 0) 12 ≤ 299) from (by omega)), (show Γ_66 (39, 0, 0) 0 = Γ (39, 0, 0) 0 from (by omega)), hP, hI, hfr, hgr, hS, lv_sub hl [0, 1, 2, 3, 7, 8, 9] rfl⟩
              · have c_73 : z_71.toInt ≤ z_72.toInt := tl_nlt c_73
                refine lv_goto (tgt := 120) hx hb dX12_likeliest_106 (by decide) ?_
                obtain ⟨z_75, ez_75⟩ : ∃ y : Int32, y = v6 + 1 := ⟨_, rfl⟩
                refine lv_iinc (v := z_75) (lv' := [(6, .int z_75), (9, .int r_60), (8, .int r_63), (7, .int r_60), (5, .int v5), (4, .int v4), (3, .int v3), (0, .ref o), (1, .int p0), (2, .int p1)]) hx hb dX12_likeliest_120 hl (k := 3) rfl (by rw [ez_75]; rfl) (by decide) rfl (fun ls hl => ?_)
                try have iz_75 : z_75.toInt = v6.toInt + 1 := by rw [ez_75]; exact tl_addL v6 1 (by decide) (by omega) (by omega)
                refine lv_goto (tgt := 30) hx hb dX12_likeliest_123 (by decide) ?_
                exact ih30 (f_64, Γ_66, z_75, v5, v4, v3) H locs ls (by show (12 - z_75.toInt).toNat < (12 - v6.toInt).toNat; omega) ⟨(show 0 ≤ z_75.toInt from (by omega)), (show (0 ≤ Γ_66 (39, 0, 0) 11 ∧ Γ_66 (39, 0, 0) 12 ≤ 299) from (by omega)), (show Γ_66 (39, 0, 0) 0 = Γ (39, 0, 0) 0 from (by omega)), hP, hI, hfr, hgr, hS, lv_sub hl [0, 4, 5, 6, 7, 8, 9] rfl⟩
          · have c_68 : r_60.toInt = (0 : Int) := tl_eq c_68
            refine lv_iconst (v := 1) hx hb dX12_likeliest_81 (by decide) ?_
            refine lv_goto (tgt := 87) hx hb dX12_likeliest_82 (by decide) ?_
            refine lv_istore (lv' := [(9, .int 1), (8, .int r_63), (7, .int r_60), (6, .int v6), (5, .int v5), (4, .int v4), (3, .int v3), (0, .ref o), (1, .int p0), (2, .int p1)]) hx hb dX12_likeliest_87 hl (by decide) rfl (fun ls hl => ?_)
            refine lv_iload_n hx hb dX12_likeliest_89 rfl (lv_at hl 6 rfl) ?_
            refine lv_if_lt (tgt := 109) hx hb dX12_likeliest_90 (by decide) (fun c_76 => ?_) (fun c_76 => ?_)
            · have c_76 : v3.toInt < (0 : Int) := tl_lt c_76
              refine lv_iload hx hb dX12_likeliest_109 (lv_at hl 3 rfl) ?_
              refine lv_istore_n (lv' := [(3, .int v6), (9, .int 1), (8, .int r_63), (7, .int r_60), (6, .int v6), (5, .int v5), (4, .int v4), (0, .ref o), (1, .int p0), (2, .int p1)]) hx hb dX12_likeliest_111 rfl hl (by decide) rfl (fun ls hl => ?_)
              refine lv_iload hx hb dX12_likeliest_112 (lv_at hl 2 rfl) ?_
              refine lv_istore (lv' := [(4, .int r_63), (3, .int v6), (9, .int 1), (8, .int r_63), (7, .int r_60), (6, .int v6), (5, .int v5), (0, .ref o), (1, .int p0), (2, .int p1)]) hx hb dX12_likeliest_114 hl (by decide) rfl (fun ls hl => ?_)
              refine lv_iload hx hb dX12_likeliest_116 (lv_at hl 2 rfl) ?_
              refine lv_istore (lv' := [(5, .int 1), (4, .int r_63), (3, .int v6), (9, .int 1), (8, .int r_63), (7, .int r_60), (6, .int v6), (0, .ref o), (1, .int p0), (2, .int p1)]) hx hb dX12_likeliest_118 hl (by decide) rfl (fun ls hl => ?_)
              obtain ⟨z_77, ez_77⟩ : ∃ y : Int32, y = v6 + 1 := ⟨_, rfl⟩
              refine lv_iinc (v := z_77) (lv' := [(6, .int z_77), (5, .int 1), (4, .int r_63), (3, .int v6), (9, .int 1), (8, .int r_63), (7, .int r_60), (0, .ref o), (1, .int p0), (2, .int p1)]) hx hb dX12_likeliest_120 hl (k := 6) rfl (by rw [ez_77]; rfl) (by decide) rfl (fun ls hl => ?_)
              try have iz_77 : z_77.toInt = v6.toInt + 1 := by rw [ez_77]; exact tl_addL v6 1 (by decide) (by omega) (by omega)
              refine lv_goto (tgt := 30) hx hb dX12_likeliest_123 (by decide) ?_
              exact ih30 (f_64, Γ_66, z_77, 1, r_63, v6) H locs ls (by show (12 - z_77.toInt).toNat < (12 - v6.toInt).toNat; omega) ⟨(show 0 ≤ z_77.toInt from (by omega)), (show (0 ≤ Γ_66 (39, 0, 0) 11 ∧ Γ_66 (39, 0, 0) 12 ≤ 299) from (by omega)), (show Γ_66 (39, 0, 0) 0 = Γ (39, 0, 0) 0 from (by omega)), hP, hI, hfr, hgr, hS, lv_sub hl [0, 1, 2, 3, 7, 8, 9] rfl⟩
            · have c_76 : (0 : Int) ≤ v3.toInt := tl_nlt c_76
              refine lv_iload hx hb dX12_likeliest_93 (lv_at hl 1 rfl) ?_
              refine lv_iload hx hb dX12_likeliest_95 (lv_at hl 4 rfl) ?_
              refine lv_imul hx hb dX12_likeliest_97 ?_
              refine lv_topi (fun z_78 ez_78 => ?_)
              try have iz_78 : z_78.toInt = r_63.toInt * v5.toInt := by rw [ez_78]; exact tl_mulN r_63 v5 rfl rfl (by omega) (by omega)
              refine lv_iload hx hb dX12_likeliest_98 (lv_at hl 5 rfl) ?_
              refine lv_iload hx hb dX12_likeliest_100 (lv_at hl 0 rfl) ?_
              refine lv_imul hx hb dX12_likeliest_102 ?_
              refine lv_topi (fun z_79 ez_79 => ?_)
              try have iz_79 : z_79.toInt = v4.toInt * (1 : Int) := by rw [ez_79]; exact tl_mulN v4 1 rfl rfl (by omega) (by omega)
              refine lv_icmp_gt (tgt := 109) hx hb dX12_likeliest_103 (by decide) (fun c_80 => ?_) (fun c_80 => ?_)
              · have c_80 : z_79.toInt < z_78.toInt := tl_lt c_80
                refine lv_iload hx hb dX12_likeliest_109 (lv_at hl 3 rfl) ?_
                refine lv_istore_n (lv' := [(3, .int v6), (9, .int 1), (8, .int r_63), (7, .int r_60), (6, .int v6), (5, .int v5), (4, .int v4), (0, .ref o), (1, .int p0), (2, .int p1)]) hx hb dX12_likeliest_111 rfl hl (by decide) rfl (fun ls hl => ?_)
                refine lv_iload hx hb dX12_likeliest_112 (lv_at hl 2 rfl) ?_
                refine lv_istore (lv' := [(4, .int r_63), (3, .int v6), (9, .int 1), (8, .int r_63), (7, .int r_60), (6, .int v6), (5, .int v5), (0, .ref o), (1, .int p0), (2, .int p1)]) hx hb dX12_likeliest_114 hl (by decide) rfl (fun ls hl => ?_)
                refine lv_iload hx hb dX12_likeliest_116 (lv_at hl 2 rfl) ?_
                refine lv_istore (lv' := [(5, .int 1), (4, .int r_63), (3, .int v6), (9, .int 1), (8, .int r_63), (7, .int r_60), (6, .int v6), (0, .ref o), (1, .int p0), (2, .int p1)]) hx hb dX12_likeliest_118 hl (by decide) rfl (fun ls hl => ?_)
                obtain ⟨z_81, ez_81⟩ : ∃ y : Int32, y = v6 + 1 := ⟨_, rfl⟩
                refine lv_iinc (v := z_81) (lv' := [(6, .int z_81), (5, .int 1), (4, .int r_63), (3, .int v6), (9, .int 1), (8, .int r_63), (7, .int r_60), (0, .ref o), (1, .int p0), (2, .int p1)]) hx hb dX12_likeliest_120 hl (k := 6) rfl (by rw [ez_81]; rfl) (by decide) rfl (fun ls hl => ?_)
                try have iz_81 : z_81.toInt = v6.toInt + 1 := by rw [ez_81]; exact tl_addL v6 1 (by decide) (by omega) (by omega)
                refine lv_goto (tgt := 30) hx hb dX12_likeliest_123 (by decide) ?_
                exact ih30 (f_64, Γ_66, z_81, 1, r_63, v6) H locs ls (by show (12 - z_81.toInt).toNat < (12 - v6.toInt).toNat; omega) ⟨(show 0 ≤ z_81.toInt from (by omega)), (show (0 ≤ Γ_66 (39, 0, 0) 11 ∧ Γ_66 (39, 0, 0) 12 ≤ 299) from (by omega)), (show Γ_66 (39, 0, 0) 0 = Γ (39, 0, 0) 0 from (by omega)), hP, hI, hfr, hgr, hS, lv_sub hl [0, 1, 2, 3, 7, 8, 9] rfl⟩
              · have c_80 : z_78.toInt ≤ z_79.toInt := tl_nlt c_80
                refine lv_goto (tgt := 120) hx hb dX12_likeliest_106 (by decide) ?_
                obtain ⟨z_82, ez_82⟩ : ∃ y : Int32, y = v6 + 1 := ⟨_, rfl⟩
                refine lv_iinc (v := z_82) (lv' := [(6, .int z_82), (9, .int 1), (8, .int r_63), (7, .int r_60), (5, .int v5), (4, .int v4), (3, .int v3), (0, .ref o), (1, .int p0), (2, .int p1)]) hx hb dX12_likeliest_120 hl (k := 3) rfl (by rw [ez_82]; rfl) (by decide) rfl (fun ls hl => ?_)
                try have iz_82 : z_82.toInt = v6.toInt + 1 := by rw [ez_82]; exact tl_addL v6 1 (by decide) (by omega) (by omega)
                refine lv_goto (tgt := 30) hx hb dX12_likeliest_123 (by decide) ?_
                exact ih30 (f_64, Γ_66, z_82, v5, v4, v3) H locs ls (by show (12 - z_82.toInt).toNat < (12 - v6.toInt).toNat; omega) ⟨(show 0 ≤ z_82.toInt from (by omega)), (show (0 ≤ Γ_66 (39, 0, 0) 11 ∧ Γ_66 (39, 0, 0) 12 ≤ 299) from (by omega)), (show Γ_66 (39, 0, 0) 0 = Γ (39, 0, 0) 0 from (by omega)), hP, hI, hfr, hgr, hS, lv_sub hl [0, 4, 5, 6, 7, 8, 9] rfl⟩
        · have c_61 : r_60.toInt = (0 : Int) := tl_eq c_61
          refine lv_iconst (v := 0) hx hb dX12_likeliest_64 (by decide) ?_
          refine lv_goto (tgt := 74) hx hb dX12_likeliest_65 (by decide) ?_
          refine lv_istore (lv' := [(8, .int 0), (7, .int r_60), (6, .int v6), (5, .int v5), (4, .int v4), (3, .int v3), (0, .ref o), (1, .int p0), (2, .int p1)]) hx hb dX12_likeliest_74 hl (by decide) rfl (fun ls hl => ?_)
          refine lv_iload hx hb dX12_likeliest_76 (lv_at hl 1 rfl) ?_
          refine lv_if_ne (tgt := 85) hx hb dX12_likeliest_78 (by decide) (fun c_83 => ?_) (fun c_83 => ?_)
          · have c_83 : ¬ r_60.toInt = (0 : Int) := tl_neq c_83
            exfalso; omega
          · have c_83 : r_60.toInt = (0 : Int) := tl_eq c_83
            refine lv_iconst (v := 1) hx hb dX12_likeliest_81 (by decide) ?_
            refine lv_goto (tgt := 87) hx hb dX12_likeliest_82 (by decide) ?_
            refine lv_istore (lv' := [(9, .int 1), (8, .int 0), (7, .int r_60), (6, .int v6), (5, .int v5), (4, .int v4), (3, .int v3), (0, .ref o), (1, .int p0), (2, .int p1)]) hx hb dX12_likeliest_87 hl (by decide) rfl (fun ls hl => ?_)
            refine lv_iload_n hx hb dX12_likeliest_89 rfl (lv_at hl 6 rfl) ?_
            refine lv_if_lt (tgt := 109) hx hb dX12_likeliest_90 (by decide) (fun c_84 => ?_) (fun c_84 => ?_)
            · have c_84 : v3.toInt < (0 : Int) := tl_lt c_84
              refine lv_iload hx hb dX12_likeliest_109 (lv_at hl 3 rfl) ?_
              refine lv_istore_n (lv' := [(3, .int v6), (9, .int 1), (8, .int 0), (7, .int r_60), (6, .int v6), (5, .int v5), (4, .int v4), (0, .ref o), (1, .int p0), (2, .int p1)]) hx hb dX12_likeliest_111 rfl hl (by decide) rfl (fun ls hl => ?_)
              refine lv_iload hx hb dX12_likeliest_112 (lv_at hl 2 rfl) ?_
              refine lv_istore (lv' := [(4, .int 0), (3, .int v6), (9, .int 1), (8, .int 0), (7, .int r_60), (6, .int v6), (5, .int v5), (0, .ref o), (1, .int p0), (2, .int p1)]) hx hb dX12_likeliest_114 hl (by decide) rfl (fun ls hl => ?_)
              refine lv_iload hx hb dX12_likeliest_116 (lv_at hl 2 rfl) ?_
              refine lv_istore (lv' := [(5, .int 1), (4, .int 0), (3, .int v6), (9, .int 1), (8, .int 0), (7, .int r_60), (6, .int v6), (0, .ref o), (1, .int p0), (2, .int p1)]) hx hb dX12_likeliest_118 hl (by decide) rfl (fun ls hl => ?_)
              obtain ⟨z_85, ez_85⟩ : ∃ y : Int32, y = v6 + 1 := ⟨_, rfl⟩
              refine lv_iinc (v := z_85) (lv' := [(6, .int z_85), (5, .int 1), (4, .int 0), (3, .int v6), (9, .int 1), (8, .int 0), (7, .int r_60), (0, .ref o), (1, .int p0), (2, .int p1)]) hx hb dX12_likeliest_120 hl (k := 6) rfl (by rw [ez_85]; rfl) (by decide) rfl (fun ls hl => ?_)
              try have iz_85 : z_85.toInt = v6.toInt + 1 := by rw [ez_85]; exact tl_addL v6 1 (by decide) (by omega) (by omega)
              refine lv_goto (tgt := 30) hx hb dX12_likeliest_123 (by decide) ?_
              exact ih30 (f_41, Γ_43, z_85, 1, 0, v6) H locs ls (by show (12 - z_85.toInt).toNat < (12 - v6.toInt).toNat; omega) ⟨(show 0 ≤ z_85.toInt from (by omega)), (show (0 ≤ Γ_43 (39, 0, 0) 11 ∧ Γ_43 (39, 0, 0) 12 ≤ 299) from (by omega)), (show Γ_43 (39, 0, 0) 0 = Γ (39, 0, 0) 0 from (by omega)), hP, hI, hfr, hgr, hS, lv_sub hl [0, 1, 2, 3, 7, 8, 9] rfl⟩
            · have c_84 : (0 : Int) ≤ v3.toInt := tl_nlt c_84
              refine lv_iload hx hb dX12_likeliest_93 (lv_at hl 1 rfl) ?_
              refine lv_iload hx hb dX12_likeliest_95 (lv_at hl 4 rfl) ?_
              refine lv_imul hx hb dX12_likeliest_97 ?_
              refine lv_topi (fun z_86 ez_86 => ?_)
              try have iz_86 : z_86.toInt = (0 : Int) * v5.toInt := by rw [ez_86]; exact tl_mulN 0 v5 rfl rfl (by omega) (by omega)
              refine lv_iload hx hb dX12_likeliest_98 (lv_at hl 5 rfl) ?_
              refine lv_iload hx hb dX12_likeliest_100 (lv_at hl 0 rfl) ?_
              refine lv_imul hx hb dX12_likeliest_102 ?_
              refine lv_topi (fun z_87 ez_87 => ?_)
              try have iz_87 : z_87.toInt = v4.toInt * (1 : Int) := by rw [ez_87]; exact tl_mulN v4 1 rfl rfl (by omega) (by omega)
              refine lv_icmp_gt (tgt := 109) hx hb dX12_likeliest_103 (by decide) (fun c_88 => ?_) (fun c_88 => ?_)
              · have c_88 : z_87.toInt < z_86.toInt := tl_lt c_88
                refine lv_iload hx hb dX12_likeliest_109 (lv_at hl 3 rfl) ?_
                refine lv_istore_n (lv' := [(3, .int v6), (9, .int 1), (8, .int 0), (7, .int r_60), (6, .int v6), (5, .int v5), (4, .int v4), (0, .ref o), (1, .int p0), (2, .int p1)]) hx hb dX12_likeliest_111 rfl hl (by decide) rfl (fun ls hl => ?_)
                refine lv_iload hx hb dX12_likeliest_112 (lv_at hl 2 rfl) ?_
                refine lv_istore (lv' := [(4, .int 0), (3, .int v6), (9, .int 1), (8, .int 0), (7, .int r_60), (6, .int v6), (5, .int v5), (0, .ref o), (1, .int p0), (2, .int p1)]) hx hb dX12_likeliest_114 hl (by decide) rfl (fun ls hl => ?_)
                refine lv_iload hx hb dX12_likeliest_116 (lv_at hl 2 rfl) ?_
                refine lv_istore (lv' := [(5, .int 1), (4, .int 0), (3, .int v6), (9, .int 1), (8, .int 0), (7, .int r_60), (6, .int v6), (0, .ref o), (1, .int p0), (2, .int p1)]) hx hb dX12_likeliest_118 hl (by decide) rfl (fun ls hl => ?_)
                obtain ⟨z_89, ez_89⟩ : ∃ y : Int32, y = v6 + 1 := ⟨_, rfl⟩
                refine lv_iinc (v := z_89) (lv' := [(6, .int z_89), (5, .int 1), (4, .int 0), (3, .int v6), (9, .int 1), (8, .int 0), (7, .int r_60), (0, .ref o), (1, .int p0), (2, .int p1)]) hx hb dX12_likeliest_120 hl (k := 6) rfl (by rw [ez_89]; rfl) (by decide) rfl (fun ls hl => ?_)
                try have iz_89 : z_89.toInt = v6.toInt + 1 := by rw [ez_89]; exact tl_addL v6 1 (by decide) (by omega) (by omega)
                refine lv_goto (tgt := 30) hx hb dX12_likeliest_123 (by decide) ?_
                exact ih30 (f_41, Γ_43, z_89, 1, 0, v6) H locs ls (by show (12 - z_89.toInt).toNat < (12 - v6.toInt).toNat; omega) ⟨(show 0 ≤ z_89.toInt from (by omega)), (show (0 ≤ Γ_43 (39, 0, 0) 11 ∧ Γ_43 (39, 0, 0) 12 ≤ 299) from (by omega)), (show Γ_43 (39, 0, 0) 0 = Γ (39, 0, 0) 0 from (by omega)), hP, hI, hfr, hgr, hS, lv_sub hl [0, 1, 2, 3, 7, 8, 9] rfl⟩
              · have c_88 : z_86.toInt ≤ z_87.toInt := tl_nlt c_88
                refine lv_goto (tgt := 120) hx hb dX12_likeliest_106 (by decide) ?_
                obtain ⟨z_90, ez_90⟩ : ∃ y : Int32, y = v6 + 1 := ⟨_, rfl⟩
                refine lv_iinc (v := z_90) (lv' := [(6, .int z_90), (9, .int 1), (8, .int 0), (7, .int r_60), (5, .int v5), (4, .int v4), (3, .int v3), (0, .ref o), (1, .int p0), (2, .int p1)]) hx hb dX12_likeliest_120 hl (k := 3) rfl (by rw [ez_90]; rfl) (by decide) rfl (fun ls hl => ?_)
                try have iz_90 : z_90.toInt = v6.toInt + 1 := by rw [ez_90]; exact tl_addL v6 1 (by decide) (by omega) (by omega)
                refine lv_goto (tgt := 30) hx hb dX12_likeliest_123 (by decide) ?_
                exact ih30 (f_41, Γ_43, z_90, v5, v4, v3) H locs ls (by show (12 - z_90.toInt).toNat < (12 - v6.toInt).toNat; omega) ⟨(show 0 ≤ z_90.toInt from (by omega)), (show (0 ≤ Γ_43 (39, 0, 0) 11 ∧ Γ_43 (39, 0, 0) 12 ≤ 299) from (by omega)), (show Γ_43 (39, 0, 0) 0 = Γ (39, 0, 0) 0 from (by omega)), hP, hI, hfr, hgr, hS, lv_sub hl [0, 4, 5, 6, 7, 8, 9] rfl⟩
      · have c_45 : r_40.toInt < (0 : Int) := tl_cmp_nge c_45
        refine lv_goto (tgt := 120) hx hb dX12_likeliest_48 (by decide) ?_
        obtain ⟨z_91, ez_91⟩ : ∃ y : Int32, y = v6 + 1 := ⟨_, rfl⟩
        refine lv_iinc (v := z_91) (lv' := [(6, .int z_91), (5, .int v5), (4, .int v4), (3, .int v3), (0, .ref o), (1, .int p0), (2, .int p1)]) hx hb dX12_likeliest_120 hl (k := 0) rfl (by rw [ez_91]; rfl) (by decide) rfl (fun ls hl => ?_)
        try have iz_91 : z_91.toInt = v6.toInt + 1 := by rw [ez_91]; exact tl_addL v6 1 (by decide) (by omega) (by omega)
        refine lv_goto (tgt := 30) hx hb dX12_likeliest_123 (by decide) ?_
        exact ih30 (f_41, Γ_43, z_91, v5, v4, v3) H locs ls (by show (12 - z_91.toInt).toNat < (12 - v6.toInt).toNat; omega) ⟨(show 0 ≤ z_91.toInt from (by omega)), (show (0 ≤ Γ_43 (39, 0, 0) 11 ∧ Γ_43 (39, 0, 0) 12 ≤ 299) from (by omega)), (show Γ_43 (39, 0, 0) 0 = Γ (39, 0, 0) 0 from (by omega)), hP, hI, hfr, hgr, hS, lv_sub hl [0, 1, 2, 3, 4, 5, 6] rfl⟩
  · have c_16 := hw_14.f c_16
    refine lv_iconst (v := (-1)) hx hb dX12_likeliest_9 (by decide) ?_
    have hpo9 : Γ (39, 0, 0) 0 = Γ (39, 0, 0) 0 := (by omega)
    exact W.iret (v := (-1)) hx hb hr (fun t ht hW => ⟨⟨_, (f, Γ), rfl, hpo9, by rw [ht]; exact hP, hI, hfr, hgr⟩, hS.F ht⟩) hS.2.2 dX12_likeliest_10
