theorem dX12_clock_0 : decode cX12_clock 0 = .ok (.iload_n 1, 1) := by decide +kernel
theorem dX12_clock_1 : decode cX12_clock 1 = .ok (.i2l, 1) := by decide +kernel
theorem dX12_clock_2 : decode cX12_clock 2 = .ok (.aload_n 0, 1) := by decide +kernel
theorem dX12_clock_3 : decode cX12_clock 3 = .ok (.getfield 7, 3) := by decide +kernel
theorem dX12_clock_6 : decode cX12_clock 6 = .ok (.iconst 0, 1) := by decide +kernel
theorem dX12_clock_7 : decode cX12_clock 7 = .ok (.iaload, 1) := by decide +kernel
theorem dX12_clock_8 : decode cX12_clock 8 = .ok (.i2l, 1) := by decide +kernel
theorem dX12_clock_9 : decode cX12_clock 9 = .ok (.ldc2_w 110, 3) := by decide +kernel
theorem dX12_clock_12 : decode cX12_clock 12 = .ok (.invokestatic 112, 3) := by decide +kernel
theorem dX12_clock_15 : decode cX12_clock 15 = .ok (.ifCond .ne 5, 3) := by decide +kernel
theorem dX12_clock_18 : decode cX12_clock 18 = .ok (.iconst 0, 1) := by decide +kernel
theorem dX12_clock_19 : decode cX12_clock 19 = .ok (.ireturn, 1) := by decide +kernel
theorem dX12_clock_20 : decode cX12_clock 20 = .ok (.aload_n 0, 1) := by decide +kernel
theorem dX12_clock_21 : decode cX12_clock 21 = .ok (.getfield 7, 3) := by decide +kernel
theorem dX12_clock_24 : decode cX12_clock 24 = .ok (.iconst 0, 1) := by decide +kernel
theorem dX12_clock_25 : decode cX12_clock 25 = .ok (.iload_n 1, 1) := by decide +kernel
theorem dX12_clock_26 : decode cX12_clock 26 = .ok (.iastore, 1) := by decide +kernel
theorem dX12_clock_27 : decode cX12_clock 27 = .ok (.iconst 1, 1) := by decide +kernel
theorem dX12_clock_28 : decode cX12_clock 28 = .ok (.ireturn, 1) := by decide +kernel
theorem wk_197 : Cond.constantLong RX12 110 (399) ∈ tl_L := List.mem_filter.mpr ⟨lw_m6 (i := 217) rfl, rfl⟩
theorem wk_198 : Cond.methodLink RX12 112 yX12_in ∈ tl_L := List.mem_filter.mpr ⟨lw_m6 (i := 218) rfl, rfl⟩
theorem wk_199 : Cond.static yX12_in ∈ tl_L := List.mem_filter.mpr ⟨lw_m6 (i := 219) rfl, rfl⟩
theorem wk_200 : Cond.code yX12_in cX12_in 6 (some .boolean) ∈ tl_L := List.mem_filter.mpr ⟨lw_m6 (i := 220) rfl, rfl⟩
theorem lk_X12_112 : tl_kS RX12 112 yX12_in cX12_in 6 (some .boolean) 3 := ⟨wk_200, wk_198, wk_199, wk_5, ⟨by decide +kernel, by decide +kernel, by decide +kernel⟩⟩
theorem dX12_slip_0 : decode cX12_slip 0 = .ok (.aload_n 0, 1) := by decide +kernel
theorem dX12_slip_1 : decode cX12_slip 1 = .ok (.getfield 7, 3) := by decide +kernel
theorem dX12_slip_4 : decode cX12_slip 4 = .ok (.iconst 2, 1) := by decide +kernel
theorem dX12_slip_5 : decode cX12_slip 5 = .ok (.iaload, 1) := by decide +kernel
theorem dX12_slip_6 : decode cX12_slip 6 = .ok (.bipush 40, 2) := by decide +kernel
theorem dX12_slip_8 : decode cX12_slip 8 = .ok (.if_icmp .eq 49, 3) := by decide +kernel
theorem dX12_slip_11 : decode cX12_slip 11 = .ok (.iload_n 1, 1) := by decide +kernel
theorem dX12_slip_12 : decode cX12_slip 12 = .ok (.i2l, 1) := by decide +kernel
theorem dX12_slip_13 : decode cX12_slip 13 = .ok (.lconst 0, 1) := by decide +kernel
theorem dX12_slip_14 : decode cX12_slip 14 = .ok (.ldc2_w 116, 3) := by decide +kernel
theorem dX12_slip_17 : decode cX12_slip 17 = .ok (.invokestatic 112, 3) := by decide +kernel
theorem dX12_slip_20 : decode cX12_slip 20 = .ok (.ifCond .eq 37, 3) := by decide +kernel
theorem dX12_slip_23 : decode cX12_slip 23 = .ok (.iload_n 2, 1) := by decide +kernel
theorem dX12_slip_24 : decode cX12_slip 24 = .ok (.invokestatic 124, 3) := by decide +kernel
theorem dX12_slip_27 : decode cX12_slip 27 = .ok (.ifCond .eq 30, 3) := by decide +kernel
theorem dX12_slip_30 : decode cX12_slip 30 = .ok (.iload_n 3, 1) := by decide +kernel
theorem dX12_slip_31 : decode cX12_slip 31 = .ok (.invokestatic 124, 3) := by decide +kernel
theorem dX12_slip_34 : decode cX12_slip 34 = .ok (.ifCond .eq 23, 3) := by decide +kernel
theorem dX12_slip_37 : decode cX12_slip 37 = .ok (.iload_n 3, 1) := by decide +kernel
theorem dX12_slip_38 : decode cX12_slip 38 = .ok (.iload_n 2, 1) := by decide +kernel
theorem dX12_slip_39 : decode cX12_slip 39 = .ok (.if_icmp .lt 18, 3) := by decide +kernel
theorem dX12_slip_42 : decode cX12_slip 42 = .ok (.iload 4, 2) := by decide +kernel
theorem dX12_slip_44 : decode cX12_slip 44 = .ok (.i2l, 1) := by decide +kernel
theorem dX12_slip_45 : decode cX12_slip 45 = .ok (.ldc2_w 139, 3) := by decide +kernel
theorem dX12_slip_48 : decode cX12_slip 48 = .ok (.ldc2_w 141, 3) := by decide +kernel
theorem dX12_slip_51 : decode cX12_slip 51 = .ok (.invokestatic 112, 3) := by decide +kernel
theorem dX12_slip_54 : decode cX12_slip 54 = .ok (.ifCond .ne 5, 3) := by decide +kernel
theorem dX12_slip_57 : decode cX12_slip 57 = .ok (.iconst (-1), 1) := by decide +kernel
theorem dX12_slip_58 : decode cX12_slip 58 = .ok (.ireturn, 1) := by decide +kernel
theorem dX12_slip_59 : decode cX12_slip 59 = .ok (.bipush 81, 2) := by decide +kernel
theorem dX12_slip_61 : decode cX12_slip 61 = .ok (.iconst 4, 1) := by decide +kernel
theorem dX12_slip_62 : decode cX12_slip 62 = .ok (.aload_n 0, 1) := by decide +kernel
theorem dX12_slip_63 : decode cX12_slip 63 = .ok (.getfield 7, 3) := by decide +kernel
theorem dX12_slip_66 : decode cX12_slip 66 = .ok (.iconst 2, 1) := by decide +kernel
theorem dX12_slip_67 : decode cX12_slip 67 = .ok (.iaload, 1) := by decide +kernel
theorem dX12_slip_68 : decode cX12_slip 68 = .ok (.imul, 1) := by decide +kernel
theorem dX12_slip_69 : decode cX12_slip 69 = .ok (.iadd, 1) := by decide +kernel
theorem dX12_slip_70 : decode cX12_slip 70 = .ok (.istore 5, 2) := by decide +kernel
theorem dX12_slip_72 : decode cX12_slip 72 = .ok (.aload_n 0, 1) := by decide +kernel
theorem dX12_slip_73 : decode cX12_slip 73 = .ok (.getfield 7, 3) := by decide +kernel
theorem dX12_slip_76 : decode cX12_slip 76 = .ok (.iload 5, 2) := by decide +kernel
theorem dX12_slip_78 : decode cX12_slip 78 = .ok (.iload_n 1, 1) := by decide +kernel
theorem dX12_slip_79 : decode cX12_slip 79 = .ok (.iastore, 1) := by decide +kernel
theorem dX12_slip_80 : decode cX12_slip 80 = .ok (.aload_n 0, 1) := by decide +kernel
theorem dX12_slip_81 : decode cX12_slip 81 = .ok (.getfield 7, 3) := by decide +kernel
theorem dX12_slip_84 : decode cX12_slip 84 = .ok (.iload 5, 2) := by decide +kernel
theorem dX12_slip_86 : decode cX12_slip 86 = .ok (.iconst 1, 1) := by decide +kernel
theorem dX12_slip_87 : decode cX12_slip 87 = .ok (.iadd, 1) := by decide +kernel
theorem dX12_slip_88 : decode cX12_slip 88 = .ok (.iload_n 2, 1) := by decide +kernel
theorem dX12_slip_89 : decode cX12_slip 89 = .ok (.iastore, 1) := by decide +kernel
theorem dX12_slip_90 : decode cX12_slip 90 = .ok (.aload_n 0, 1) := by decide +kernel
theorem dX12_slip_91 : decode cX12_slip 91 = .ok (.getfield 7, 3) := by decide +kernel
theorem dX12_slip_94 : decode cX12_slip 94 = .ok (.iload 5, 2) := by decide +kernel
theorem dX12_slip_96 : decode cX12_slip 96 = .ok (.iconst 2, 1) := by decide +kernel
theorem dX12_slip_97 : decode cX12_slip 97 = .ok (.iadd, 1) := by decide +kernel
theorem dX12_slip_98 : decode cX12_slip 98 = .ok (.iload_n 3, 1) := by decide +kernel
theorem dX12_slip_99 : decode cX12_slip 99 = .ok (.iastore, 1) := by decide +kernel
theorem dX12_slip_100 : decode cX12_slip 100 = .ok (.aload_n 0, 1) := by decide +kernel
theorem dX12_slip_101 : decode cX12_slip 101 = .ok (.getfield 7, 3) := by decide +kernel
theorem dX12_slip_104 : decode cX12_slip 104 = .ok (.iload 5, 2) := by decide +kernel
theorem dX12_slip_106 : decode cX12_slip 106 = .ok (.iconst 3, 1) := by decide +kernel
theorem dX12_slip_107 : decode cX12_slip 107 = .ok (.iadd, 1) := by decide +kernel
theorem dX12_slip_108 : decode cX12_slip 108 = .ok (.iload 4, 2) := by decide +kernel
theorem dX12_slip_110 : decode cX12_slip 110 = .ok (.iastore, 1) := by decide +kernel
theorem dX12_slip_111 : decode cX12_slip 111 = .ok (.aload_n 0, 1) := by decide +kernel
theorem dX12_slip_112 : decode cX12_slip 112 = .ok (.getfield 7, 3) := by decide +kernel
theorem dX12_slip_115 : decode cX12_slip 115 = .ok (.iconst 2, 1) := by decide +kernel
theorem dX12_slip_116 : decode cX12_slip 116 = .ok (.dup2, 1) := by decide +kernel
theorem dX12_slip_117 : decode cX12_slip 117 = .ok (.iaload, 1) := by decide +kernel
theorem dX12_slip_118 : decode cX12_slip 118 = .ok (.iconst 1, 1) := by decide +kernel
theorem dX12_slip_119 : decode cX12_slip 119 = .ok (.iadd, 1) := by decide +kernel
theorem dX12_slip_120 : decode cX12_slip 120 = .ok (.iastore, 1) := by decide +kernel
theorem dX12_slip_121 : decode cX12_slip 121 = .ok (.aload_n 0, 1) := by decide +kernel
theorem dX12_slip_122 : decode cX12_slip 122 = .ok (.getfield 7, 3) := by decide +kernel
theorem dX12_slip_125 : decode cX12_slip 125 = .ok (.iconst 2, 1) := by decide +kernel
theorem dX12_slip_126 : decode cX12_slip 126 = .ok (.iaload, 1) := by decide +kernel
theorem dX12_slip_127 : decode cX12_slip 127 = .ok (.iconst 1, 1) := by decide +kernel
theorem dX12_slip_128 : decode cX12_slip 128 = .ok (.isub, 1) := by decide +kernel
theorem dX12_slip_129 : decode cX12_slip 129 = .ok (.ireturn, 1) := by decide +kernel
theorem wk_221 : Cond.constantLong RX12 116 (3) ∈ tl_L := List.mem_filter.mpr ⟨lw_m6 (i := 225) rfl, rfl⟩
theorem wk_253 : Cond.methodLink RX12 124 yX12_isColour ∈ tl_L := List.mem_filter.mpr ⟨lw_m6 (i := 235) rfl, rfl⟩
theorem wk_254 : Cond.static yX12_isColour ∈ tl_L := List.mem_filter.mpr ⟨lw_m6 (i := 236) rfl, rfl⟩
theorem wk_255 : Cond.code yX12_isColour cX12_isColour 1 (some .boolean) ∈ tl_L := List.mem_filter.mpr ⟨lw_m6 (i := 237) rfl, rfl⟩
theorem wk_301 : Cond.constantLong RX12 139 (-9999) ∈ tl_L := List.mem_filter.mpr ⟨lw_m7 (i := 17) rfl, rfl⟩
theorem wk_302 : Cond.constantLong RX12 141 (9999) ∈ tl_L := List.mem_filter.mpr ⟨lw_m7 (i := 18) rfl, rfl⟩
theorem lk_X12_124 : tl_kS RX12 124 yX12_isColour cX12_isColour 1 (some .boolean) 1 := ⟨wk_255, wk_253, wk_254, wk_5, ⟨by decide +kernel, by decide +kernel, by decide +kernel⟩⟩
theorem dX12_candidate_0 : decode cX12_candidate 0 = .ok (.aload_n 0, 1) := by decide +kernel
theorem dX12_candidate_1 : decode cX12_candidate 1 = .ok (.getfield 7, 3) := by decide +kernel
theorem dX12_candidate_4 : decode cX12_candidate 4 = .ok (.iconst 4, 1) := by decide +kernel
theorem dX12_candidate_5 : decode cX12_candidate 5 = .ok (.iaload, 1) := by decide +kernel
theorem dX12_candidate_6 : decode cX12_candidate 6 = .ok (.bipush 10, 2) := by decide +kernel
theorem dX12_candidate_8 : decode cX12_candidate 8 = .ok (.if_icmp .eq 27, 3) := by decide +kernel
theorem dX12_candidate_11 : decode cX12_candidate 11 = .ok (.iload_n 1, 1) := by decide +kernel
theorem dX12_candidate_12 : decode cX12_candidate 12 = .ok (.i2l, 1) := by decide +kernel
theorem dX12_candidate_13 : decode cX12_candidate 13 = .ok (.lconst 0, 1) := by decide +kernel
theorem dX12_candidate_14 : decode cX12_candidate 14 = .ok (.ldc2_w 116, 3) := by decide +kernel
theorem dX12_candidate_17 : decode cX12_candidate 17 = .ok (.invokestatic 112, 3) := by decide +kernel
theorem dX12_candidate_20 : decode cX12_candidate 20 = .ok (.ifCond .eq 15, 3) := by decide +kernel
theorem dX12_candidate_23 : decode cX12_candidate 23 = .ok (.iload_n 2, 1) := by decide +kernel
theorem dX12_candidate_24 : decode cX12_candidate 24 = .ok (.i2l, 1) := by decide +kernel
theorem dX12_candidate_25 : decode cX12_candidate 25 = .ok (.lconst 1, 1) := by decide +kernel
theorem dX12_candidate_26 : decode cX12_candidate 26 = .ok (.ldc2_w 471, 3) := by decide +kernel
theorem dX12_candidate_29 : decode cX12_candidate 29 = .ok (.invokestatic 112, 3) := by decide +kernel
theorem dX12_candidate_32 : decode cX12_candidate 32 = .ok (.ifCond .ne 5, 3) := by decide +kernel
theorem dX12_candidate_35 : decode cX12_candidate 35 = .ok (.iconst (-1), 1) := by decide +kernel
theorem dX12_candidate_36 : decode cX12_candidate 36 = .ok (.ireturn, 1) := by decide +kernel
theorem dX12_candidate_37 : decode cX12_candidate 37 = .ok (.sipush 421, 3) := by decide +kernel
theorem dX12_candidate_40 : decode cX12_candidate 40 = .ok (.iconst 2, 1) := by decide +kernel
theorem dX12_candidate_41 : decode cX12_candidate 41 = .ok (.aload_n 0, 1) := by decide +kernel
theorem dX12_candidate_42 : decode cX12_candidate 42 = .ok (.getfield 7, 3) := by decide +kernel
theorem dX12_candidate_45 : decode cX12_candidate 45 = .ok (.iconst 4, 1) := by decide +kernel
theorem dX12_candidate_46 : decode cX12_candidate 46 = .ok (.iaload, 1) := by decide +kernel
theorem dX12_candidate_47 : decode cX12_candidate 47 = .ok (.imul, 1) := by decide +kernel
theorem dX12_candidate_48 : decode cX12_candidate 48 = .ok (.iadd, 1) := by decide +kernel
theorem dX12_candidate_49 : decode cX12_candidate 49 = .ok (.istore_n 3, 1) := by decide +kernel
theorem dX12_candidate_50 : decode cX12_candidate 50 = .ok (.aload_n 0, 1) := by decide +kernel
theorem dX12_candidate_51 : decode cX12_candidate 51 = .ok (.getfield 7, 3) := by decide +kernel
theorem dX12_candidate_54 : decode cX12_candidate 54 = .ok (.iload_n 3, 1) := by decide +kernel
theorem dX12_candidate_55 : decode cX12_candidate 55 = .ok (.iload_n 1, 1) := by decide +kernel
theorem dX12_candidate_56 : decode cX12_candidate 56 = .ok (.iastore, 1) := by decide +kernel
theorem dX12_candidate_57 : decode cX12_candidate 57 = .ok (.aload_n 0, 1) := by decide +kernel
theorem dX12_candidate_58 : decode cX12_candidate 58 = .ok (.getfield 7, 3) := by decide +kernel
theorem dX12_candidate_61 : decode cX12_candidate 61 = .ok (.iload_n 3, 1) := by decide +kernel
theorem dX12_candidate_62 : decode cX12_candidate 62 = .ok (.iconst 1, 1) := by decide +kernel
theorem dX12_candidate_63 : decode cX12_candidate 63 = .ok (.iadd, 1) := by decide +kernel
theorem dX12_candidate_64 : decode cX12_candidate 64 = .ok (.iload_n 2, 1) := by decide +kernel
theorem dX12_candidate_65 : decode cX12_candidate 65 = .ok (.iastore, 1) := by decide +kernel
theorem dX12_candidate_66 : decode cX12_candidate 66 = .ok (.aload_n 0, 1) := by decide +kernel
theorem dX12_candidate_67 : decode cX12_candidate 67 = .ok (.getfield 7, 3) := by decide +kernel
theorem dX12_candidate_70 : decode cX12_candidate 70 = .ok (.iconst 4, 1) := by decide +kernel
theorem dX12_candidate_71 : decode cX12_candidate 71 = .ok (.dup2, 1) := by decide +kernel
theorem dX12_candidate_72 : decode cX12_candidate 72 = .ok (.iaload, 1) := by decide +kernel
theorem dX12_candidate_73 : decode cX12_candidate 73 = .ok (.iconst 1, 1) := by decide +kernel
theorem dX12_candidate_74 : decode cX12_candidate 74 = .ok (.iadd, 1) := by decide +kernel
theorem dX12_candidate_75 : decode cX12_candidate 75 = .ok (.iastore, 1) := by decide +kernel
theorem dX12_candidate_76 : decode cX12_candidate 76 = .ok (.aload_n 0, 1) := by decide +kernel
theorem dX12_candidate_77 : decode cX12_candidate 77 = .ok (.getfield 7, 3) := by decide +kernel
theorem dX12_candidate_80 : decode cX12_candidate 80 = .ok (.iconst 4, 1) := by decide +kernel
theorem dX12_candidate_81 : decode cX12_candidate 81 = .ok (.iaload, 1) := by decide +kernel
theorem dX12_candidate_82 : decode cX12_candidate 82 = .ok (.iconst 1, 1) := by decide +kernel
theorem dX12_candidate_83 : decode cX12_candidate 83 = .ok (.isub, 1) := by decide +kernel
theorem dX12_candidate_84 : decode cX12_candidate 84 = .ok (.ireturn, 1) := by decide +kernel
theorem wk_1077 : Cond.constantLong RX12 471 (99) ∈ tl_L := List.mem_filter.mpr ⟨lw_m8 (i := 100) rfl, rfl⟩
theorem dX12_house_0 : decode cX12_house 0 = .ok (.aload_n 0, 1) := by decide +kernel
theorem dX12_house_1 : decode cX12_house 1 = .ok (.getfield 7, 3) := by decide +kernel
theorem dX12_house_4 : decode cX12_house 4 = .ok (.sipush 7665, 3) := by decide +kernel
theorem dX12_house_7 : decode cX12_house 7 = .ok (.iaload, 1) := by decide +kernel
theorem dX12_house_8 : decode cX12_house 8 = .ok (.bipush 8, 2) := by decide +kernel
theorem dX12_house_10 : decode cX12_house 10 = .ok (.if_icmp .eq 38, 3) := by decide +kernel
theorem dX12_house_13 : decode cX12_house 13 = .ok (.aload_n 0, 1) := by decide +kernel
theorem dX12_house_14 : decode cX12_house 14 = .ok (.iconst 1, 1) := by decide +kernel
theorem dX12_house_15 : decode cX12_house 15 = .ok (.iload_n 1, 1) := by decide +kernel
theorem dX12_house_16 : decode cX12_house 16 = .ok (.invokevirtual 382, 3) := by decide +kernel
theorem dX12_house_19 : decode cX12_house 19 = .ok (.ifCond .eq 29, 3) := by decide +kernel
theorem dX12_house_22 : decode cX12_house 22 = .ok (.iload_n 2, 1) := by decide +kernel
theorem dX12_house_23 : decode cX12_house 23 = .ok (.i2l, 1) := by decide +kernel
theorem dX12_house_24 : decode cX12_house 24 = .ok (.ldc2_w 473, 3) := by decide +kernel
theorem dX12_house_27 : decode cX12_house 27 = .ok (.ldc2_w 475, 3) := by decide +kernel
theorem dX12_house_30 : decode cX12_house 30 = .ok (.invokestatic 112, 3) := by decide +kernel
theorem dX12_house_33 : decode cX12_house 33 = .ok (.ifCond .eq 15, 3) := by decide +kernel
theorem dX12_house_36 : decode cX12_house 36 = .ok (.iload_n 3, 1) := by decide +kernel
theorem dX12_house_37 : decode cX12_house 37 = .ok (.i2l, 1) := by decide +kernel
theorem dX12_house_38 : decode cX12_house 38 = .ok (.lconst 1, 1) := by decide +kernel
theorem dX12_house_39 : decode cX12_house 39 = .ok (.ldc2_w 494, 3) := by decide +kernel
theorem dX12_house_42 : decode cX12_house 42 = .ok (.invokestatic 112, 3) := by decide +kernel
theorem dX12_house_45 : decode cX12_house 45 = .ok (.ifCond .ne 5, 3) := by decide +kernel
theorem dX12_house_48 : decode cX12_house 48 = .ok (.iconst (-1), 1) := by decide +kernel
theorem dX12_house_49 : decode cX12_house 49 = .ok (.ireturn, 1) := by decide +kernel
theorem dX12_house_50 : decode cX12_house 50 = .ok (.sipush 7641, 3) := by decide +kernel
theorem dX12_house_53 : decode cX12_house 53 = .ok (.iconst 3, 1) := by decide +kernel
theorem dX12_house_54 : decode cX12_house 54 = .ok (.aload_n 0, 1) := by decide +kernel
theorem dX12_house_55 : decode cX12_house 55 = .ok (.getfield 7, 3) := by decide +kernel
theorem dX12_house_58 : decode cX12_house 58 = .ok (.sipush 7665, 3) := by decide +kernel
theorem dX12_house_61 : decode cX12_house 61 = .ok (.iaload, 1) := by decide +kernel
theorem dX12_house_62 : decode cX12_house 62 = .ok (.imul, 1) := by decide +kernel
theorem dX12_house_63 : decode cX12_house 63 = .ok (.iadd, 1) := by decide +kernel
theorem dX12_house_64 : decode cX12_house 64 = .ok (.istore 4, 2) := by decide +kernel
theorem dX12_house_66 : decode cX12_house 66 = .ok (.aload_n 0, 1) := by decide +kernel
theorem dX12_house_67 : decode cX12_house 67 = .ok (.getfield 7, 3) := by decide +kernel
theorem dX12_house_70 : decode cX12_house 70 = .ok (.iload 4, 2) := by decide +kernel
theorem dX12_house_72 : decode cX12_house 72 = .ok (.iload_n 1, 1) := by decide +kernel
theorem dX12_house_73 : decode cX12_house 73 = .ok (.iastore, 1) := by decide +kernel
theorem dX12_house_74 : decode cX12_house 74 = .ok (.aload_n 0, 1) := by decide +kernel
theorem dX12_house_75 : decode cX12_house 75 = .ok (.getfield 7, 3) := by decide +kernel
theorem dX12_house_78 : decode cX12_house 78 = .ok (.iload 4, 2) := by decide +kernel
theorem dX12_house_80 : decode cX12_house 80 = .ok (.iconst 1, 1) := by decide +kernel
theorem dX12_house_81 : decode cX12_house 81 = .ok (.iadd, 1) := by decide +kernel
theorem dX12_house_82 : decode cX12_house 82 = .ok (.iload_n 2, 1) := by decide +kernel
theorem dX12_house_83 : decode cX12_house 83 = .ok (.iastore, 1) := by decide +kernel
theorem dX12_house_84 : decode cX12_house 84 = .ok (.aload_n 0, 1) := by decide +kernel
theorem dX12_house_85 : decode cX12_house 85 = .ok (.getfield 7, 3) := by decide +kernel
theorem dX12_house_88 : decode cX12_house 88 = .ok (.iload 4, 2) := by decide +kernel
theorem dX12_house_90 : decode cX12_house 90 = .ok (.iconst 2, 1) := by decide +kernel
theorem dX12_house_91 : decode cX12_house 91 = .ok (.iadd, 1) := by decide +kernel
theorem dX12_house_92 : decode cX12_house 92 = .ok (.iload_n 3, 1) := by decide +kernel
theorem dX12_house_93 : decode cX12_house 93 = .ok (.iastore, 1) := by decide +kernel
theorem dX12_house_94 : decode cX12_house 94 = .ok (.aload_n 0, 1) := by decide +kernel
theorem dX12_house_95 : decode cX12_house 95 = .ok (.getfield 7, 3) := by decide +kernel
theorem dX12_house_98 : decode cX12_house 98 = .ok (.sipush 7665, 3) := by decide +kernel
theorem dX12_house_101 : decode cX12_house 101 = .ok (.dup2, 1) := by decide +kernel
theorem dX12_house_102 : decode cX12_house 102 = .ok (.iaload, 1) := by decide +kernel
theorem dX12_house_103 : decode cX12_house 103 = .ok (.iconst 1, 1) := by decide +kernel
theorem dX12_house_104 : decode cX12_house 104 = .ok (.iadd, 1) := by decide +kernel
theorem dX12_house_105 : decode cX12_house 105 = .ok (.iastore, 1) := by decide +kernel
theorem dX12_house_106 : decode cX12_house 106 = .ok (.aload_n 0, 1) := by decide +kernel
theorem dX12_house_107 : decode cX12_house 107 = .ok (.getfield 7, 3) := by decide +kernel
theorem dX12_house_110 : decode cX12_house 110 = .ok (.sipush 7665, 3) := by decide +kernel
theorem dX12_house_113 : decode cX12_house 113 = .ok (.iaload, 1) := by decide +kernel
theorem dX12_house_114 : decode cX12_house 114 = .ok (.iconst 1, 1) := by decide +kernel
theorem dX12_house_115 : decode cX12_house 115 = .ok (.isub, 1) := by decide +kernel
theorem dX12_house_116 : decode cX12_house 116 = .ok (.ireturn, 1) := by decide +kernel
theorem wk_1091 : Cond.constantLong RX12 473 (-999999) ∈ tl_L := List.mem_filter.mpr ⟨lw_m8 (i := 105) rfl, rfl⟩
theorem wk_1092 : Cond.constantLong RX12 475 (999999) ∈ tl_L := List.mem_filter.mpr ⟨lw_m8 (i := 106) rfl, rfl⟩
theorem wk_1173 : Cond.constantLong RX12 494 (15) ∈ tl_L := List.mem_filter.mpr ⟨lw_m8 (i := 140) rfl, rfl⟩
theorem dX12_anew_0 : decode cX12_anew 0 = .ok (.iload_n 1, 1) := by decide +kernel
theorem dX12_anew_1 : decode cX12_anew 1 = .ok (.i2l, 1) := by decide +kernel
theorem dX12_anew_2 : decode cX12_anew 2 = .ok (.lconst 0, 1) := by decide +kernel
theorem dX12_anew_3 : decode cX12_anew 3 = .ok (.aload_n 0, 1) := by decide +kernel
theorem dX12_anew_4 : decode cX12_anew 4 = .ok (.getfield 7, 3) := by decide +kernel
theorem dX12_anew_7 : decode cX12_anew 7 = .ok (.iconst 2, 1) := by decide +kernel
theorem dX12_anew_8 : decode cX12_anew 8 = .ok (.iaload, 1) := by decide +kernel
theorem dX12_anew_9 : decode cX12_anew 9 = .ok (.iconst 1, 1) := by decide +kernel
theorem dX12_anew_10 : decode cX12_anew 10 = .ok (.isub, 1) := by decide +kernel
theorem dX12_anew_11 : decode cX12_anew 11 = .ok (.i2l, 1) := by decide +kernel
theorem dX12_anew_12 : decode cX12_anew 12 = .ok (.invokestatic 112, 3) := by decide +kernel
theorem dX12_anew_15 : decode cX12_anew 15 = .ok (.ifCond .eq 17, 3) := by decide +kernel
theorem dX12_anew_18 : decode cX12_anew 18 = .ok (.iload_n 2, 1) := by decide +kernel
theorem dX12_anew_19 : decode cX12_anew 19 = .ok (.i2l, 1) := by decide +kernel
theorem dX12_anew_20 : decode cX12_anew 20 = .ok (.ldc2_w 139, 3) := by decide +kernel
theorem dX12_anew_23 : decode cX12_anew 23 = .ok (.ldc2_w 141, 3) := by decide +kernel
theorem dX12_anew_26 : decode cX12_anew 26 = .ok (.invokestatic 112, 3) := by decide +kernel
theorem dX12_anew_29 : decode cX12_anew 29 = .ok (.ifCond .ne 6, 3) := by decide +kernel
theorem dX12_anew_32 : decode cX12_anew 32 = .ok (.ldc 131, 2) := by decide +kernel
theorem dX12_anew_34 : decode cX12_anew 34 = .ok (.ireturn, 1) := by decide +kernel
theorem dX12_anew_35 : decode cX12_anew 35 = .ok (.aload_n 0, 1) := by decide +kernel
theorem dX12_anew_36 : decode cX12_anew 36 = .ok (.getfield 7, 3) := by decide +kernel
theorem dX12_anew_39 : decode cX12_anew 39 = .ok (.bipush 81, 2) := by decide +kernel
theorem dX12_anew_41 : decode cX12_anew 41 = .ok (.iconst 4, 1) := by decide +kernel
theorem dX12_anew_42 : decode cX12_anew 42 = .ok (.iload_n 1, 1) := by decide +kernel
theorem dX12_anew_43 : decode cX12_anew 43 = .ok (.imul, 1) := by decide +kernel
theorem dX12_anew_44 : decode cX12_anew 44 = .ok (.iadd, 1) := by decide +kernel
theorem dX12_anew_45 : decode cX12_anew 45 = .ok (.iconst 3, 1) := by decide +kernel
theorem dX12_anew_46 : decode cX12_anew 46 = .ok (.iadd, 1) := by decide +kernel
theorem dX12_anew_47 : decode cX12_anew 47 = .ok (.iaload, 1) := by decide +kernel
theorem dX12_anew_48 : decode cX12_anew 48 = .ok (.istore_n 3, 1) := by decide +kernel
theorem dX12_anew_49 : decode cX12_anew 49 = .ok (.aload_n 0, 1) := by decide +kernel
theorem dX12_anew_50 : decode cX12_anew 50 = .ok (.getfield 7, 3) := by decide +kernel
theorem dX12_anew_53 : decode cX12_anew 53 = .ok (.bipush 81, 2) := by decide +kernel
theorem dX12_anew_55 : decode cX12_anew 55 = .ok (.iconst 4, 1) := by decide +kernel
theorem dX12_anew_56 : decode cX12_anew 56 = .ok (.iload_n 1, 1) := by decide +kernel
theorem dX12_anew_57 : decode cX12_anew 57 = .ok (.imul, 1) := by decide +kernel
theorem dX12_anew_58 : decode cX12_anew 58 = .ok (.iadd, 1) := by decide +kernel
theorem dX12_anew_59 : decode cX12_anew 59 = .ok (.iconst 3, 1) := by decide +kernel
theorem dX12_anew_60 : decode cX12_anew 60 = .ok (.iadd, 1) := by decide +kernel
theorem dX12_anew_61 : decode cX12_anew 61 = .ok (.iload_n 2, 1) := by decide +kernel
theorem dX12_anew_62 : decode cX12_anew 62 = .ok (.iastore, 1) := by decide +kernel
theorem dX12_anew_63 : decode cX12_anew 63 = .ok (.iload_n 3, 1) := by decide +kernel
theorem dX12_anew_64 : decode cX12_anew 64 = .ok (.ireturn, 1) := by decide +kernel
theorem wk_248 : Cond.constant RX12 131 (-2000000) ∈ tl_L := List.mem_filter.mpr ⟨lw_m7 (i := 0) rfl, rfl⟩
theorem dX12_told_0 : decode cX12_told 0 = .ok (.iload_n 1, 1) := by decide +kernel
theorem dX12_told_1 : decode cX12_told 1 = .ok (.i2l, 1) := by decide +kernel
theorem dX12_told_2 : decode cX12_told 2 = .ok (.lconst 0, 1) := by decide +kernel
theorem dX12_told_3 : decode cX12_told 3 = .ok (.ldc2_w 116, 3) := by decide +kernel
theorem dX12_told_6 : decode cX12_told 6 = .ok (.invokestatic 112, 3) := by decide +kernel
theorem dX12_told_9 : decode cX12_told 9 = .ok (.ifCond .eq 15, 3) := by decide +kernel
theorem dX12_told_12 : decode cX12_told 12 = .ok (.iload_n 2, 1) := by decide +kernel
theorem dX12_told_13 : decode cX12_told 13 = .ok (.i2l, 1) := by decide +kernel
theorem dX12_told_14 : decode cX12_told 14 = .ok (.lconst 0, 1) := by decide +kernel
theorem dX12_told_15 : decode cX12_told 15 = .ok (.ldc2_w 141, 3) := by decide +kernel
theorem dX12_told_18 : decode cX12_told 18 = .ok (.invokestatic 112, 3) := by decide +kernel
theorem dX12_told_21 : decode cX12_told 21 = .ok (.ifCond .ne 5, 3) := by decide +kernel
theorem dX12_told_24 : decode cX12_told 24 = .ok (.iconst (-1), 1) := by decide +kernel
theorem dX12_told_25 : decode cX12_told 25 = .ok (.ireturn, 1) := by decide +kernel
theorem dX12_told_26 : decode cX12_told 26 = .ok (.aload_n 0, 1) := by decide +kernel
theorem dX12_told_27 : decode cX12_told 27 = .ok (.getfield 7, 3) := by decide +kernel
theorem dX12_told_30 : decode cX12_told 30 = .ok (.iconst 5, 1) := by decide +kernel
theorem dX12_told_31 : decode cX12_told 31 = .ok (.iload_n 1, 1) := by decide +kernel
theorem dX12_told_32 : decode cX12_told 32 = .ok (.iadd, 1) := by decide +kernel
theorem dX12_told_33 : decode cX12_told 33 = .ok (.iaload, 1) := by decide +kernel
theorem dX12_told_34 : decode cX12_told 34 = .ok (.istore_n 3, 1) := by decide +kernel
theorem dX12_told_35 : decode cX12_told 35 = .ok (.aload_n 0, 1) := by decide +kernel
theorem dX12_told_36 : decode cX12_told 36 = .ok (.getfield 7, 3) := by decide +kernel
theorem dX12_told_39 : decode cX12_told 39 = .ok (.iconst 5, 1) := by decide +kernel
theorem dX12_told_40 : decode cX12_told 40 = .ok (.iload_n 1, 1) := by decide +kernel
theorem dX12_told_41 : decode cX12_told 41 = .ok (.iadd, 1) := by decide +kernel
theorem dX12_told_42 : decode cX12_told 42 = .ok (.iload_n 2, 1) := by decide +kernel
theorem dX12_told_43 : decode cX12_told 43 = .ok (.iastore, 1) := by decide +kernel
theorem dX12_told_44 : decode cX12_told 44 = .ok (.iload_n 3, 1) := by decide +kernel
theorem dX12_told_45 : decode cX12_told 45 = .ok (.ireturn, 1) := by decide +kernel
theorem dX12_raw_0 : decode cX12_raw 0 = .ok (.aload_n 0, 1) := by decide +kernel
theorem dX12_raw_1 : decode cX12_raw 1 = .ok (.iload_n 1, 1) := by decide +kernel
theorem dX12_raw_2 : decode cX12_raw 2 = .ok (.invokevirtual 120, 3) := by decide +kernel
theorem dX12_raw_5 : decode cX12_raw 5 = .ok (.ifCond .eq 30, 3) := by decide +kernel
theorem dX12_raw_8 : decode cX12_raw 8 = .ok (.iload_n 2, 1) := by decide +kernel
theorem dX12_raw_9 : decode cX12_raw 9 = .ok (.invokestatic 124, 3) := by decide +kernel
theorem dX12_raw_12 : decode cX12_raw 12 = .ok (.ifCond .eq 23, 3) := by decide +kernel
theorem dX12_raw_15 : decode cX12_raw 15 = .ok (.iload_n 3, 1) := by decide +kernel
theorem dX12_raw_16 : decode cX12_raw 16 = .ok (.ldc 109, 2) := by decide +kernel
theorem dX12_raw_18 : decode cX12_raw 18 = .ok (.if_icmp .eq 20, 3) := by decide +kernel
theorem dX12_raw_21 : decode cX12_raw 21 = .ok (.iload_n 3, 1) := by decide +kernel
theorem dX12_raw_22 : decode cX12_raw 22 = .ok (.i2l, 1) := by decide +kernel
theorem dX12_raw_23 : decode cX12_raw 23 = .ok (.ldc2_w 127, 3) := by decide +kernel
theorem dX12_raw_26 : decode cX12_raw 26 = .ok (.ldc2_w 129, 3) := by decide +kernel
theorem dX12_raw_29 : decode cX12_raw 29 = .ok (.invokestatic 112, 3) := by decide +kernel
theorem dX12_raw_32 : decode cX12_raw 32 = .ok (.ifCond .ne 6, 3) := by decide +kernel
theorem dX12_raw_35 : decode cX12_raw 35 = .ok (.ldc 131, 2) := by decide +kernel
theorem dX12_raw_37 : decode cX12_raw 37 = .ok (.ireturn, 1) := by decide +kernel
theorem dX12_raw_38 : decode cX12_raw 38 = .ok (.aload_n 0, 1) := by decide +kernel
theorem dX12_raw_39 : decode cX12_raw 39 = .ok (.getfield 7, 3) := by decide +kernel
theorem dX12_raw_42 : decode cX12_raw 42 = .ok (.sipush 441, 3) := by decide +kernel
theorem dX12_raw_45 : decode cX12_raw 45 = .ok (.sipush 300, 3) := by decide +kernel
theorem dX12_raw_48 : decode cX12_raw 48 = .ok (.iload_n 1, 1) := by decide +kernel
theorem dX12_raw_49 : decode cX12_raw 49 = .ok (.imul, 1) := by decide +kernel
theorem dX12_raw_50 : decode cX12_raw 50 = .ok (.iadd, 1) := by decide +kernel
theorem dX12_raw_51 : decode cX12_raw 51 = .ok (.iload_n 2, 1) := by decide +kernel
theorem dX12_raw_52 : decode cX12_raw 52 = .ok (.iadd, 1) := by decide +kernel
theorem dX12_raw_53 : decode cX12_raw 53 = .ok (.iaload, 1) := by decide +kernel
theorem dX12_raw_54 : decode cX12_raw 54 = .ok (.istore 4, 2) := by decide +kernel
theorem dX12_raw_56 : decode cX12_raw 56 = .ok (.aload_n 0, 1) := by decide +kernel
theorem dX12_raw_57 : decode cX12_raw 57 = .ok (.getfield 7, 3) := by decide +kernel
theorem dX12_raw_60 : decode cX12_raw 60 = .ok (.sipush 441, 3) := by decide +kernel
theorem dX12_raw_63 : decode cX12_raw 63 = .ok (.sipush 300, 3) := by decide +kernel
theorem dX12_raw_66 : decode cX12_raw 66 = .ok (.iload_n 1, 1) := by decide +kernel
theorem dX12_raw_67 : decode cX12_raw 67 = .ok (.imul, 1) := by decide +kernel
theorem dX12_raw_68 : decode cX12_raw 68 = .ok (.iadd, 1) := by decide +kernel
theorem dX12_raw_69 : decode cX12_raw 69 = .ok (.iload_n 2, 1) := by decide +kernel
theorem dX12_raw_70 : decode cX12_raw 70 = .ok (.iadd, 1) := by decide +kernel
theorem dX12_raw_71 : decode cX12_raw 71 = .ok (.iload_n 3, 1) := by decide +kernel
theorem dX12_raw_72 : decode cX12_raw 72 = .ok (.iastore, 1) := by decide +kernel
theorem dX12_raw_73 : decode cX12_raw 73 = .ok (.iload 4, 2) := by decide +kernel
theorem dX12_raw_75 : decode cX12_raw 75 = .ok (.ireturn, 1) := by decide +kernel
theorem wk_182 : Cond.constant RX12 109 (-1000000) ∈ tl_L := List.mem_filter.mpr ⟨lw_m6 (i := 64) rfl, rfl⟩
theorem wk_246 : Cond.constantLong RX12 127 (-100000) ∈ tl_L := List.mem_filter.mpr ⟨lw_m6 (i := 238) rfl, rfl⟩
theorem wk_247 : Cond.constantLong RX12 129 (100000) ∈ tl_L := List.mem_filter.mpr ⟨lw_m6 (i := 239) rfl, rfl⟩
theorem dX12_row_0 : decode cX12_row 0 = .ok (.aload_n 0, 1) := by decide +kernel
theorem dX12_row_1 : decode cX12_row 1 = .ok (.getfield 7, 3) := by decide +kernel
theorem dX12_row_4 : decode cX12_row 4 = .ok (.iconst 1, 1) := by decide +kernel
theorem dX12_row_5 : decode cX12_row 5 = .ok (.iaload, 1) := by decide +kernel
theorem dX12_row_6 : decode cX12_row 6 = .ok (.bipush 24, 2) := by decide +kernel
theorem dX12_row_8 : decode cX12_row 8 = .ok (.if_icmp .eq 27, 3) := by decide +kernel
theorem dX12_row_11 : decode cX12_row 11 = .ok (.iload_n 1, 1) := by decide +kernel
theorem dX12_row_12 : decode cX12_row 12 = .ok (.i2l, 1) := by decide +kernel
theorem dX12_row_13 : decode cX12_row 13 = .ok (.lconst 0, 1) := by decide +kernel
theorem dX12_row_14 : decode cX12_row 14 = .ok (.ldc2_w 116, 3) := by decide +kernel
theorem dX12_row_17 : decode cX12_row 17 = .ok (.invokestatic 112, 3) := by decide +kernel
theorem dX12_row_20 : decode cX12_row 20 = .ok (.ifCond .eq 15, 3) := by decide +kernel
theorem dX12_row_23 : decode cX12_row 23 = .ok (.iload_n 2, 1) := by decide +kernel
theorem dX12_row_24 : decode cX12_row 24 = .ok (.i2l, 1) := by decide +kernel
theorem dX12_row_25 : decode cX12_row 25 = .ok (.lconst 0, 1) := by decide +kernel
theorem dX12_row_26 : decode cX12_row 26 = .ok (.ldc2_w 118, 3) := by decide +kernel
theorem dX12_row_29 : decode cX12_row 29 = .ok (.invokestatic 112, 3) := by decide +kernel
theorem dX12_row_32 : decode cX12_row 32 = .ok (.ifCond .ne 5, 3) := by decide +kernel
theorem dX12_row_35 : decode cX12_row 35 = .ok (.iconst (-1), 1) := by decide +kernel
theorem dX12_row_36 : decode cX12_row 36 = .ok (.ireturn, 1) := by decide +kernel
theorem dX12_row_37 : decode cX12_row 37 = .ok (.aload_n 0, 1) := by decide +kernel
theorem dX12_row_38 : decode cX12_row 38 = .ok (.getfield 7, 3) := by decide +kernel
theorem dX12_row_41 : decode cX12_row 41 = .ok (.iconst 1, 1) := by decide +kernel
theorem dX12_row_42 : decode cX12_row 42 = .ok (.iaload, 1) := by decide +kernel
theorem dX12_row_43 : decode cX12_row 43 = .ok (.istore_n 3, 1) := by decide +kernel
theorem dX12_row_44 : decode cX12_row 44 = .ok (.aload_n 0, 1) := by decide +kernel
theorem dX12_row_45 : decode cX12_row 45 = .ok (.getfield 7, 3) := by decide +kernel
theorem dX12_row_48 : decode cX12_row 48 = .ok (.bipush 9, 2) := by decide +kernel
theorem dX12_row_50 : decode cX12_row 50 = .ok (.iconst 3, 1) := by decide +kernel
theorem dX12_row_51 : decode cX12_row 51 = .ok (.iload_n 3, 1) := by decide +kernel
theorem dX12_row_52 : decode cX12_row 52 = .ok (.imul, 1) := by decide +kernel
theorem dX12_row_53 : decode cX12_row 53 = .ok (.iadd, 1) := by decide +kernel
theorem dX12_row_54 : decode cX12_row 54 = .ok (.iload_n 1, 1) := by decide +kernel
theorem dX12_row_55 : decode cX12_row 55 = .ok (.iastore, 1) := by decide +kernel
theorem dX12_row_56 : decode cX12_row 56 = .ok (.aload_n 0, 1) := by decide +kernel
theorem dX12_row_57 : decode cX12_row 57 = .ok (.getfield 7, 3) := by decide +kernel
theorem dX12_row_60 : decode cX12_row 60 = .ok (.bipush 9, 2) := by decide +kernel
theorem dX12_row_62 : decode cX12_row 62 = .ok (.iconst 3, 1) := by decide +kernel
theorem dX12_row_63 : decode cX12_row 63 = .ok (.iload_n 3, 1) := by decide +kernel
theorem dX12_row_64 : decode cX12_row 64 = .ok (.imul, 1) := by decide +kernel
theorem dX12_row_65 : decode cX12_row 65 = .ok (.iadd, 1) := by decide +kernel
theorem dX12_row_66 : decode cX12_row 66 = .ok (.iconst 1, 1) := by decide +kernel
theorem dX12_row_67 : decode cX12_row 67 = .ok (.iadd, 1) := by decide +kernel
theorem dX12_row_68 : decode cX12_row 68 = .ok (.iload_n 2, 1) := by decide +kernel
theorem dX12_row_69 : decode cX12_row 69 = .ok (.iastore, 1) := by decide +kernel
theorem dX12_row_70 : decode cX12_row 70 = .ok (.aload_n 0, 1) := by decide +kernel
theorem dX12_row_71 : decode cX12_row 71 = .ok (.getfield 7, 3) := by decide +kernel
theorem dX12_row_74 : decode cX12_row 74 = .ok (.bipush 9, 2) := by decide +kernel
theorem dX12_row_76 : decode cX12_row 76 = .ok (.iconst 3, 1) := by decide +kernel
theorem dX12_row_77 : decode cX12_row 77 = .ok (.iload_n 3, 1) := by decide +kernel
theorem dX12_row_78 : decode cX12_row 78 = .ok (.imul, 1) := by decide +kernel
theorem dX12_row_79 : decode cX12_row 79 = .ok (.iadd, 1) := by decide +kernel
theorem dX12_row_80 : decode cX12_row 80 = .ok (.iconst 2, 1) := by decide +kernel
theorem dX12_row_81 : decode cX12_row 81 = .ok (.iadd, 1) := by decide +kernel
theorem dX12_row_82 : decode cX12_row 82 = .ok (.aload_n 0, 1) := by decide +kernel
theorem dX12_row_83 : decode cX12_row 83 = .ok (.getfield 7, 3) := by decide +kernel
theorem dX12_row_86 : decode cX12_row 86 = .ok (.iconst 0, 1) := by decide +kernel
theorem dX12_row_87 : decode cX12_row 87 = .ok (.iaload, 1) := by decide +kernel
theorem dX12_row_88 : decode cX12_row 88 = .ok (.iastore, 1) := by decide +kernel
theorem dX12_row_89 : decode cX12_row 89 = .ok (.iconst 0, 1) := by decide +kernel
theorem dX12_row_90 : decode cX12_row 90 = .ok (.istore 4, 2) := by decide +kernel
theorem dX12_row_92 : decode cX12_row 92 = .ok (.iload 4, 2) := by decide +kernel
theorem dX12_row_94 : decode cX12_row 94 = .ok (.sipush 300, 3) := by decide +kernel
theorem dX12_row_97 : decode cX12_row 97 = .ok (.if_icmp .ge 28, 3) := by decide +kernel
theorem dX12_row_100 : decode cX12_row 100 = .ok (.aload_n 0, 1) := by decide +kernel
theorem dX12_row_101 : decode cX12_row 101 = .ok (.getfield 7, 3) := by decide +kernel
theorem dX12_row_104 : decode cX12_row 104 = .ok (.sipush 441, 3) := by decide +kernel
theorem dX12_row_107 : decode cX12_row 107 = .ok (.sipush 300, 3) := by decide +kernel
theorem dX12_row_110 : decode cX12_row 110 = .ok (.iload_n 3, 1) := by decide +kernel
theorem dX12_row_111 : decode cX12_row 111 = .ok (.imul, 1) := by decide +kernel
theorem dX12_row_112 : decode cX12_row 112 = .ok (.iadd, 1) := by decide +kernel
theorem dX12_row_113 : decode cX12_row 113 = .ok (.iload 4, 2) := by decide +kernel
theorem dX12_row_115 : decode cX12_row 115 = .ok (.iadd, 1) := by decide +kernel
theorem dX12_row_116 : decode cX12_row 116 = .ok (.ldc 109, 2) := by decide +kernel
theorem dX12_row_118 : decode cX12_row 118 = .ok (.iastore, 1) := by decide +kernel
theorem dX12_row_119 : decode cX12_row 119 = .ok (.iinc 4 1, 3) := by decide +kernel
theorem dX12_row_122 : decode cX12_row 122 = .ok (.goto (-30), 3) := by decide +kernel
theorem dX12_row_125 : decode cX12_row 125 = .ok (.aload_n 0, 1) := by decide +kernel
theorem dX12_row_126 : decode cX12_row 126 = .ok (.getfield 7, 3) := by decide +kernel
theorem dX12_row_129 : decode cX12_row 129 = .ok (.iconst 1, 1) := by decide +kernel
theorem dX12_row_130 : decode cX12_row 130 = .ok (.dup2, 1) := by decide +kernel
theorem dX12_row_131 : decode cX12_row 131 = .ok (.iaload, 1) := by decide +kernel
theorem dX12_row_132 : decode cX12_row 132 = .ok (.iconst 1, 1) := by decide +kernel
theorem dX12_row_133 : decode cX12_row 133 = .ok (.iadd, 1) := by decide +kernel
theorem dX12_row_134 : decode cX12_row 134 = .ok (.iastore, 1) := by decide +kernel
theorem dX12_row_135 : decode cX12_row 135 = .ok (.iload_n 3, 1) := by decide +kernel
theorem dX12_row_136 : decode cX12_row 136 = .ok (.ireturn, 1) := by decide +kernel
theorem wk_222 : Cond.constantLong RX12 118 (999) ∈ tl_L := List.mem_filter.mpr ⟨lw_m6 (i := 226) rfl, rfl⟩
theorem dX12_image_0 : decode cX12_image 0 = .ok (.iload_n 1, 1) := by decide +kernel
theorem dX12_image_1 : decode cX12_image 1 = .ok (.i2l, 1) := by decide +kernel
theorem dX12_image_2 : decode cX12_image 2 = .ok (.lconst 0, 1) := by decide +kernel
theorem dX12_image_3 : decode cX12_image 3 = .ok (.ldc2_w 116, 3) := by decide +kernel
theorem dX12_image_6 : decode cX12_image 6 = .ok (.invokestatic 112, 3) := by decide +kernel
theorem dX12_image_9 : decode cX12_image 9 = .ok (.ifCond .ne 5, 3) := by decide +kernel
theorem dX12_image_12 : decode cX12_image 12 = .ok (.iconst (-1), 1) := by decide +kernel
theorem dX12_image_13 : decode cX12_image 13 = .ok (.ireturn, 1) := by decide +kernel
theorem dX12_image_14 : decode cX12_image 14 = .ok (.aload_n 0, 1) := by decide +kernel
theorem dX12_image_15 : decode cX12_image 15 = .ok (.getfield 106, 3) := by decide +kernel
theorem dX12_image_18 : decode cX12_image 18 = .ok (.iload_n 1, 1) := by decide +kernel
theorem dX12_image_19 : decode cX12_image 19 = .ok (.iconst 1, 1) := by decide +kernel
theorem dX12_image_20 : decode cX12_image 20 = .ok (.bastore, 1) := by decide +kernel
theorem dX12_image_21 : decode cX12_image 21 = .ok (.iconst 0, 1) := by decide +kernel
theorem dX12_image_22 : decode cX12_image 22 = .ok (.istore_n 2, 1) := by decide +kernel
theorem dX12_image_23 : decode cX12_image 23 = .ok (.iload_n 2, 1) := by decide +kernel
theorem dX12_image_24 : decode cX12_image 24 = .ok (.sipush 7666, 3) := by decide +kernel
theorem dX12_image_27 : decode cX12_image 27 = .ok (.if_icmp .ge 27, 3) := by decide +kernel
theorem dX12_image_30 : decode cX12_image 30 = .ok (.aload_n 0, 1) := by decide +kernel
theorem dX12_image_31 : decode cX12_image 31 = .ok (.getfield 103, 3) := by decide +kernel
theorem dX12_image_34 : decode cX12_image 34 = .ok (.sipush 7666, 3) := by decide +kernel
theorem dX12_image_37 : decode cX12_image 37 = .ok (.iload_n 1, 1) := by decide +kernel
theorem dX12_image_38 : decode cX12_image 38 = .ok (.imul, 1) := by decide +kernel
theorem dX12_image_39 : decode cX12_image 39 = .ok (.iload_n 2, 1) := by decide +kernel
theorem dX12_image_40 : decode cX12_image 40 = .ok (.iadd, 1) := by decide +kernel
theorem dX12_image_41 : decode cX12_image 41 = .ok (.aload_n 0, 1) := by decide +kernel
theorem dX12_image_42 : decode cX12_image 42 = .ok (.getfield 7, 3) := by decide +kernel
theorem dX12_image_45 : decode cX12_image 45 = .ok (.iload_n 2, 1) := by decide +kernel
theorem dX12_image_46 : decode cX12_image 46 = .ok (.iaload, 1) := by decide +kernel
theorem dX12_image_47 : decode cX12_image 47 = .ok (.iastore, 1) := by decide +kernel
theorem dX12_image_48 : decode cX12_image 48 = .ok (.iinc 2 1, 3) := by decide +kernel
theorem dX12_image_51 : decode cX12_image 51 = .ok (.goto (-28), 3) := by decide +kernel
theorem dX12_image_54 : decode cX12_image 54 = .ok (.aload_n 0, 1) := by decide +kernel
theorem dX12_image_55 : decode cX12_image 55 = .ok (.getfield 7, 3) := by decide +kernel
theorem dX12_image_58 : decode cX12_image 58 = .ok (.iconst 1, 1) := by decide +kernel
theorem dX12_image_59 : decode cX12_image 59 = .ok (.iaload, 1) := by decide +kernel
theorem dX12_image_60 : decode cX12_image 60 = .ok (.ireturn, 1) := by decide +kernel
theorem wk_180 : Cond.fieldLink RX12 103 "ThinLineModel" "images" "[I" ∈ tl_L := List.mem_filter.mpr ⟨lw_m6 (i := 112) rfl, rfl⟩
theorem wk_181 : Cond.fieldLink RX12 106 "ThinLineModel" "isMade" "[Z" ∈ tl_L := List.mem_filter.mpr ⟨lw_m6 (i := 113) rfl, rfl⟩
theorem dX12_back_0 : decode cX12_back 0 = .ok (.iload_n 1, 1) := by decide +kernel
theorem dX12_back_1 : decode cX12_back 1 = .ok (.i2l, 1) := by decide +kernel
theorem dX12_back_2 : decode cX12_back 2 = .ok (.lconst 0, 1) := by decide +kernel
theorem dX12_back_3 : decode cX12_back 3 = .ok (.ldc2_w 116, 3) := by decide +kernel
theorem dX12_back_6 : decode cX12_back 6 = .ok (.invokestatic 112, 3) := by decide +kernel
theorem dX12_back_9 : decode cX12_back 9 = .ok (.ifCond .eq 12, 3) := by decide +kernel
theorem dX12_back_12 : decode cX12_back 12 = .ok (.aload_n 0, 1) := by decide +kernel
theorem dX12_back_13 : decode cX12_back 13 = .ok (.getfield 106, 3) := by decide +kernel
theorem dX12_back_16 : decode cX12_back 16 = .ok (.iload_n 1, 1) := by decide +kernel
theorem dX12_back_17 : decode cX12_back 17 = .ok (.baload, 1) := by decide +kernel
theorem dX12_back_18 : decode cX12_back 18 = .ok (.ifCond .ne 5, 3) := by decide +kernel
theorem dX12_back_21 : decode cX12_back 21 = .ok (.iconst (-1), 1) := by decide +kernel
theorem dX12_back_22 : decode cX12_back 22 = .ok (.ireturn, 1) := by decide +kernel
theorem dX12_back_23 : decode cX12_back 23 = .ok (.iconst 0, 1) := by decide +kernel
theorem dX12_back_24 : decode cX12_back 24 = .ok (.istore_n 2, 1) := by decide +kernel
theorem dX12_back_25 : decode cX12_back 25 = .ok (.iload_n 2, 1) := by decide +kernel
theorem dX12_back_26 : decode cX12_back 26 = .ok (.sipush 7666, 3) := by decide +kernel
theorem dX12_back_29 : decode cX12_back 29 = .ok (.if_icmp .ge 27, 3) := by decide +kernel
theorem dX12_back_32 : decode cX12_back 32 = .ok (.aload_n 0, 1) := by decide +kernel
theorem dX12_back_33 : decode cX12_back 33 = .ok (.getfield 7, 3) := by decide +kernel
theorem dX12_back_36 : decode cX12_back 36 = .ok (.iload_n 2, 1) := by decide +kernel
theorem dX12_back_37 : decode cX12_back 37 = .ok (.aload_n 0, 1) := by decide +kernel
theorem dX12_back_38 : decode cX12_back 38 = .ok (.getfield 103, 3) := by decide +kernel
theorem dX12_back_41 : decode cX12_back 41 = .ok (.sipush 7666, 3) := by decide +kernel
theorem dX12_back_44 : decode cX12_back 44 = .ok (.iload_n 1, 1) := by decide +kernel
theorem dX12_back_45 : decode cX12_back 45 = .ok (.imul, 1) := by decide +kernel
theorem dX12_back_46 : decode cX12_back 46 = .ok (.iload_n 2, 1) := by decide +kernel
theorem dX12_back_47 : decode cX12_back 47 = .ok (.iadd, 1) := by decide +kernel
theorem dX12_back_48 : decode cX12_back 48 = .ok (.iaload, 1) := by decide +kernel
theorem dX12_back_49 : decode cX12_back 49 = .ok (.iastore, 1) := by decide +kernel
theorem dX12_back_50 : decode cX12_back 50 = .ok (.iinc 2 1, 3) := by decide +kernel
theorem dX12_back_53 : decode cX12_back 53 = .ok (.goto (-28), 3) := by decide +kernel
theorem dX12_back_56 : decode cX12_back 56 = .ok (.aload_n 0, 1) := by decide +kernel
theorem dX12_back_57 : decode cX12_back 57 = .ok (.getfield 7, 3) := by decide +kernel
theorem dX12_back_60 : decode cX12_back 60 = .ok (.iconst 1, 1) := by decide +kernel
theorem dX12_back_61 : decode cX12_back 61 = .ok (.iaload, 1) := by decide +kernel
theorem dX12_back_62 : decode cX12_back 62 = .ok (.ireturn, 1) := by decide +kernel
def tm_fill (σ : Nat → Int) (a b : Nat) (v : Int) : Nat → Int := fun i => if a ≤ i ∧ i < b then v else σ i
theorem tm_fill0 {σ : Nat → Int} {a b : Nat} {v : Int} (h : b ≤ a) : tm_fill σ a b v = σ := by
  funext i; exact if_neg (by omega)
theorem tm_fill1 {σ : Nat → Int} {a b c : Nat} {v : Int} (h : a ≤ b) (hc : c = b + 1) : tgu (tm_fill σ a b v) b v = tm_fill σ a c v := by
  funext i
  unfold tgu tm_fill
  by_cases e : i = b
  · rw [if_pos e, if_pos (by omega)]
  · rw [if_neg e]
    by_cases q : a ≤ i ∧ i < b
    · rw [if_pos q, if_pos (by omega)]
    · rw [if_neg q, if_neg (by omega)]
def tm_cp (σ τ : Nat → Int) (a b d : Nat) : Nat → Int := fun i => if a ≤ i ∧ i < b then τ (i + d - a) else σ i
theorem tm_cp0 {σ τ : Nat → Int} {a b d : Nat} (h : b ≤ a) : tm_cp σ τ a b d = σ := by
  funext i; exact if_neg (by omega)
theorem tm_cp1 {σ τ : Nat → Int} {a b c d : Nat} {v : Int} (h : a ≤ b) (hc : c = b + 1) (hv : v = τ (b + d - a)) : tgu (tm_cp σ τ a b d) b v = tm_cp σ τ a c d := by
  funext i
  unfold tgu tm_cp
  by_cases e : i = b
  · rw [if_pos e, if_pos (by omega), e]; exact hv
  · rw [if_neg e]
    by_cases q : a ≤ i ∧ i < b
    · rw [if_pos q, if_pos (by omega)]
    · rw [if_neg q, if_neg (by omega)]
set_option maxHeartbeats 4000000 in
set_option maxRecDepth 100000 in
theorem r_X12_clock (l : Launch) (D : va_G) (cy : Nat → ClassId) (sz : Nat) (L : List Nat) (K : Nat → tk_K) (Γ : tk_G) (f : Nat → va_E) (o : Nat) (p0 : Int32) (ho : tp_r L K 39 (0) 0 o) : Met l yX12_clock (tl_w yX12_clock cX12_clock 2 (some .boolean)) ({ frames := 1, cells := 0, slots := 0, locals := 25 }) (va_Pc [.ref o, .int p0] (tp_P D cy L K Γ f sz)) (va_Qi (fun (r : Int32) (u : (Nat → va_E) × tk_G) => tl_E r (Γ (40, 7666, 0) 0 ≤ p0.toInt ∧ p0.toInt ≤ 399) 1 0 ∧ u.2 (40, 7666, 0) = if Γ (40, 7666, 0) 0 ≤ p0.toInt ∧ p0.toInt ≤ 399 then tgu (Γ (40, 7666, 0)) 0 p0.toInt else Γ (40, 7666, 0)) (tp_BG D cy L K Γ f [40]) (tp_A L sz)) 0 0 (tp_A L sz) := by
  refine Met.ofW (cc := cX12_clock) (maxL := 2) (ret := (some .boolean)) (by decide) rfl ?_
  intro p e s m args below meth c s₁ B hml hv
  obtain ⟨rfl, hsz, hP, hK, hL, hI, hN, hU⟩ := hv
  have hx := B.exec
  have hb := B.bytes
  have hr := B.returns
  have hta := tl_hta (atoms_spec (ws := tl_w yX12_clock cX12_clock 2 (some .boolean)) B.pre)
  have hown : s.vm.findClass RX12 = some m.cls := findClass_of_methodNamed B.named
  have hlocks := B.notSynchronized
  subst hsz
  have hI0 := hI
  generalize hAe : tp_A L s.heap.size = A
  have hA : ∀ q : Nat, s.heap.size ≤ q → A q := fun q h => by rw [← hAe]; exact Or.inr h
  have hAL : ∀ q ∈ L, A q := fun q h => by rw [← hAe]; exact Or.inl h
  have hAf : ∀ (H : Heap), s.heap.size ≤ H.size → ∀ q, tp_A L H.size q → A q := fun H h q hq => hq.elim (hAL q) (fun h2 => hA q (Nat.le_trans h h2))
  have hS : va_S A s.heap s.heap [] := va_S.rf
  have hD : va_D A (va_pl L f) := tp_D hL hAL
  have hfr : ∀ b, (K b).1 ∉ ([40] : List Nat) → f b = f b := fun _ _ => rfl
  have hgr : ∀ κ : tk_K, κ.1 ∉ ([40] : List Nat) → Γ κ = Γ κ := fun _ _ => rfl
  have hl := lv_entry ([.ref o, .int p0]) (n := 2) (Nat.le_of_ble_eq_true rfl)
  rw [lg_entry_eq]
  generalize (lg_sl ([.ref o, .int p0]) ++ List.replicate (2 - (lg_sl ([.ref o, .int p0])).length) Slot.unset).toArray = ls at hl ⊢
  have hl : lv_has ls 2 [(0, .ref o), (1, .int p0)] := hl
  refine lv_iload_n hx hb dX12_clock_0 rfl (lv_at hl 1 rfl) ?_
  refine lv_i2l (v := p0.toInt64) hx hb dX12_clock_1 (by first | rfl | decide) ?_
  refine lv_aload_n hx hb dX12_clock_2 rfl (lv_at hl 0 rfl) ?_
  obtain ⟨r_2, v_3, q_4, hf_1, hr_5, hv_6⟩ := (show tp_o_M L K 0 0 (Γ (39, 0, 0)) (f o) from hI0.at ho)
  refine tp_get (cy := cy) (ci := 12) (v := .ref (r_2 0)) (C := RX12) (T := TX12) (N := 49) hx hb hta inlX12 hown hK hP ho.1 hf_1 rfl 0 (by decide) (hta _ wk_149) (fun _ h9 => h9) rfl dX12_clock_3 ?_
  refine lv_iconst (v := 0) hx hb dX12_clock_6 (by decide) ?_
  obtain ⟨g_24, hf_23, hg_25⟩ := (show tp_gi cy (7666) (Γ (40, 7666, 0)) (f (r_2 0)) from hI.at (show tp_r L K 40 7666 0 (r_2 0) from hr_5 0 (by decide)))
  have hn_26 : vp_in 0 (7666) := tl_in (by decide) (by decide)
  refine tp_iald (cy := cy) hx hb hK hP (show tp_r L K 40 7666 0 (r_2 0) from hr_5 0 (by decide)).1 hf_23 hn_26 dX12_clock_7 ?_
  refine lv_topi (fun z_27 ez_27 => ?_)
  have iz_27 : z_27.toInt = Γ (40, 7666, 0) 0 := by rw [ez_27]; exact hg_25 _ (tp_pin hn_26)
  refine lv_i2l (v := z_27.toInt64) hx hb dX12_clock_8 (by first | rfl | decide) ?_
  refine lv_ldc2 (v := 399) hx hb hown (hta _ wk_197) dX12_clock_9 ?_
  refine tl_si (tq_rS (As := [.long p0.toInt64, .long z_27.toInt64, .long 399]) (rest := []) ⟨hx, hb, hml, hown, hta⟩ (tp_P.pre hK hN hL hU hI hP) lk_X12_112 (r_X12_in l D cy s.heap.size L K Γ f p0.toInt64 z_27.toInt64 399 ) rfl rfl ⟨Nat.le_of_ble_eq_true rfl, Nat.le_of_ble_eq_true rfl⟩ rfl hl.1 rfl (Nat.le_of_ble_eq_true rfl) dX12_clock_12 ⟨Nat.le_of_ble_eq_true rfl, Nat.le_of_ble_eq_true rfl⟩) (fun r_29 hw_28 => ?_)
  simp only [Int32.toInt_toInt64] at hw_28
  have hw_28 : tl_E r_29 (z_27.toInt ≤ p0.toInt ∧ p0.toInt ≤ (399 : Int)) 1 0 := hw_28
  refine lv_if_ne (tgt := 20) hx hb dX12_clock_15 (by decide) (fun c_30 => ?_) (fun c_30 => ?_)
  · have c_30 := hw_28.t c_30
    refine lv_aload_n hx hb dX12_clock_20 rfl (lv_at hl 0 rfl) ?_
    refine tp_get (cy := cy) (ci := 12) (v := .ref (r_2 0)) (C := RX12) (T := TX12) (N := 49) hx hb hta inlX12 hown hK hP ho.1 hf_1 rfl 0 (by decide) (hta _ wk_149) (fun _ h9 => h9) rfl dX12_clock_21 ?_
    refine lv_iconst (v := 0) hx hb dX12_clock_24 (by decide) ?_
    refine lv_iload_n hx hb dX12_clock_25 rfl (lv_at hl 1 rfl) ?_
    have hn_31 : vp_in 0 (7666) := tl_in (by decide) (by decide)
    have hj_32 : (0 : Int32).toNatClampNeg = 0 := by decide
    have hv_33 : p0.toInt = p0.toInt := rfl
    obtain ⟨Γ_34, eΓ_34⟩ : ∃ y : tk_G, y = tg Γ (40, 7666, 0) 0 p0.toInt := ⟨_, rfl⟩
    have hI9 : tp_I cy L K Γ_34 (va_up f (r_2 0) (.inl (cy 0, 7666, .inl (upd g_24 (0 : Int32).toNatClampNeg p0)))) := by have q9 : tg Γ (40, 7666, 0) 0 p0.toInt = tg Γ (40, 7666, 0) (0 : Int32).toNatClampNeg p0.toInt := (by rw [hj_32, hv_33]); rw [eΓ_34, q9]; exact hI.setg hU rfl (show tp_r L K 40 7666 0 (r_2 0) from hr_5 0 (by decide)) (show tp_gi cy (7666) (tgu (Γ (40, 7666, 0)) _ _) _ from ⟨_, rfl, tp_gi_upd hg_25⟩)
    have hfr9 : ∀ b, (K b).1 ∉ ([40] : List Nat) → va_up f (r_2 0) (.inl (cy 0, 7666, .inl (upd g_24 (0 : Int32).toNatClampNeg p0))) b = f b := tp_fr hfr (show tp_r L K 40 7666 0 (r_2 0) from hr_5 0 (by decide)) (by decide)
    refine tp_iast (cy := cy) hx hb hK hP hD hS (show tp_r L K 40 7666 0 (r_2 0) from hr_5 0 (by decide)).1 hf_23 hn_31 dX12_clock_26 (fun H locs hP hD hS => ?_)
    have hP : va_P D vwCl (va_pl L (va_up f (r_2 0) (.inl (cy 0, 7666, .inl (upd g_24 (0 : Int32).toNatClampNeg p0))))) H := hP
    generalize hfe : va_up f (r_2 0) (.inl (cy 0, 7666, .inl (upd g_24 (0 : Int32).toNatClampNeg p0))) = f_35 at hP hI9 hfr9
    have hD : va_D A (va_pl L f_35) := tp_D hL hAL
    have hf_36 : f_35 (r_2 0) = .inl (cy 0, 7666, .inl (upd g_24 (0 : Int32).toNatClampNeg p0)) := by rw [← hfe]; exact va_up_self _ _ _
    clear hfe
    have hI := hI9
    have hfr := hfr9
    clear hI9 hfr9
    have wsΓ_34 : Γ_34 (40, 7666, 0) 0 = p0.toInt := by rw [eΓ_34]; exact tg_s
    have hgr : ∀ κ : tk_K, κ.1 ∉ ([40] : List Nat) → Γ_34 κ = Γ κ := tg_fr hgr eΓ_34 (by decide)
    refine lv_iconst (v := 1) hx hb dX12_clock_27 (by decide) ?_
    have hpo9 : tl_E (1 : Int32) (Γ (40, 7666, 0) 0 ≤ p0.toInt ∧ p0.toInt ≤ 399) 1 0 ∧ Γ_34 (40, 7666, 0) = if Γ (40, 7666, 0) 0 ≤ p0.toInt ∧ p0.toInt ≤ 399 then tgu (Γ (40, 7666, 0)) 0 p0.toInt else Γ (40, 7666, 0) := ⟨(Or.inl ⟨by omega, rfl⟩), (by rw [if_pos (by omega), eΓ_34, tg_f])⟩
    exact W.zret (ty := .boolean) (v := 1) hx hb hr rfl (fun t ht hW => ⟨⟨_, (f_35, Γ_34), rfl, hpo9, by rw [ht]; exact hP, hI, hfr, hgr⟩, hS.F ht⟩) hS.2.2 dX12_clock_28
  · have c_30 := hw_28.f c_30
    refine lv_iconst (v := 0) hx hb dX12_clock_18 (by decide) ?_
    have hpo9 : tl_E (0 : Int32) (Γ (40, 7666, 0) 0 ≤ p0.toInt ∧ p0.toInt ≤ 399) 1 0 ∧ Γ (40, 7666, 0) = if Γ (40, 7666, 0) 0 ≤ p0.toInt ∧ p0.toInt ≤ 399 then tgu (Γ (40, 7666, 0)) 0 p0.toInt else Γ (40, 7666, 0) := ⟨(Or.inr ⟨by omega, rfl⟩), (by rw [if_neg (by omega)])⟩
    exact W.zret (ty := .boolean) (v := 0) hx hb hr rfl (fun t ht hW => ⟨⟨_, (f, Γ), rfl, hpo9, by rw [ht]; exact hP, hI, hfr, hgr⟩, hS.F ht⟩) hS.2.2 dX12_clock_19
set_option maxHeartbeats 4000000 in
set_option maxRecDepth 100000 in
theorem r_X12_slip (l : Launch) (D : va_G) (cy : Nat → ClassId) (sz : Nat) (L : List Nat) (K : Nat → tk_K) (Γ : tk_G) (f : Nat → va_E) (o : Nat) (p0 : Int32) (p1 : Int32) (p2 : Int32) (p3 : Int32) (ho : tp_r L K 39 (0) 0 o) (hs : (0 ≤ Γ (40, 7666, 0) 1 ∧ Γ (40, 7666, 0) 1 ≤ 24) ∧ (0 ≤ Γ (40, 7666, 0) 2 ∧ Γ (40, 7666, 0) 2 ≤ 40) ∧ (0 ≤ Γ (40, 7666, 0) 3 ∧ Γ (40, 7666, 0) 3 ≤ 60) ∧ (0 ≤ Γ (40, 7666, 0) 4 ∧ Γ (40, 7666, 0) 4 ≤ 10) ∧ (0 ≤ Γ (40, 7666, 0) 7665 ∧ Γ (40, 7666, 0) 7665 ≤ 8)) : Met l yX12_slip (tl_w yX12_slip cX12_slip 6 (some .int)) ({ frames := 1, cells := 0, slots := 0, locals := 25 }) (va_Pc [.ref o, .int p0, .int p1, .int p2, .int p3] (tp_P D cy L K Γ f sz)) (va_Qi (fun (r : Int32) (u : (Nat → va_E) × tk_G) => r.toInt = (if ¬ Γ (40, 7666, 0) 2 = 40 ∧ (0 ≤ p0.toInt ∧ p0.toInt ≤ 3) ∧ (0 ≤ p1.toInt ∧ p1.toInt ≤ 299) ∧ (0 ≤ p2.toInt ∧ p2.toInt ≤ 299) ∧ p1.toInt ≤ p2.toInt ∧ -9999 ≤ p3.toInt ∧ p3.toInt ≤ 9999 then Γ (40, 7666, 0) 2 else -1) ∧ u.2 (40, 7666, 0) = if ¬ Γ (40, 7666, 0) 2 = 40 ∧ (0 ≤ p0.toInt ∧ p0.toInt ≤ 3) ∧ (0 ≤ p1.toInt ∧ p1.toInt ≤ 299) ∧ (0 ≤ p2.toInt ∧ p2.toInt ≤ 299) ∧ p1.toInt ≤ p2.toInt ∧ -9999 ≤ p3.toInt ∧ p3.toInt ≤ 9999 then tgu (tgu (tgu (tgu (tgu (Γ (40, 7666, 0)) (81 + 4 * Γ (40, 7666, 0) 2 + 0).toNat (p0.toInt)) (81 + 4 * Γ (40, 7666, 0) 2 + 1).toNat (p1.toInt)) (81 + 4 * Γ (40, 7666, 0) 2 + 2).toNat (p2.toInt)) (81 + 4 * Γ (40, 7666, 0) 2 + 3).toNat (p3.toInt)) 2 (Γ (40, 7666, 0) 2 + 1) else Γ (40, 7666, 0)) (tp_BG D cy L K Γ f [40]) (tp_A L sz)) 0 0 (tp_A L sz) := by
  refine Met.ofW (cc := cX12_slip) (maxL := 6) (ret := (some .int)) (by decide) rfl ?_
  intro p e s m args below meth c s₁ B hml hv
  obtain ⟨rfl, hsz, hP, hK, hL, hI, hN, hU⟩ := hv
  have hx := B.exec
  have hb := B.bytes
  have hr := B.returns
  have hta := tl_hta (atoms_spec (ws := tl_w yX12_slip cX12_slip 6 (some .int)) B.pre)
  have hown : s.vm.findClass RX12 = some m.cls := findClass_of_methodNamed B.named
  have hlocks := B.notSynchronized
  subst hsz
  have hI0 := hI
  generalize hAe : tp_A L s.heap.size = A
  have hA : ∀ q : Nat, s.heap.size ≤ q → A q := fun q h => by rw [← hAe]; exact Or.inr h
  have hAL : ∀ q ∈ L, A q := fun q h => by rw [← hAe]; exact Or.inl h
  have hAf : ∀ (H : Heap), s.heap.size ≤ H.size → ∀ q, tp_A L H.size q → A q := fun H h q hq => hq.elim (hAL q) (fun h2 => hA q (Nat.le_trans h h2))
  have hS : va_S A s.heap s.heap [] := va_S.rf
  have hD : va_D A (va_pl L f) := tp_D hL hAL
  have hfr : ∀ b, (K b).1 ∉ ([40] : List Nat) → f b = f b := fun _ _ => rfl
  have hgr : ∀ κ : tk_K, κ.1 ∉ ([40] : List Nat) → Γ κ = Γ κ := fun _ _ => rfl
  have hl := lv_entry ([.ref o, .int p0, .int p1, .int p2, .int p3]) (n := 6) (Nat.le_of_ble_eq_true rfl)
  rw [lg_entry_eq]
  generalize (lg_sl ([.ref o, .int p0, .int p1, .int p2, .int p3]) ++ List.replicate (6 - (lg_sl ([.ref o, .int p0, .int p1, .int p2, .int p3])).length) Slot.unset).toArray = ls at hl ⊢
  have hl : lv_has ls 6 [(0, .ref o), (1, .int p0), (2, .int p1), (3, .int p2), (4, .int p3)] := hl
  refine lv_aload_n hx hb dX12_slip_0 rfl (lv_at hl 0 rfl) ?_
  obtain ⟨r_2, v_3, q_4, hf_1, hr_5, hv_6⟩ := (show tp_o_M L K 0 0 (Γ (39, 0, 0)) (f o) from hI0.at ho)
  refine tp_get (cy := cy) (ci := 12) (v := .ref (r_2 0)) (C := RX12) (T := TX12) (N := 49) hx hb hta inlX12 hown hK hP ho.1 hf_1 rfl 0 (by decide) (hta _ wk_149) (fun _ h9 => h9) rfl dX12_slip_1 ?_
  refine lv_iconst (v := 2) hx hb dX12_slip_4 (by decide) ?_
  obtain ⟨g_24, hf_23, hg_25⟩ := (show tp_gi cy (7666) (Γ (40, 7666, 0)) (f (r_2 0)) from hI.at (show tp_r L K 40 7666 0 (r_2 0) from hr_5 0 (by decide)))
  have hn_26 : vp_in 2 (7666) := tl_in (by decide) (by decide)
  refine tp_iald (cy := cy) hx hb hK hP (show tp_r L K 40 7666 0 (r_2 0) from hr_5 0 (by decide)).1 hf_23 hn_26 dX12_slip_5 ?_
  refine lv_topi (fun z_27 ez_27 => ?_)
  have iz_27 : z_27.toInt = Γ (40, 7666, 0) 2 := by rw [ez_27]; exact hg_25 _ (tp_pin hn_26)
  refine lv_bipush (v := 40) hx hb dX12_slip_6 (by decide) ?_
  refine lv_icmp_eq (tgt := 57) hx hb dX12_slip_8 (by decide) (fun c_28 => ?_) (fun c_28 => ?_)
  · have c_28 : z_27.toInt = (40 : Int) := tl_eq c_28
    refine lv_iconst (v := (-1)) hx hb dX12_slip_57 (by decide) ?_
    have hpo9 : ((-1) : Int32).toInt = (if ¬ Γ (40, 7666, 0) 2 = 40 ∧ (0 ≤ p0.toInt ∧ p0.toInt ≤ 3) ∧ (0 ≤ p1.toInt ∧ p1.toInt ≤ 299) ∧ (0 ≤ p2.toInt ∧ p2.toInt ≤ 299) ∧ p1.toInt ≤ p2.toInt ∧ -9999 ≤ p3.toInt ∧ p3.toInt ≤ 9999 then Γ (40, 7666, 0) 2 else -1) ∧ Γ (40, 7666, 0) = if ¬ Γ (40, 7666, 0) 2 = 40 ∧ (0 ≤ p0.toInt ∧ p0.toInt ≤ 3) ∧ (0 ≤ p1.toInt ∧ p1.toInt ≤ 299) ∧ (0 ≤ p2.toInt ∧ p2.toInt ≤ 299) ∧ p1.toInt ≤ p2.toInt ∧ -9999 ≤ p3.toInt ∧ p3.toInt ≤ 9999 then tgu (tgu (tgu (tgu (tgu (Γ (40, 7666, 0)) (81 + 4 * Γ (40, 7666, 0) 2 + 0).toNat (p0.toInt)) (81 + 4 * Γ (40, 7666, 0) 2 + 1).toNat (p1.toInt)) (81 + 4 * Γ (40, 7666, 0) 2 + 2).toNat (p2.toInt)) (81 + 4 * Γ (40, 7666, 0) 2 + 3).toNat (p3.toInt)) 2 (Γ (40, 7666, 0) 2 + 1) else Γ (40, 7666, 0) := ⟨(by rw [if_neg (by omega)]; rfl), (by rw [if_neg (by omega)])⟩
    exact W.iret (v := (-1)) hx hb hr (fun t ht hW => ⟨⟨_, (f, Γ), rfl, hpo9, by rw [ht]; exact hP, hI, hfr, hgr⟩, hS.F ht⟩) hS.2.2 dX12_slip_58
  · have c_28 : ¬ z_27.toInt = (40 : Int) := tl_neq c_28
    refine lv_iload_n hx hb dX12_slip_11 rfl (lv_at hl 1 rfl) ?_
    refine lv_i2l (v := p0.toInt64) hx hb dX12_slip_12 (by first | rfl | decide) ?_
    refine lv_lconst (v := 0) hx hb dX12_slip_13 (by decide) ?_
    refine lv_ldc2 (v := 3) hx hb hown (hta _ wk_221) dX12_slip_14 ?_
    refine tl_si (tq_rS (As := [.long p0.toInt64, .long 0, .long 3]) (rest := []) ⟨hx, hb, hml, hown, hta⟩ (tp_P.pre hK hN hL hU hI hP) lk_X12_112 (r_X12_in l D cy s.heap.size L K Γ f p0.toInt64 0 3 ) rfl rfl ⟨Nat.le_of_ble_eq_true rfl, Nat.le_of_ble_eq_true rfl⟩ rfl hl.1 rfl (Nat.le_of_ble_eq_true rfl) dX12_slip_17 ⟨Nat.le_of_ble_eq_true rfl, Nat.le_of_ble_eq_true rfl⟩) (fun r_30 hw_29 => ?_)
    simp only [Int32.toInt_toInt64] at hw_29
    have hw_29 : tl_E r_30 ((0 : Int) ≤ p0.toInt ∧ p0.toInt ≤ (3 : Int)) 1 0 := hw_29
    refine lv_if_eq (tgt := 57) hx hb dX12_slip_20 (by decide) (fun c_31 => ?_) (fun c_31 => ?_)
    · have c_31 := hw_29.f c_31
      refine lv_iconst (v := (-1)) hx hb dX12_slip_57 (by decide) ?_
      have hpo9 : ((-1) : Int32).toInt = (if ¬ Γ (40, 7666, 0) 2 = 40 ∧ (0 ≤ p0.toInt ∧ p0.toInt ≤ 3) ∧ (0 ≤ p1.toInt ∧ p1.toInt ≤ 299) ∧ (0 ≤ p2.toInt ∧ p2.toInt ≤ 299) ∧ p1.toInt ≤ p2.toInt ∧ -9999 ≤ p3.toInt ∧ p3.toInt ≤ 9999 then Γ (40, 7666, 0) 2 else -1) ∧ Γ (40, 7666, 0) = if ¬ Γ (40, 7666, 0) 2 = 40 ∧ (0 ≤ p0.toInt ∧ p0.toInt ≤ 3) ∧ (0 ≤ p1.toInt ∧ p1.toInt ≤ 299) ∧ (0 ≤ p2.toInt ∧ p2.toInt ≤ 299) ∧ p1.toInt ≤ p2.toInt ∧ -9999 ≤ p3.toInt ∧ p3.toInt ≤ 9999 then tgu (tgu (tgu (tgu (tgu (Γ (40, 7666, 0)) (81 + 4 * Γ (40, 7666, 0) 2 + 0).toNat (p0.toInt)) (81 + 4 * Γ (40, 7666, 0) 2 + 1).toNat (p1.toInt)) (81 + 4 * Γ (40, 7666, 0) 2 + 2).toNat (p2.toInt)) (81 + 4 * Γ (40, 7666, 0) 2 + 3).toNat (p3.toInt)) 2 (Γ (40, 7666, 0) 2 + 1) else Γ (40, 7666, 0) := ⟨(by rw [if_neg (by omega)]; rfl), (by rw [if_neg (by omega)])⟩
      exact W.iret (v := (-1)) hx hb hr (fun t ht hW => ⟨⟨_, (f, Γ), rfl, hpo9, by rw [ht]; exact hP, hI, hfr, hgr⟩, hS.F ht⟩) hS.2.2 dX12_slip_58
    · have c_31 := hw_29.t c_31
      refine lv_iload_n hx hb dX12_slip_23 rfl (lv_at hl 2 rfl) ?_
      refine tl_si (tq_rS (As := [.int p1]) (rest := []) ⟨hx, hb, hml, hown, hta⟩ (tp_P.pre hK hN hL hU hI hP) lk_X12_124 (r_X12_isColour l D cy s.heap.size L K Γ f p1 ) rfl rfl ⟨Nat.le_of_ble_eq_true rfl, Nat.le_of_ble_eq_true rfl⟩ rfl hl.1 rfl (Nat.le_of_ble_eq_true rfl) dX12_slip_24 ⟨Nat.le_of_ble_eq_true rfl, Nat.le_of_ble_eq_true rfl⟩) (fun r_33 hw_32 => ?_)
      have hw_32 : tl_E r_33 (0 ≤ p1.toInt ∧ p1.toInt ≤ 299) 1 0 := hw_32
      refine lv_if_eq (tgt := 57) hx hb dX12_slip_27 (by decide) (fun c_34 => ?_) (fun c_34 => ?_)
      · have c_34 := hw_32.f c_34
        refine lv_iconst (v := (-1)) hx hb dX12_slip_57 (by decide) ?_
        have hpo9 : ((-1) : Int32).toInt = (if ¬ Γ (40, 7666, 0) 2 = 40 ∧ (0 ≤ p0.toInt ∧ p0.toInt ≤ 3) ∧ (0 ≤ p1.toInt ∧ p1.toInt ≤ 299) ∧ (0 ≤ p2.toInt ∧ p2.toInt ≤ 299) ∧ p1.toInt ≤ p2.toInt ∧ -9999 ≤ p3.toInt ∧ p3.toInt ≤ 9999 then Γ (40, 7666, 0) 2 else -1) ∧ Γ (40, 7666, 0) = if ¬ Γ (40, 7666, 0) 2 = 40 ∧ (0 ≤ p0.toInt ∧ p0.toInt ≤ 3) ∧ (0 ≤ p1.toInt ∧ p1.toInt ≤ 299) ∧ (0 ≤ p2.toInt ∧ p2.toInt ≤ 299) ∧ p1.toInt ≤ p2.toInt ∧ -9999 ≤ p3.toInt ∧ p3.toInt ≤ 9999 then tgu (tgu (tgu (tgu (tgu (Γ (40, 7666, 0)) (81 + 4 * Γ (40, 7666, 0) 2 + 0).toNat (p0.toInt)) (81 + 4 * Γ (40, 7666, 0) 2 + 1).toNat (p1.toInt)) (81 + 4 * Γ (40, 7666, 0) 2 + 2).toNat (p2.toInt)) (81 + 4 * Γ (40, 7666, 0) 2 + 3).toNat (p3.toInt)) 2 (Γ (40, 7666, 0) 2 + 1) else Γ (40, 7666, 0) := ⟨(by rw [if_neg (by omega)]; rfl), (by rw [if_neg (by omega)])⟩
        exact W.iret (v := (-1)) hx hb hr (fun t ht hW => ⟨⟨_, (f, Γ), rfl, hpo9, by rw [ht]; exact hP, hI, hfr, hgr⟩, hS.F ht⟩) hS.2.2 dX12_slip_58
      · have c_34 := hw_32.t c_34
        refine lv_iload_n hx hb dX12_slip_30 rfl (lv_at hl 3 rfl) ?_
        refine tl_si (tq_rS (As := [.int p2]) (rest := []) ⟨hx, hb, hml, hown, hta⟩ (tp_P.pre hK hN hL hU hI hP) lk_X12_124 (r_X12_isColour l D cy s.heap.size L K Γ f p2 ) rfl rfl ⟨Nat.le_of_ble_eq_true rfl, Nat.le_of_ble_eq_true rfl⟩ rfl hl.1 rfl (Nat.le_of_ble_eq_true rfl) dX12_slip_31 ⟨Nat.le_of_ble_eq_true rfl, Nat.le_of_ble_eq_true rfl⟩) (fun r_36 hw_35 => ?_)
        have hw_35 : tl_E r_36 (0 ≤ p2.toInt ∧ p2.toInt ≤ 299) 1 0 := hw_35
        refine lv_if_eq (tgt := 57) hx hb dX12_slip_34 (by decide) (fun c_37 => ?_) (fun c_37 => ?_)
        · have c_37 := hw_35.f c_37
          refine lv_iconst (v := (-1)) hx hb dX12_slip_57 (by decide) ?_
          have hpo9 : ((-1) : Int32).toInt = (if ¬ Γ (40, 7666, 0) 2 = 40 ∧ (0 ≤ p0.toInt ∧ p0.toInt ≤ 3) ∧ (0 ≤ p1.toInt ∧ p1.toInt ≤ 299) ∧ (0 ≤ p2.toInt ∧ p2.toInt ≤ 299) ∧ p1.toInt ≤ p2.toInt ∧ -9999 ≤ p3.toInt ∧ p3.toInt ≤ 9999 then Γ (40, 7666, 0) 2 else -1) ∧ Γ (40, 7666, 0) = if ¬ Γ (40, 7666, 0) 2 = 40 ∧ (0 ≤ p0.toInt ∧ p0.toInt ≤ 3) ∧ (0 ≤ p1.toInt ∧ p1.toInt ≤ 299) ∧ (0 ≤ p2.toInt ∧ p2.toInt ≤ 299) ∧ p1.toInt ≤ p2.toInt ∧ -9999 ≤ p3.toInt ∧ p3.toInt ≤ 9999 then tgu (tgu (tgu (tgu (tgu (Γ (40, 7666, 0)) (81 + 4 * Γ (40, 7666, 0) 2 + 0).toNat (p0.toInt)) (81 + 4 * Γ (40, 7666, 0) 2 + 1).toNat (p1.toInt)) (81 + 4 * Γ (40, 7666, 0) 2 + 2).toNat (p2.toInt)) (81 + 4 * Γ (40, 7666, 0) 2 + 3).toNat (p3.toInt)) 2 (Γ (40, 7666, 0) 2 + 1) else Γ (40, 7666, 0) := ⟨(by rw [if_neg (by omega)]; rfl), (by rw [if_neg (by omega)])⟩
          exact W.iret (v := (-1)) hx hb hr (fun t ht hW => ⟨⟨_, (f, Γ), rfl, hpo9, by rw [ht]; exact hP, hI, hfr, hgr⟩, hS.F ht⟩) hS.2.2 dX12_slip_58
        · have c_37 := hw_35.t c_37
          refine lv_iload_n hx hb dX12_slip_37 rfl (lv_at hl 3 rfl) ?_
          refine lv_iload_n hx hb dX12_slip_38 rfl (lv_at hl 2 rfl) ?_
          refine lv_icmp_lt (tgt := 57) hx hb dX12_slip_39 (by decide) (fun c_38 => ?_) (fun c_38 => ?_)
          · have c_38 : p2.toInt < p1.toInt := tl_lt c_38
            refine lv_iconst (v := (-1)) hx hb dX12_slip_57 (by decide) ?_
            have hpo9 : ((-1) : Int32).toInt = (if ¬ Γ (40, 7666, 0) 2 = 40 ∧ (0 ≤ p0.toInt ∧ p0.toInt ≤ 3) ∧ (0 ≤ p1.toInt ∧ p1.toInt ≤ 299) ∧ (0 ≤ p2.toInt ∧ p2.toInt ≤ 299) ∧ p1.toInt ≤ p2.toInt ∧ -9999 ≤ p3.toInt ∧ p3.toInt ≤ 9999 then Γ (40, 7666, 0) 2 else -1) ∧ Γ (40, 7666, 0) = if ¬ Γ (40, 7666, 0) 2 = 40 ∧ (0 ≤ p0.toInt ∧ p0.toInt ≤ 3) ∧ (0 ≤ p1.toInt ∧ p1.toInt ≤ 299) ∧ (0 ≤ p2.toInt ∧ p2.toInt ≤ 299) ∧ p1.toInt ≤ p2.toInt ∧ -9999 ≤ p3.toInt ∧ p3.toInt ≤ 9999 then tgu (tgu (tgu (tgu (tgu (Γ (40, 7666, 0)) (81 + 4 * Γ (40, 7666, 0) 2 + 0).toNat (p0.toInt)) (81 + 4 * Γ (40, 7666, 0) 2 + 1).toNat (p1.toInt)) (81 + 4 * Γ (40, 7666, 0) 2 + 2).toNat (p2.toInt)) (81 + 4 * Γ (40, 7666, 0) 2 + 3).toNat (p3.toInt)) 2 (Γ (40, 7666, 0) 2 + 1) else Γ (40, 7666, 0) := ⟨(by rw [if_neg (by omega)]; rfl), (by rw [if_neg (by omega)])⟩
            exact W.iret (v := (-1)) hx hb hr (fun t ht hW => ⟨⟨_, (f, Γ), rfl, hpo9, by rw [ht]; exact hP, hI, hfr, hgr⟩, hS.F ht⟩) hS.2.2 dX12_slip_58
          · have c_38 : p1.toInt ≤ p2.toInt := tl_nlt c_38
            refine lv_iload hx hb dX12_slip_42 (lv_at hl 4 rfl) ?_
            refine lv_i2l (v := p3.toInt64) hx hb dX12_slip_44 (by first | rfl | decide) ?_
            refine lv_ldc2 (v := (-9999)) hx hb hown (hta _ wk_301) dX12_slip_45 ?_
            refine lv_ldc2 (v := 9999) hx hb hown (hta _ wk_302) dX12_slip_48 ?_
            refine tl_si (tq_rS (As := [.long p3.toInt64, .long (-9999), .long 9999]) (rest := []) ⟨hx, hb, hml, hown, hta⟩ (tp_P.pre hK hN hL hU hI hP) lk_X12_112 (r_X12_in l D cy s.heap.size L K Γ f p3.toInt64 (-9999) 9999 ) rfl rfl ⟨Nat.le_of_ble_eq_true rfl, Nat.le_of_ble_eq_true rfl⟩ rfl hl.1 rfl (Nat.le_of_ble_eq_true rfl) dX12_slip_51 ⟨Nat.le_of_ble_eq_true rfl, Nat.le_of_ble_eq_true rfl⟩) (fun r_40 hw_39 => ?_)
            simp only [Int32.toInt_toInt64] at hw_39
            have hw_39 : tl_E r_40 ((-9999 : Int) ≤ p3.toInt ∧ p3.toInt ≤ (9999 : Int)) 1 0 := hw_39
            refine lv_if_ne (tgt := 59) hx hb dX12_slip_54 (by decide) (fun c_41 => ?_) (fun c_41 => ?_)
            · have c_41 := hw_39.t c_41
              refine lv_bipush (v := 81) hx hb dX12_slip_59 (by decide) ?_
              refine lv_iconst (v := 4) hx hb dX12_slip_61 (by decide) ?_
              refine lv_aload_n hx hb dX12_slip_62 rfl (lv_at hl 0 rfl) ?_
              refine tp_get (cy := cy) (ci := 12) (v := .ref (r_2 0)) (C := RX12) (T := TX12) (N := 49) hx hb hta inlX12 hown hK hP ho.1 hf_1 rfl 0 (by decide) (hta _ wk_149) (fun _ h9 => h9) rfl dX12_slip_63 ?_
              refine lv_iconst (v := 2) hx hb dX12_slip_66 (by decide) ?_
              have hn_42 : vp_in 2 (7666) := tl_in (by decide) (by decide)
              refine tp_iald (cy := cy) hx hb hK hP (show tp_r L K 40 7666 0 (r_2 0) from hr_5 0 (by decide)).1 hf_23 hn_42 dX12_slip_67 ?_
              refine lv_topi (fun z_43 ez_43 => ?_)
              obtain rfl : z_27 = z_43 := ez_27.trans ez_43.symm
              refine lv_imul hx hb dX12_slip_68 ?_
              refine lv_topi (fun z_44 ez_44 => ?_)
              try have iz_44 : z_44.toInt = (4 : Int) * z_27.toInt := by rw [ez_44]; exact tl_mulN 4 z_27 rfl rfl (by omega) (by omega)
              refine lv_iadd hx hb dX12_slip_69 ?_
              refine lv_topi (fun z_45 ez_45 => ?_)
              try have iz_45 : z_45.toInt = (81 : Int) + z_44.toInt := by rw [ez_45]; exact tl_addN 81 z_44 rfl rfl (by omega) (by omega)
              refine lv_istore (lv' := [(5, .int z_45), (0, .ref o), (1, .int p0), (2, .int p1), (3, .int p2), (4, .int p3)]) hx hb dX12_slip_70 hl (by decide) rfl (fun ls hl => ?_)
              refine lv_aload_n hx hb dX12_slip_72 rfl (lv_at hl 1 rfl) ?_
              refine tp_get (cy := cy) (ci := 12) (v := .ref (r_2 0)) (C := RX12) (T := TX12) (N := 49) hx hb hta inlX12 hown hK hP ho.1 hf_1 rfl 0 (by decide) (hta _ wk_149) (fun _ h9 => h9) rfl dX12_slip_73 ?_
              refine lv_iload hx hb dX12_slip_76 (lv_at hl 0 rfl) ?_
              refine lv_iload_n hx hb dX12_slip_78 rfl (lv_at hl 2 rfl) ?_
              have hn_46 : vp_in z_45 (7666) := tl_in (by omega) (by omega)
              have hj_47 : z_45.toNatClampNeg = (81 + 4 * Γ (40, 7666, 0) 2 + 0).toNat := by show z_45.toInt.toNat = _; omega
              have hv_48 : p0.toInt = p0.toInt := by omega
              obtain ⟨Γ_49, eΓ_49⟩ : ∃ y : tk_G, y = tg Γ (40, 7666, 0) ((81 + 4 * Γ (40, 7666, 0) 2 + 0).toNat) p0.toInt := ⟨_, rfl⟩
              have hI9 : tp_I cy L K Γ_49 (va_up f (r_2 0) (.inl (cy 0, 7666, .inl (upd g_24 z_45.toNatClampNeg p0)))) := by have q9 : tg Γ (40, 7666, 0) ((81 + 4 * Γ (40, 7666, 0) 2 + 0).toNat) p0.toInt = tg Γ (40, 7666, 0) z_45.toNatClampNeg p0.toInt := (by rw [hj_47, hv_48]); rw [eΓ_49, q9]; exact hI.setg hU rfl (show tp_r L K 40 7666 0 (r_2 0) from hr_5 0 (by decide)) (show tp_gi cy (7666) (tgu (Γ (40, 7666, 0)) _ _) _ from ⟨_, rfl, tp_gi_upd hg_25⟩)
              have hfr9 : ∀ b, (K b).1 ∉ ([40] : List Nat) → va_up f (r_2 0) (.inl (cy 0, 7666, .inl (upd g_24 z_45.toNatClampNeg p0))) b = f b := tp_fr hfr (show tp_r L K 40 7666 0 (r_2 0) from hr_5 0 (by decide)) (by decide)
              refine tp_iast (cy := cy) hx hb hK hP hD hS (show tp_r L K 40 7666 0 (r_2 0) from hr_5 0 (by decide)).1 hf_23 hn_46 dX12_slip_79 (fun H locs hP hD hS => ?_)
              have hP : va_P D vwCl (va_pl L (va_up f (r_2 0) (.inl (cy 0, 7666, .inl (upd g_24 z_45.toNatClampNeg p0))))) H := hP
              generalize hfe : va_up f (r_2 0) (.inl (cy 0, 7666, .inl (upd g_24 z_45.toNatClampNeg p0))) = f_50 at hP hI9 hfr9
              have hD : va_D A (va_pl L f_50) := tp_D hL hAL
              have hf_51 : f_50 (r_2 0) = .inl (cy 0, 7666, .inl (upd g_24 z_45.toNatClampNeg p0)) := by rw [← hfe]; exact va_up_self _ _ _
              clear hfe
              have hI := hI9
              have hfr := hfr9
              clear hI9 hfr9
              have wtΓ_49_2 : Γ_49 (40, 7666, 0) 2 = Γ (40, 7666, 0) 2 := by rw [eΓ_49]; exact tg_i (by omega)
              have wsΓ_49 : Γ_49 (40, 7666, 0) ((81 + 4 * Γ (40, 7666, 0) 2 + 0).toNat) = p0.toInt := by rw [eΓ_49]; exact tg_s
              have hgr : ∀ κ : tk_K, κ.1 ∉ ([40] : List Nat) → Γ_49 κ = Γ κ := tg_fr hgr eΓ_49 (by decide)
              refine lv_aload_n hx hb dX12_slip_80 rfl (lv_at hl 1 rfl) ?_
              refine tp_get (cy := cy) (ci := 12) (v := .ref (r_2 0)) (C := RX12) (T := TX12) (N := 49) hx hb hta inlX12 hown hK hP ho.1 ((tp_un hfr ho (by decide)).trans hf_1) rfl 0 (by decide) (hta _ wk_149) (fun _ h9 => h9) rfl dX12_slip_81 ?_
              refine lv_iload hx hb dX12_slip_84 (lv_at hl 0 rfl) ?_
              refine lv_iconst (v := 1) hx hb dX12_slip_86 (by decide) ?_
              refine lv_iadd hx hb dX12_slip_87 ?_
              refine lv_topi (fun z_52 ez_52 => ?_)
              try have iz_52 : z_52.toInt = z_45.toInt + (1 : Int) := by rw [ez_52]; exact tl_addN z_45 1 rfl rfl (by omega) (by omega)
              refine lv_iload_n hx hb dX12_slip_88 rfl (lv_at hl 3 rfl) ?_
              obtain ⟨g_54, hf_53, hg_55⟩ := (show tp_gi cy (7666) (Γ_49 (40, 7666, 0)) (f_50 (r_2 0)) from hI.at (show tp_r L K 40 7666 0 (r_2 0) from hr_5 0 (by decide)))
              have hn_56 : vp_in z_52 (7666) := tl_in (by omega) (by omega)
              have hj_57 : z_52.toNatClampNeg = (81 + 4 * Γ (40, 7666, 0) 2 + 1).toNat := by show z_52.toInt.toNat = _; omega
              have hv_58 : p1.toInt = p1.toInt := by omega
              obtain ⟨Γ_59, eΓ_59⟩ : ∃ y : tk_G, y = tg Γ_49 (40, 7666, 0) ((81 + 4 * Γ (40, 7666, 0) 2 + 1).toNat) p1.toInt := ⟨_, rfl⟩
              have hI9 : tp_I cy L K Γ_59 (va_up f_50 (r_2 0) (.inl (cy 0, 7666, .inl (upd g_54 z_52.toNatClampNeg p1)))) := by have q9 : tg Γ_49 (40, 7666, 0) ((81 + 4 * Γ (40, 7666, 0) 2 + 1).toNat) p1.toInt = tg Γ_49 (40, 7666, 0) z_52.toNatClampNeg p1.toInt := (by rw [hj_57, hv_58]); rw [eΓ_59, q9]; exact hI.setg hU rfl (show tp_r L K 40 7666 0 (r_2 0) from hr_5 0 (by decide)) (show tp_gi cy (7666) (tgu (Γ_49 (40, 7666, 0)) _ _) _ from ⟨_, rfl, tp_gi_upd hg_55⟩)
              have hfr9 : ∀ b, (K b).1 ∉ ([40] : List Nat) → va_up f_50 (r_2 0) (.inl (cy 0, 7666, .inl (upd g_54 z_52.toNatClampNeg p1))) b = f b := tp_fr hfr (show tp_r L K 40 7666 0 (r_2 0) from hr_5 0 (by decide)) (by decide)
              refine tp_iast (cy := cy) hx hb hK hP hD hS (show tp_r L K 40 7666 0 (r_2 0) from hr_5 0 (by decide)).1 hf_53 hn_56 dX12_slip_89 (fun H locs hP hD hS => ?_)
              have hP : va_P D vwCl (va_pl L (va_up f_50 (r_2 0) (.inl (cy 0, 7666, .inl (upd g_54 z_52.toNatClampNeg p1))))) H := hP
              generalize hfe : va_up f_50 (r_2 0) (.inl (cy 0, 7666, .inl (upd g_54 z_52.toNatClampNeg p1))) = f_60 at hP hI9 hfr9
              have hD : va_D A (va_pl L f_60) := tp_D hL hAL
              have hf_61 : f_60 (r_2 0) = .inl (cy 0, 7666, .inl (upd g_54 z_52.toNatClampNeg p1)) := by rw [← hfe]; exact va_up_self _ _ _
              clear hfe
              have hI := hI9
              have hfr := hfr9
              clear hI9 hfr9
              have wtΓ_59_2 : Γ_59 (40, 7666, 0) 2 = Γ_49 (40, 7666, 0) 2 := by rw [eΓ_59]; exact tg_i (by omega)
              have wsΓ_59 : Γ_59 (40, 7666, 0) ((81 + 4 * Γ (40, 7666, 0) 2 + 1).toNat) = p1.toInt := by rw [eΓ_59]; exact tg_s
              have hgr : ∀ κ : tk_K, κ.1 ∉ ([40] : List Nat) → Γ_59 κ = Γ κ := tg_fr hgr eΓ_59 (by decide)
              refine lv_aload_n hx hb dX12_slip_90 rfl (lv_at hl 1 rfl) ?_
              refine tp_get (cy := cy) (ci := 12) (v := .ref (r_2 0)) (C := RX12) (T := TX12) (N := 49) hx hb hta inlX12 hown hK hP ho.1 ((tp_un hfr ho (by decide)).trans hf_1) rfl 0 (by decide) (hta _ wk_149) (fun _ h9 => h9) rfl dX12_slip_91 ?_
              refine lv_iload hx hb dX12_slip_94 (lv_at hl 0 rfl) ?_
              refine lv_iconst (v := 2) hx hb dX12_slip_96 (by decide) ?_
              refine lv_iadd hx hb dX12_slip_97 ?_
              refine lv_topi (fun z_62 ez_62 => ?_)
              try have iz_62 : z_62.toInt = z_45.toInt + (2 : Int) := by rw [ez_62]; exact tl_addN z_45 2 rfl rfl (by omega) (by omega)
              refine lv_iload_n hx hb dX12_slip_98 rfl (lv_at hl 4 rfl) ?_
              obtain ⟨g_64, hf_63, hg_65⟩ := (show tp_gi cy (7666) (Γ_59 (40, 7666, 0)) (f_60 (r_2 0)) from hI.at (show tp_r L K 40 7666 0 (r_2 0) from hr_5 0 (by decide)))
              have hn_66 : vp_in z_62 (7666) := tl_in (by omega) (by omega)
              have hj_67 : z_62.toNatClampNeg = (81 + 4 * Γ (40, 7666, 0) 2 + 2).toNat := by show z_62.toInt.toNat = _; omega
              have hv_68 : p2.toInt = p2.toInt := by omega
              obtain ⟨Γ_69, eΓ_69⟩ : ∃ y : tk_G, y = tg Γ_59 (40, 7666, 0) ((81 + 4 * Γ (40, 7666, 0) 2 + 2).toNat) p2.toInt := ⟨_, rfl⟩
              have hI9 : tp_I cy L K Γ_69 (va_up f_60 (r_2 0) (.inl (cy 0, 7666, .inl (upd g_64 z_62.toNatClampNeg p2)))) := by have q9 : tg Γ_59 (40, 7666, 0) ((81 + 4 * Γ (40, 7666, 0) 2 + 2).toNat) p2.toInt = tg Γ_59 (40, 7666, 0) z_62.toNatClampNeg p2.toInt := (by rw [hj_67, hv_68]); rw [eΓ_69, q9]; exact hI.setg hU rfl (show tp_r L K 40 7666 0 (r_2 0) from hr_5 0 (by decide)) (show tp_gi cy (7666) (tgu (Γ_59 (40, 7666, 0)) _ _) _ from ⟨_, rfl, tp_gi_upd hg_65⟩)
              have hfr9 : ∀ b, (K b).1 ∉ ([40] : List Nat) → va_up f_60 (r_2 0) (.inl (cy 0, 7666, .inl (upd g_64 z_62.toNatClampNeg p2))) b = f b := tp_fr hfr (show tp_r L K 40 7666 0 (r_2 0) from hr_5 0 (by decide)) (by decide)
              refine tp_iast (cy := cy) hx hb hK hP hD hS (show tp_r L K 40 7666 0 (r_2 0) from hr_5 0 (by decide)).1 hf_63 hn_66 dX12_slip_99 (fun H locs hP hD hS => ?_)
              have hP : va_P D vwCl (va_pl L (va_up f_60 (r_2 0) (.inl (cy 0, 7666, .inl (upd g_64 z_62.toNatClampNeg p2))))) H := hP
              generalize hfe : va_up f_60 (r_2 0) (.inl (cy 0, 7666, .inl (upd g_64 z_62.toNatClampNeg p2))) = f_70 at hP hI9 hfr9
              have hD : va_D A (va_pl L f_70) := tp_D hL hAL
              have hf_71 : f_70 (r_2 0) = .inl (cy 0, 7666, .inl (upd g_64 z_62.toNatClampNeg p2)) := by rw [← hfe]; exact va_up_self _ _ _
              clear hfe
              have hI := hI9
              have hfr := hfr9
              clear hI9 hfr9
              have wtΓ_69_2 : Γ_69 (40, 7666, 0) 2 = Γ_59 (40, 7666, 0) 2 := by rw [eΓ_69]; exact tg_i (by omega)
              have wsΓ_69 : Γ_69 (40, 7666, 0) ((81 + 4 * Γ (40, 7666, 0) 2 + 2).toNat) = p2.toInt := by rw [eΓ_69]; exact tg_s
              have hgr : ∀ κ : tk_K, κ.1 ∉ ([40] : List Nat) → Γ_69 κ = Γ κ := tg_fr hgr eΓ_69 (by decide)
              refine lv_aload_n hx hb dX12_slip_100 rfl (lv_at hl 1 rfl) ?_
              refine tp_get (cy := cy) (ci := 12) (v := .ref (r_2 0)) (C := RX12) (T := TX12) (N := 49) hx hb hta inlX12 hown hK hP ho.1 ((tp_un hfr ho (by decide)).trans hf_1) rfl 0 (by decide) (hta _ wk_149) (fun _ h9 => h9) rfl dX12_slip_101 ?_
              refine lv_iload hx hb dX12_slip_104 (lv_at hl 0 rfl) ?_
              refine lv_iconst (v := 3) hx hb dX12_slip_106 (by decide) ?_
              refine lv_iadd hx hb dX12_slip_107 ?_
              refine lv_topi (fun z_72 ez_72 => ?_)
              try have iz_72 : z_72.toInt = z_45.toInt + (3 : Int) := by rw [ez_72]; exact tl_addN z_45 3 rfl rfl (by omega) (by omega)
              refine lv_iload hx hb dX12_slip_108 (lv_at hl 5 rfl) ?_
              obtain ⟨g_74, hf_73, hg_75⟩ := (show tp_gi cy (7666) (Γ_69 (40, 7666, 0)) (f_70 (r_2 0)) from hI.at (show tp_r L K 40 7666 0 (r_2 0) from hr_5 0 (by decide)))
              have hn_76 : vp_in z_72 (7666) := tl_in (by omega) (by omega)
              have hj_77 : z_72.toNatClampNeg = (81 + 4 * Γ (40, 7666, 0) 2 + 3).toNat := by show z_72.toInt.toNat = _; omega
              have hv_78 : p3.toInt = p3.toInt := by omega
              obtain ⟨Γ_79, eΓ_79⟩ : ∃ y : tk_G, y = tg Γ_69 (40, 7666, 0) ((81 + 4 * Γ (40, 7666, 0) 2 + 3).toNat) p3.toInt := ⟨_, rfl⟩
              have hI9 : tp_I cy L K Γ_79 (va_up f_70 (r_2 0) (.inl (cy 0, 7666, .inl (upd g_74 z_72.toNatClampNeg p3)))) := by have q9 : tg Γ_69 (40, 7666, 0) ((81 + 4 * Γ (40, 7666, 0) 2 + 3).toNat) p3.toInt = tg Γ_69 (40, 7666, 0) z_72.toNatClampNeg p3.toInt := (by rw [hj_77, hv_78]); rw [eΓ_79, q9]; exact hI.setg hU rfl (show tp_r L K 40 7666 0 (r_2 0) from hr_5 0 (by decide)) (show tp_gi cy (7666) (tgu (Γ_69 (40, 7666, 0)) _ _) _ from ⟨_, rfl, tp_gi_upd hg_75⟩)
              have hfr9 : ∀ b, (K b).1 ∉ ([40] : List Nat) → va_up f_70 (r_2 0) (.inl (cy 0, 7666, .inl (upd g_74 z_72.toNatClampNeg p3))) b = f b := tp_fr hfr (show tp_r L K 40 7666 0 (r_2 0) from hr_5 0 (by decide)) (by decide)
              refine tp_iast (cy := cy) hx hb hK hP hD hS (show tp_r L K 40 7666 0 (r_2 0) from hr_5 0 (by decide)).1 hf_73 hn_76 dX12_slip_110 (fun H locs hP hD hS => ?_)
              have hP : va_P D vwCl (va_pl L (va_up f_70 (r_2 0) (.inl (cy 0, 7666, .inl (upd g_74 z_72.toNatClampNeg p3))))) H := hP
              generalize hfe : va_up f_70 (r_2 0) (.inl (cy 0, 7666, .inl (upd g_74 z_72.toNatClampNeg p3))) = f_80 at hP hI9 hfr9
              have hD : va_D A (va_pl L f_80) := tp_D hL hAL
              have hf_81 : f_80 (r_2 0) = .inl (cy 0, 7666, .inl (upd g_74 z_72.toNatClampNeg p3)) := by rw [← hfe]; exact va_up_self _ _ _
              clear hfe
              have hI := hI9
              have hfr := hfr9
              clear hI9 hfr9
              have wtΓ_79_2 : Γ_79 (40, 7666, 0) 2 = Γ_69 (40, 7666, 0) 2 := by rw [eΓ_79]; exact tg_i (by omega)
              have wsΓ_79 : Γ_79 (40, 7666, 0) ((81 + 4 * Γ (40, 7666, 0) 2 + 3).toNat) = p3.toInt := by rw [eΓ_79]; exact tg_s
              have hgr : ∀ κ : tk_K, κ.1 ∉ ([40] : List Nat) → Γ_79 κ = Γ κ := tg_fr hgr eΓ_79 (by decide)
              refine lv_aload_n hx hb dX12_slip_111 rfl (lv_at hl 1 rfl) ?_
              refine tp_get (cy := cy) (ci := 12) (v := .ref (r_2 0)) (C := RX12) (T := TX12) (N := 49) hx hb hta inlX12 hown hK hP ho.1 ((tp_un hfr ho (by decide)).trans hf_1) rfl 0 (by decide) (hta _ wk_149) (fun _ h9 => h9) rfl dX12_slip_112 ?_
              refine lv_iconst (v := 2) hx hb dX12_slip_115 (by decide) ?_
              refine lv_dup2_11 hx hb dX12_slip_116 rfl rfl ?_
              obtain ⟨g_83, hf_82, hg_84⟩ := (show tp_gi cy (7666) (Γ_79 (40, 7666, 0)) (f_80 (r_2 0)) from hI.at (show tp_r L K 40 7666 0 (r_2 0) from hr_5 0 (by decide)))
              have hn_85 : vp_in 2 (7666) := tl_in (by decide) (by decide)
              refine tp_iald (cy := cy) hx hb hK hP (show tp_r L K 40 7666 0 (r_2 0) from hr_5 0 (by decide)).1 hf_82 hn_85 dX12_slip_117 ?_
              refine lv_topi (fun z_86 ez_86 => ?_)
              have iz_86 : z_86.toInt = Γ_79 (40, 7666, 0) 2 := by rw [ez_86]; exact hg_84 _ (tp_pin hn_85)
              refine lv_iconst (v := 1) hx hb dX12_slip_118 (by decide) ?_
              refine lv_iadd hx hb dX12_slip_119 ?_
              refine lv_topi (fun z_87 ez_87 => ?_)
              try have iz_87 : z_87.toInt = z_86.toInt + (1 : Int) := by rw [ez_87]; exact tl_addN z_86 1 rfl rfl (by omega) (by omega)
              have hn_88 : vp_in 2 (7666) := tl_in (by decide) (by decide)
              have hj_89 : (2 : Int32).toNatClampNeg = 2 := by decide
              have hv_90 : z_87.toInt = Γ (40, 7666, 0) 2 + 1 := by omega
              obtain ⟨Γ_91, eΓ_91⟩ : ∃ y : tk_G, y = tg Γ_79 (40, 7666, 0) 2 (Γ (40, 7666, 0) 2 + 1) := ⟨_, rfl⟩
              have hI9 : tp_I cy L K Γ_91 (va_up f_80 (r_2 0) (.inl (cy 0, 7666, .inl (upd g_83 (2 : Int32).toNatClampNeg z_87)))) := by have q9 : tg Γ_79 (40, 7666, 0) 2 (Γ (40, 7666, 0) 2 + 1) = tg Γ_79 (40, 7666, 0) (2 : Int32).toNatClampNeg z_87.toInt := (by rw [hj_89, hv_90]); rw [eΓ_91, q9]; exact hI.setg hU rfl (show tp_r L K 40 7666 0 (r_2 0) from hr_5 0 (by decide)) (show tp_gi cy (7666) (tgu (Γ_79 (40, 7666, 0)) _ _) _ from ⟨_, rfl, tp_gi_upd hg_84⟩)
              have hfr9 : ∀ b, (K b).1 ∉ ([40] : List Nat) → va_up f_80 (r_2 0) (.inl (cy 0, 7666, .inl (upd g_83 (2 : Int32).toNatClampNeg z_87))) b = f b := tp_fr hfr (show tp_r L K 40 7666 0 (r_2 0) from hr_5 0 (by decide)) (by decide)
              refine tp_iast (cy := cy) hx hb hK hP hD hS (show tp_r L K 40 7666 0 (r_2 0) from hr_5 0 (by decide)).1 hf_82 hn_88 dX12_slip_120 (fun H locs hP hD hS => ?_)
              have hP : va_P D vwCl (va_pl L (va_up f_80 (r_2 0) (.inl (cy 0, 7666, .inl (upd g_83 (2 : Int32).toNatClampNeg z_87))))) H := hP
              generalize hfe : va_up f_80 (r_2 0) (.inl (cy 0, 7666, .inl (upd g_83 (2 : Int32).toNatClampNeg z_87))) = f_92 at hP hI9 hfr9
              have hD : va_D A (va_pl L f_92) := tp_D hL hAL
              have hf_93 : f_92 (r_2 0) = .inl (cy 0, 7666, .inl (upd g_83 (2 : Int32).toNatClampNeg z_87)) := by rw [← hfe]; exact va_up_self _ _ _
              clear hfe
              have hI := hI9
              have hfr := hfr9
              clear hI9 hfr9
              have wsΓ_91 : Γ_91 (40, 7666, 0) 2 = Γ (40, 7666, 0) 2 + 1 := by rw [eΓ_91]; exact tg_s
              have hgr : ∀ κ : tk_K, κ.1 ∉ ([40] : List Nat) → Γ_91 κ = Γ κ := tg_fr hgr eΓ_91 (by decide)
              refine lv_aload_n hx hb dX12_slip_121 rfl (lv_at hl 1 rfl) ?_
              refine tp_get (cy := cy) (ci := 12) (v := .ref (r_2 0)) (C := RX12) (T := TX12) (N := 49) hx hb hta inlX12 hown hK hP ho.1 ((tp_un hfr ho (by decide)).trans hf_1) rfl 0 (by decide) (hta _ wk_149) (fun _ h9 => h9) rfl dX12_slip_122 ?_
              refine lv_iconst (v := 2) hx hb dX12_slip_125 (by decide) ?_
              obtain ⟨g_95, hf_94, hg_96⟩ := (show tp_gi cy (7666) (Γ_91 (40, 7666, 0)) (f_92 (r_2 0)) from hI.at (show tp_r L K 40 7666 0 (r_2 0) from hr_5 0 (by decide)))
              have hn_97 : vp_in 2 (7666) := tl_in (by decide) (by decide)
              refine tp_iald (cy := cy) hx hb hK hP (show tp_r L K 40 7666 0 (r_2 0) from hr_5 0 (by decide)).1 hf_94 hn_97 dX12_slip_126 ?_
              refine lv_topi (fun z_98 ez_98 => ?_)
              have iz_98 : z_98.toInt = Γ_91 (40, 7666, 0) 2 := by rw [ez_98]; exact hg_96 _ (tp_pin hn_97)
              refine lv_iconst (v := 1) hx hb dX12_slip_127 (by decide) ?_
              refine lv_isub hx hb dX12_slip_128 ?_
              refine lv_topi (fun z_99 ez_99 => ?_)
              try have iz_99 : z_99.toInt = z_98.toInt - (1 : Int) := by rw [ez_99]; exact tl_subN z_98 1 rfl rfl (by omega) (by omega)
              have hpo9 : (z_99 : Int32).toInt = (if ¬ Γ (40, 7666, 0) 2 = 40 ∧ (0 ≤ p0.toInt ∧ p0.toInt ≤ 3) ∧ (0 ≤ p1.toInt ∧ p1.toInt ≤ 299) ∧ (0 ≤ p2.toInt ∧ p2.toInt ≤ 299) ∧ p1.toInt ≤ p2.toInt ∧ -9999 ≤ p3.toInt ∧ p3.toInt ≤ 9999 then Γ (40, 7666, 0) 2 else -1) ∧ Γ_91 (40, 7666, 0) = if ¬ Γ (40, 7666, 0) 2 = 40 ∧ (0 ≤ p0.toInt ∧ p0.toInt ≤ 3) ∧ (0 ≤ p1.toInt ∧ p1.toInt ≤ 299) ∧ (0 ≤ p2.toInt ∧ p2.toInt ≤ 299) ∧ p1.toInt ≤ p2.toInt ∧ -9999 ≤ p3.toInt ∧ p3.toInt ≤ 9999 then tgu (tgu (tgu (tgu (tgu (Γ (40, 7666, 0)) (81 + 4 * Γ (40, 7666, 0) 2 + 0).toNat (p0.toInt)) (81 + 4 * Γ (40, 7666, 0) 2 + 1).toNat (p1.toInt)) (81 + 4 * Γ (40, 7666, 0) 2 + 2).toNat (p2.toInt)) (81 + 4 * Γ (40, 7666, 0) 2 + 3).toNat (p3.toInt)) 2 (Γ (40, 7666, 0) 2 + 1) else Γ (40, 7666, 0) := ⟨(by rw [if_pos (by omega)]; omega), (by rw [if_pos (by omega), eΓ_91, tg_f, eΓ_79, tg_f, eΓ_69, tg_f, eΓ_59, tg_f, eΓ_49, tg_f])⟩
              exact W.iret (v := z_99) hx hb hr (fun t ht hW => ⟨⟨_, (f_92, Γ_91), rfl, hpo9, by rw [ht]; exact hP, hI, hfr, hgr⟩, hS.F ht⟩) hS.2.2 dX12_slip_129
            · have c_41 := hw_39.f c_41
              refine lv_iconst (v := (-1)) hx hb dX12_slip_57 (by decide) ?_
              have hpo9 : ((-1) : Int32).toInt = (if ¬ Γ (40, 7666, 0) 2 = 40 ∧ (0 ≤ p0.toInt ∧ p0.toInt ≤ 3) ∧ (0 ≤ p1.toInt ∧ p1.toInt ≤ 299) ∧ (0 ≤ p2.toInt ∧ p2.toInt ≤ 299) ∧ p1.toInt ≤ p2.toInt ∧ -9999 ≤ p3.toInt ∧ p3.toInt ≤ 9999 then Γ (40, 7666, 0) 2 else -1) ∧ Γ (40, 7666, 0) = if ¬ Γ (40, 7666, 0) 2 = 40 ∧ (0 ≤ p0.toInt ∧ p0.toInt ≤ 3) ∧ (0 ≤ p1.toInt ∧ p1.toInt ≤ 299) ∧ (0 ≤ p2.toInt ∧ p2.toInt ≤ 299) ∧ p1.toInt ≤ p2.toInt ∧ -9999 ≤ p3.toInt ∧ p3.toInt ≤ 9999 then tgu (tgu (tgu (tgu (tgu (Γ (40, 7666, 0)) (81 + 4 * Γ (40, 7666, 0) 2 + 0).toNat (p0.toInt)) (81 + 4 * Γ (40, 7666, 0) 2 + 1).toNat (p1.toInt)) (81 + 4 * Γ (40, 7666, 0) 2 + 2).toNat (p2.toInt)) (81 + 4 * Γ (40, 7666, 0) 2 + 3).toNat (p3.toInt)) 2 (Γ (40, 7666, 0) 2 + 1) else Γ (40, 7666, 0) := ⟨(by rw [if_neg (by omega)]; rfl), (by rw [if_neg (by omega)])⟩
              exact W.iret (v := (-1)) hx hb hr (fun t ht hW => ⟨⟨_, (f, Γ), rfl, hpo9, by rw [ht]; exact hP, hI, hfr, hgr⟩, hS.F ht⟩) hS.2.2 dX12_slip_58
set_option maxHeartbeats 4000000 in
set_option maxRecDepth 100000 in
theorem r_X12_candidate (l : Launch) (D : va_G) (cy : Nat → ClassId) (sz : Nat) (L : List Nat) (K : Nat → tk_K) (Γ : tk_G) (f : Nat → va_E) (o : Nat) (p0 : Int32) (p1 : Int32) (ho : tp_r L K 39 (0) 0 o) (hs : (0 ≤ Γ (40, 7666, 0) 1 ∧ Γ (40, 7666, 0) 1 ≤ 24) ∧ (0 ≤ Γ (40, 7666, 0) 2 ∧ Γ (40, 7666, 0) 2 ≤ 40) ∧ (0 ≤ Γ (40, 7666, 0) 3 ∧ Γ (40, 7666, 0) 3 ≤ 60) ∧ (0 ≤ Γ (40, 7666, 0) 4 ∧ Γ (40, 7666, 0) 4 ≤ 10) ∧ (0 ≤ Γ (40, 7666, 0) 7665 ∧ Γ (40, 7666, 0) 7665 ≤ 8)) : Met l yX12_candidate (tl_w yX12_candidate cX12_candidate 4 (some .int)) ({ frames := 1, cells := 0, slots := 0, locals := 25 }) (va_Pc [.ref o, .int p0, .int p1] (tp_P D cy L K Γ f sz)) (va_Qi (fun (r : Int32) (u : (Nat → va_E) × tk_G) => r.toInt = (if ¬ Γ (40, 7666, 0) 4 = 10 ∧ (0 ≤ p0.toInt ∧ p0.toInt ≤ 3) ∧ 1 ≤ p1.toInt ∧ p1.toInt ≤ 99 then Γ (40, 7666, 0) 4 else -1) ∧ u.2 (40, 7666, 0) = if ¬ Γ (40, 7666, 0) 4 = 10 ∧ (0 ≤ p0.toInt ∧ p0.toInt ≤ 3) ∧ 1 ≤ p1.toInt ∧ p1.toInt ≤ 99 then tgu (tgu (tgu (Γ (40, 7666, 0)) (421 + 2 * Γ (40, 7666, 0) 4 + 0).toNat (p0.toInt)) (421 + 2 * Γ (40, 7666, 0) 4 + 1).toNat (p1.toInt)) 4 (Γ (40, 7666, 0) 4 + 1) else Γ (40, 7666, 0)) (tp_BG D cy L K Γ f [40]) (tp_A L sz)) 0 0 (tp_A L sz) := by
  refine Met.ofW (cc := cX12_candidate) (maxL := 4) (ret := (some .int)) (by decide) rfl ?_
  intro p e s m args below meth c s₁ B hml hv
  obtain ⟨rfl, hsz, hP, hK, hL, hI, hN, hU⟩ := hv
  have hx := B.exec
  have hb := B.bytes
  have hr := B.returns
  have hta := tl_hta (atoms_spec (ws := tl_w yX12_candidate cX12_candidate 4 (some .int)) B.pre)
  have hown : s.vm.findClass RX12 = some m.cls := findClass_of_methodNamed B.named
  have hlocks := B.notSynchronized
  subst hsz
  have hI0 := hI
  generalize hAe : tp_A L s.heap.size = A
  have hA : ∀ q : Nat, s.heap.size ≤ q → A q := fun q h => by rw [← hAe]; exact Or.inr h
  have hAL : ∀ q ∈ L, A q := fun q h => by rw [← hAe]; exact Or.inl h
  have hAf : ∀ (H : Heap), s.heap.size ≤ H.size → ∀ q, tp_A L H.size q → A q := fun H h q hq => hq.elim (hAL q) (fun h2 => hA q (Nat.le_trans h h2))
  have hS : va_S A s.heap s.heap [] := va_S.rf
  have hD : va_D A (va_pl L f) := tp_D hL hAL
  have hfr : ∀ b, (K b).1 ∉ ([40] : List Nat) → f b = f b := fun _ _ => rfl
  have hgr : ∀ κ : tk_K, κ.1 ∉ ([40] : List Nat) → Γ κ = Γ κ := fun _ _ => rfl
  have hl := lv_entry ([.ref o, .int p0, .int p1]) (n := 4) (Nat.le_of_ble_eq_true rfl)
  rw [lg_entry_eq]
  generalize (lg_sl ([.ref o, .int p0, .int p1]) ++ List.replicate (4 - (lg_sl ([.ref o, .int p0, .int p1])).length) Slot.unset).toArray = ls at hl ⊢
  have hl : lv_has ls 4 [(0, .ref o), (1, .int p0), (2, .int p1)] := hl
  refine lv_aload_n hx hb dX12_candidate_0 rfl (lv_at hl 0 rfl) ?_
  obtain ⟨r_2, v_3, q_4, hf_1, hr_5, hv_6⟩ := (show tp_o_M L K 0 0 (Γ (39, 0, 0)) (f o) from hI0.at ho)
  refine tp_get (cy := cy) (ci := 12) (v := .ref (r_2 0)) (C := RX12) (T := TX12) (N := 49) hx hb hta inlX12 hown hK hP ho.1 hf_1 rfl 0 (by decide) (hta _ wk_149) (fun _ h9 => h9) rfl dX12_candidate_1 ?_
  refine lv_iconst (v := 4) hx hb dX12_candidate_4 (by decide) ?_
  obtain ⟨g_24, hf_23, hg_25⟩ := (show tp_gi cy (7666) (Γ (40, 7666, 0)) (f (r_2 0)) from hI.at (show tp_r L K 40 7666 0 (r_2 0) from hr_5 0 (by decide)))
  have hn_26 : vp_in 4 (7666) := tl_in (by decide) (by decide)
  refine tp_iald (cy := cy) hx hb hK hP (show tp_r L K 40 7666 0 (r_2 0) from hr_5 0 (by decide)).1 hf_23 hn_26 dX12_candidate_5 ?_
  refine lv_topi (fun z_27 ez_27 => ?_)
  have iz_27 : z_27.toInt = Γ (40, 7666, 0) 4 := by rw [ez_27]; exact hg_25 _ (tp_pin hn_26)
  refine lv_bipush (v := 10) hx hb dX12_candidate_6 (by decide) ?_
  refine lv_icmp_eq (tgt := 35) hx hb dX12_candidate_8 (by decide) (fun c_28 => ?_) (fun c_28 => ?_)
  · have c_28 : z_27.toInt = (10 : Int) := tl_eq c_28
    refine lv_iconst (v := (-1)) hx hb dX12_candidate_35 (by decide) ?_
    have hpo9 : ((-1) : Int32).toInt = (if ¬ Γ (40, 7666, 0) 4 = 10 ∧ (0 ≤ p0.toInt ∧ p0.toInt ≤ 3) ∧ 1 ≤ p1.toInt ∧ p1.toInt ≤ 99 then Γ (40, 7666, 0) 4 else -1) ∧ Γ (40, 7666, 0) = if ¬ Γ (40, 7666, 0) 4 = 10 ∧ (0 ≤ p0.toInt ∧ p0.toInt ≤ 3) ∧ 1 ≤ p1.toInt ∧ p1.toInt ≤ 99 then tgu (tgu (tgu (Γ (40, 7666, 0)) (421 + 2 * Γ (40, 7666, 0) 4 + 0).toNat (p0.toInt)) (421 + 2 * Γ (40, 7666, 0) 4 + 1).toNat (p1.toInt)) 4 (Γ (40, 7666, 0) 4 + 1) else Γ (40, 7666, 0) := ⟨(by rw [if_neg (by omega)]; rfl), (by rw [if_neg (by omega)])⟩
    exact W.iret (v := (-1)) hx hb hr (fun t ht hW => ⟨⟨_, (f, Γ), rfl, hpo9, by rw [ht]; exact hP, hI, hfr, hgr⟩, hS.F ht⟩) hS.2.2 dX12_candidate_36
  · have c_28 : ¬ z_27.toInt = (10 : Int) := tl_neq c_28
    refine lv_iload_n hx hb dX12_candidate_11 rfl (lv_at hl 1 rfl) ?_
    refine lv_i2l (v := p0.toInt64) hx hb dX12_candidate_12 (by first | rfl | decide) ?_
    refine lv_lconst (v := 0) hx hb dX12_candidate_13 (by decide) ?_
    refine lv_ldc2 (v := 3) hx hb hown (hta _ wk_221) dX12_candidate_14 ?_
    refine tl_si (tq_rS (As := [.long p0.toInt64, .long 0, .long 3]) (rest := []) ⟨hx, hb, hml, hown, hta⟩ (tp_P.pre hK hN hL hU hI hP) lk_X12_112 (r_X12_in l D cy s.heap.size L K Γ f p0.toInt64 0 3 ) rfl rfl ⟨Nat.le_of_ble_eq_true rfl, Nat.le_of_ble_eq_true rfl⟩ rfl hl.1 rfl (Nat.le_of_ble_eq_true rfl) dX12_candidate_17 ⟨Nat.le_of_ble_eq_true rfl, Nat.le_of_ble_eq_true rfl⟩) (fun r_30 hw_29 => ?_)
    simp only [Int32.toInt_toInt64] at hw_29
    have hw_29 : tl_E r_30 ((0 : Int) ≤ p0.toInt ∧ p0.toInt ≤ (3 : Int)) 1 0 := hw_29
    refine lv_if_eq (tgt := 35) hx hb dX12_candidate_20 (by decide) (fun c_31 => ?_) (fun c_31 => ?_)
    · have c_31 := hw_29.f c_31
      refine lv_iconst (v := (-1)) hx hb dX12_candidate_35 (by decide) ?_
      have hpo9 : ((-1) : Int32).toInt = (if ¬ Γ (40, 7666, 0) 4 = 10 ∧ (0 ≤ p0.toInt ∧ p0.toInt ≤ 3) ∧ 1 ≤ p1.toInt ∧ p1.toInt ≤ 99 then Γ (40, 7666, 0) 4 else -1) ∧ Γ (40, 7666, 0) = if ¬ Γ (40, 7666, 0) 4 = 10 ∧ (0 ≤ p0.toInt ∧ p0.toInt ≤ 3) ∧ 1 ≤ p1.toInt ∧ p1.toInt ≤ 99 then tgu (tgu (tgu (Γ (40, 7666, 0)) (421 + 2 * Γ (40, 7666, 0) 4 + 0).toNat (p0.toInt)) (421 + 2 * Γ (40, 7666, 0) 4 + 1).toNat (p1.toInt)) 4 (Γ (40, 7666, 0) 4 + 1) else Γ (40, 7666, 0) := ⟨(by rw [if_neg (by omega)]; rfl), (by rw [if_neg (by omega)])⟩
      exact W.iret (v := (-1)) hx hb hr (fun t ht hW => ⟨⟨_, (f, Γ), rfl, hpo9, by rw [ht]; exact hP, hI, hfr, hgr⟩, hS.F ht⟩) hS.2.2 dX12_candidate_36
    · have c_31 := hw_29.t c_31
      refine lv_iload_n hx hb dX12_candidate_23 rfl (lv_at hl 2 rfl) ?_
      refine lv_i2l (v := p1.toInt64) hx hb dX12_candidate_24 (by first | rfl | decide) ?_
      refine lv_lconst (v := 1) hx hb dX12_candidate_25 (by decide) ?_
      refine lv_ldc2 (v := 99) hx hb hown (hta _ wk_1077) dX12_candidate_26 ?_
      refine tl_si (tq_rS (As := [.long p1.toInt64, .long 1, .long 99]) (rest := []) ⟨hx, hb, hml, hown, hta⟩ (tp_P.pre hK hN hL hU hI hP) lk_X12_112 (r_X12_in l D cy s.heap.size L K Γ f p1.toInt64 1 99 ) rfl rfl ⟨Nat.le_of_ble_eq_true rfl, Nat.le_of_ble_eq_true rfl⟩ rfl hl.1 rfl (Nat.le_of_ble_eq_true rfl) dX12_candidate_29 ⟨Nat.le_of_ble_eq_true rfl, Nat.le_of_ble_eq_true rfl⟩) (fun r_33 hw_32 => ?_)
      simp only [Int32.toInt_toInt64] at hw_32
      have hw_32 : tl_E r_33 ((1 : Int) ≤ p1.toInt ∧ p1.toInt ≤ (99 : Int)) 1 0 := hw_32
      refine lv_if_ne (tgt := 37) hx hb dX12_candidate_32 (by decide) (fun c_34 => ?_) (fun c_34 => ?_)
      · have c_34 := hw_32.t c_34
        refine lv_sipush (v := 421) hx hb dX12_candidate_37 (by decide) ?_
        refine lv_iconst (v := 2) hx hb dX12_candidate_40 (by decide) ?_
        refine lv_aload_n hx hb dX12_candidate_41 rfl (lv_at hl 0 rfl) ?_
        refine tp_get (cy := cy) (ci := 12) (v := .ref (r_2 0)) (C := RX12) (T := TX12) (N := 49) hx hb hta inlX12 hown hK hP ho.1 hf_1 rfl 0 (by decide) (hta _ wk_149) (fun _ h9 => h9) rfl dX12_candidate_42 ?_
        refine lv_iconst (v := 4) hx hb dX12_candidate_45 (by decide) ?_
        have hn_35 : vp_in 4 (7666) := tl_in (by decide) (by decide)
        refine tp_iald (cy := cy) hx hb hK hP (show tp_r L K 40 7666 0 (r_2 0) from hr_5 0 (by decide)).1 hf_23 hn_35 dX12_candidate_46 ?_
        refine lv_topi (fun z_36 ez_36 => ?_)
        obtain rfl : z_27 = z_36 := ez_27.trans ez_36.symm
        refine lv_imul hx hb dX12_candidate_47 ?_
        refine lv_topi (fun z_37 ez_37 => ?_)
        try have iz_37 : z_37.toInt = (2 : Int) * z_27.toInt := by rw [ez_37]; exact tl_mulN 2 z_27 rfl rfl (by omega) (by omega)
        refine lv_iadd hx hb dX12_candidate_48 ?_
        refine lv_topi (fun z_38 ez_38 => ?_)
        try have iz_38 : z_38.toInt = (421 : Int) + z_37.toInt := by rw [ez_38]; exact tl_addN 421 z_37 rfl rfl (by omega) (by omega)
        refine lv_istore_n (lv' := [(3, .int z_38), (0, .ref o), (1, .int p0), (2, .int p1)]) hx hb dX12_candidate_49 rfl hl (by decide) rfl (fun ls hl => ?_)
        refine lv_aload_n hx hb dX12_candidate_50 rfl (lv_at hl 1 rfl) ?_
        refine tp_get (cy := cy) (ci := 12) (v := .ref (r_2 0)) (C := RX12) (T := TX12) (N := 49) hx hb hta inlX12 hown hK hP ho.1 hf_1 rfl 0 (by decide) (hta _ wk_149) (fun _ h9 => h9) rfl dX12_candidate_51 ?_
        refine lv_iload_n hx hb dX12_candidate_54 rfl (lv_at hl 0 rfl) ?_
        refine lv_iload_n hx hb dX12_candidate_55 rfl (lv_at hl 2 rfl) ?_
        have hn_39 : vp_in z_38 (7666) := tl_in (by omega) (by omega)
        have hj_40 : z_38.toNatClampNeg = (421 + 2 * Γ (40, 7666, 0) 4 + 0).toNat := by show z_38.toInt.toNat = _; omega
        have hv_41 : p0.toInt = p0.toInt := by omega
        obtain ⟨Γ_42, eΓ_42⟩ : ∃ y : tk_G, y = tg Γ (40, 7666, 0) ((421 + 2 * Γ (40, 7666, 0) 4 + 0).toNat) p0.toInt := ⟨_, rfl⟩
        have hI9 : tp_I cy L K Γ_42 (va_up f (r_2 0) (.inl (cy 0, 7666, .inl (upd g_24 z_38.toNatClampNeg p0)))) := by have q9 : tg Γ (40, 7666, 0) ((421 + 2 * Γ (40, 7666, 0) 4 + 0).toNat) p0.toInt = tg Γ (40, 7666, 0) z_38.toNatClampNeg p0.toInt := (by rw [hj_40, hv_41]); rw [eΓ_42, q9]; exact hI.setg hU rfl (show tp_r L K 40 7666 0 (r_2 0) from hr_5 0 (by decide)) (show tp_gi cy (7666) (tgu (Γ (40, 7666, 0)) _ _) _ from ⟨_, rfl, tp_gi_upd hg_25⟩)
        have hfr9 : ∀ b, (K b).1 ∉ ([40] : List Nat) → va_up f (r_2 0) (.inl (cy 0, 7666, .inl (upd g_24 z_38.toNatClampNeg p0))) b = f b := tp_fr hfr (show tp_r L K 40 7666 0 (r_2 0) from hr_5 0 (by decide)) (by decide)
        refine tp_iast (cy := cy) hx hb hK hP hD hS (show tp_r L K 40 7666 0 (r_2 0) from hr_5 0 (by decide)).1 hf_23 hn_39 dX12_candidate_56 (fun H locs hP hD hS => ?_)
        have hP : va_P D vwCl (va_pl L (va_up f (r_2 0) (.inl (cy 0, 7666, .inl (upd g_24 z_38.toNatClampNeg p0))))) H := hP
        generalize hfe : va_up f (r_2 0) (.inl (cy 0, 7666, .inl (upd g_24 z_38.toNatClampNeg p0))) = f_43 at hP hI9 hfr9
        have hD : va_D A (va_pl L f_43) := tp_D hL hAL
        have hf_44 : f_43 (r_2 0) = .inl (cy 0, 7666, .inl (upd g_24 z_38.toNatClampNeg p0)) := by rw [← hfe]; exact va_up_self _ _ _
        clear hfe
        have hI := hI9
        have hfr := hfr9
        clear hI9 hfr9
        have wtΓ_42_4 : Γ_42 (40, 7666, 0) 4 = Γ (40, 7666, 0) 4 := by rw [eΓ_42]; exact tg_i (by omega)
        have wsΓ_42 : Γ_42 (40, 7666, 0) ((421 + 2 * Γ (40, 7666, 0) 4 + 0).toNat) = p0.toInt := by rw [eΓ_42]; exact tg_s
        have hgr : ∀ κ : tk_K, κ.1 ∉ ([40] : List Nat) → Γ_42 κ = Γ κ := tg_fr hgr eΓ_42 (by decide)
        refine lv_aload_n hx hb dX12_candidate_57 rfl (lv_at hl 1 rfl) ?_
        refine tp_get (cy := cy) (ci := 12) (v := .ref (r_2 0)) (C := RX12) (T := TX12) (N := 49) hx hb hta inlX12 hown hK hP ho.1 ((tp_un hfr ho (by decide)).trans hf_1) rfl 0 (by decide) (hta _ wk_149) (fun _ h9 => h9) rfl dX12_candidate_58 ?_
        refine lv_iload_n hx hb dX12_candidate_61 rfl (lv_at hl 0 rfl) ?_
        refine lv_iconst (v := 1) hx hb dX12_candidate_62 (by decide) ?_
        refine lv_iadd hx hb dX12_candidate_63 ?_
        refine lv_topi (fun z_45 ez_45 => ?_)
        try have iz_45 : z_45.toInt = z_38.toInt + (1 : Int) := by rw [ez_45]; exact tl_addN z_38 1 rfl rfl (by omega) (by omega)
        refine lv_iload_n hx hb dX12_candidate_64 rfl (lv_at hl 3 rfl) ?_
        obtain ⟨g_47, hf_46, hg_48⟩ := (show tp_gi cy (7666) (Γ_42 (40, 7666, 0)) (f_43 (r_2 0)) from hI.at (show tp_r L K 40 7666 0 (r_2 0) from hr_5 0 (by decide)))
        have hn_49 : vp_in z_45 (7666) := tl_in (by omega) (by omega)
        have hj_50 : z_45.toNatClampNeg = (421 + 2 * Γ (40, 7666, 0) 4 + 1).toNat := by show z_45.toInt.toNat = _; omega
        have hv_51 : p1.toInt = p1.toInt := by omega
        obtain ⟨Γ_52, eΓ_52⟩ : ∃ y : tk_G, y = tg Γ_42 (40, 7666, 0) ((421 + 2 * Γ (40, 7666, 0) 4 + 1).toNat) p1.toInt := ⟨_, rfl⟩
        have hI9 : tp_I cy L K Γ_52 (va_up f_43 (r_2 0) (.inl (cy 0, 7666, .inl (upd g_47 z_45.toNatClampNeg p1)))) := by have q9 : tg Γ_42 (40, 7666, 0) ((421 + 2 * Γ (40, 7666, 0) 4 + 1).toNat) p1.toInt = tg Γ_42 (40, 7666, 0) z_45.toNatClampNeg p1.toInt := (by rw [hj_50, hv_51]); rw [eΓ_52, q9]; exact hI.setg hU rfl (show tp_r L K 40 7666 0 (r_2 0) from hr_5 0 (by decide)) (show tp_gi cy (7666) (tgu (Γ_42 (40, 7666, 0)) _ _) _ from ⟨_, rfl, tp_gi_upd hg_48⟩)
        have hfr9 : ∀ b, (K b).1 ∉ ([40] : List Nat) → va_up f_43 (r_2 0) (.inl (cy 0, 7666, .inl (upd g_47 z_45.toNatClampNeg p1))) b = f b := tp_fr hfr (show tp_r L K 40 7666 0 (r_2 0) from hr_5 0 (by decide)) (by decide)
        refine tp_iast (cy := cy) hx hb hK hP hD hS (show tp_r L K 40 7666 0 (r_2 0) from hr_5 0 (by decide)).1 hf_46 hn_49 dX12_candidate_65 (fun H locs hP hD hS => ?_)
        have hP : va_P D vwCl (va_pl L (va_up f_43 (r_2 0) (.inl (cy 0, 7666, .inl (upd g_47 z_45.toNatClampNeg p1))))) H := hP
        generalize hfe : va_up f_43 (r_2 0) (.inl (cy 0, 7666, .inl (upd g_47 z_45.toNatClampNeg p1))) = f_53 at hP hI9 hfr9
        have hD : va_D A (va_pl L f_53) := tp_D hL hAL
        have hf_54 : f_53 (r_2 0) = .inl (cy 0, 7666, .inl (upd g_47 z_45.toNatClampNeg p1)) := by rw [← hfe]; exact va_up_self _ _ _
        clear hfe
        have hI := hI9
        have hfr := hfr9
        clear hI9 hfr9
        have wtΓ_52_4 : Γ_52 (40, 7666, 0) 4 = Γ_42 (40, 7666, 0) 4 := by rw [eΓ_52]; exact tg_i (by omega)
        have wsΓ_52 : Γ_52 (40, 7666, 0) ((421 + 2 * Γ (40, 7666, 0) 4 + 1).toNat) = p1.toInt := by rw [eΓ_52]; exact tg_s
        have hgr : ∀ κ : tk_K, κ.1 ∉ ([40] : List Nat) → Γ_52 κ = Γ κ := tg_fr hgr eΓ_52 (by decide)
        refine lv_aload_n hx hb dX12_candidate_66 rfl (lv_at hl 1 rfl) ?_
        refine tp_get (cy := cy) (ci := 12) (v := .ref (r_2 0)) (C := RX12) (T := TX12) (N := 49) hx hb hta inlX12 hown hK hP ho.1 ((tp_un hfr ho (by decide)).trans hf_1) rfl 0 (by decide) (hta _ wk_149) (fun _ h9 => h9) rfl dX12_candidate_67 ?_
        refine lv_iconst (v := 4) hx hb dX12_candidate_70 (by decide) ?_
        refine lv_dup2_11 hx hb dX12_candidate_71 rfl rfl ?_
        obtain ⟨g_56, hf_55, hg_57⟩ := (show tp_gi cy (7666) (Γ_52 (40, 7666, 0)) (f_53 (r_2 0)) from hI.at (show tp_r L K 40 7666 0 (r_2 0) from hr_5 0 (by decide)))
        have hn_58 : vp_in 4 (7666) := tl_in (by decide) (by decide)
        refine tp_iald (cy := cy) hx hb hK hP (show tp_r L K 40 7666 0 (r_2 0) from hr_5 0 (by decide)).1 hf_55 hn_58 dX12_candidate_72 ?_
        refine lv_topi (fun z_59 ez_59 => ?_)
        have iz_59 : z_59.toInt = Γ_52 (40, 7666, 0) 4 := by rw [ez_59]; exact hg_57 _ (tp_pin hn_58)
        refine lv_iconst (v := 1) hx hb dX12_candidate_73 (by decide) ?_
        refine lv_iadd hx hb dX12_candidate_74 ?_
        refine lv_topi (fun z_60 ez_60 => ?_)
        try have iz_60 : z_60.toInt = z_59.toInt + (1 : Int) := by rw [ez_60]; exact tl_addN z_59 1 rfl rfl (by omega) (by omega)
        have hn_61 : vp_in 4 (7666) := tl_in (by decide) (by decide)
        have hj_62 : (4 : Int32).toNatClampNeg = 4 := by decide
        have hv_63 : z_60.toInt = Γ (40, 7666, 0) 4 + 1 := by omega
        obtain ⟨Γ_64, eΓ_64⟩ : ∃ y : tk_G, y = tg Γ_52 (40, 7666, 0) 4 (Γ (40, 7666, 0) 4 + 1) := ⟨_, rfl⟩
        have hI9 : tp_I cy L K Γ_64 (va_up f_53 (r_2 0) (.inl (cy 0, 7666, .inl (upd g_56 (4 : Int32).toNatClampNeg z_60)))) := by have q9 : tg Γ_52 (40, 7666, 0) 4 (Γ (40, 7666, 0) 4 + 1) = tg Γ_52 (40, 7666, 0) (4 : Int32).toNatClampNeg z_60.toInt := (by rw [hj_62, hv_63]); rw [eΓ_64, q9]; exact hI.setg hU rfl (show tp_r L K 40 7666 0 (r_2 0) from hr_5 0 (by decide)) (show tp_gi cy (7666) (tgu (Γ_52 (40, 7666, 0)) _ _) _ from ⟨_, rfl, tp_gi_upd hg_57⟩)
        have hfr9 : ∀ b, (K b).1 ∉ ([40] : List Nat) → va_up f_53 (r_2 0) (.inl (cy 0, 7666, .inl (upd g_56 (4 : Int32).toNatClampNeg z_60))) b = f b := tp_fr hfr (show tp_r L K 40 7666 0 (r_2 0) from hr_5 0 (by decide)) (by decide)
        refine tp_iast (cy := cy) hx hb hK hP hD hS (show tp_r L K 40 7666 0 (r_2 0) from hr_5 0 (by decide)).1 hf_55 hn_61 dX12_candidate_75 (fun H locs hP hD hS => ?_)
        have hP : va_P D vwCl (va_pl L (va_up f_53 (r_2 0) (.inl (cy 0, 7666, .inl (upd g_56 (4 : Int32).toNatClampNeg z_60))))) H := hP
        generalize hfe : va_up f_53 (r_2 0) (.inl (cy 0, 7666, .inl (upd g_56 (4 : Int32).toNatClampNeg z_60))) = f_65 at hP hI9 hfr9
        have hD : va_D A (va_pl L f_65) := tp_D hL hAL
        have hf_66 : f_65 (r_2 0) = .inl (cy 0, 7666, .inl (upd g_56 (4 : Int32).toNatClampNeg z_60)) := by rw [← hfe]; exact va_up_self _ _ _
        clear hfe
        have hI := hI9
        have hfr := hfr9
        clear hI9 hfr9
        have wsΓ_64 : Γ_64 (40, 7666, 0) 4 = Γ (40, 7666, 0) 4 + 1 := by rw [eΓ_64]; exact tg_s
        have hgr : ∀ κ : tk_K, κ.1 ∉ ([40] : List Nat) → Γ_64 κ = Γ κ := tg_fr hgr eΓ_64 (by decide)
        refine lv_aload_n hx hb dX12_candidate_76 rfl (lv_at hl 1 rfl) ?_
        refine tp_get (cy := cy) (ci := 12) (v := .ref (r_2 0)) (C := RX12) (T := TX12) (N := 49) hx hb hta inlX12 hown hK hP ho.1 ((tp_un hfr ho (by decide)).trans hf_1) rfl 0 (by decide) (hta _ wk_149) (fun _ h9 => h9) rfl dX12_candidate_77 ?_
        refine lv_iconst (v := 4) hx hb dX12_candidate_80 (by decide) ?_
        obtain ⟨g_68, hf_67, hg_69⟩ := (show tp_gi cy (7666) (Γ_64 (40, 7666, 0)) (f_65 (r_2 0)) from hI.at (show tp_r L K 40 7666 0 (r_2 0) from hr_5 0 (by decide)))
        have hn_70 : vp_in 4 (7666) := tl_in (by decide) (by decide)
        refine tp_iald (cy := cy) hx hb hK hP (show tp_r L K 40 7666 0 (r_2 0) from hr_5 0 (by decide)).1 hf_67 hn_70 dX12_candidate_81 ?_
        refine lv_topi (fun z_71 ez_71 => ?_)
        have iz_71 : z_71.toInt = Γ_64 (40, 7666, 0) 4 := by rw [ez_71]; exact hg_69 _ (tp_pin hn_70)
        refine lv_iconst (v := 1) hx hb dX12_candidate_82 (by decide) ?_
        refine lv_isub hx hb dX12_candidate_83 ?_
        refine lv_topi (fun z_72 ez_72 => ?_)
        try have iz_72 : z_72.toInt = z_71.toInt - (1 : Int) := by rw [ez_72]; exact tl_subN z_71 1 rfl rfl (by omega) (by omega)
        have hpo9 : (z_72 : Int32).toInt = (if ¬ Γ (40, 7666, 0) 4 = 10 ∧ (0 ≤ p0.toInt ∧ p0.toInt ≤ 3) ∧ 1 ≤ p1.toInt ∧ p1.toInt ≤ 99 then Γ (40, 7666, 0) 4 else -1) ∧ Γ_64 (40, 7666, 0) = if ¬ Γ (40, 7666, 0) 4 = 10 ∧ (0 ≤ p0.toInt ∧ p0.toInt ≤ 3) ∧ 1 ≤ p1.toInt ∧ p1.toInt ≤ 99 then tgu (tgu (tgu (Γ (40, 7666, 0)) (421 + 2 * Γ (40, 7666, 0) 4 + 0).toNat (p0.toInt)) (421 + 2 * Γ (40, 7666, 0) 4 + 1).toNat (p1.toInt)) 4 (Γ (40, 7666, 0) 4 + 1) else Γ (40, 7666, 0) := ⟨(by rw [if_pos (by omega)]; omega), (by rw [if_pos (by omega), eΓ_64, tg_f, eΓ_52, tg_f, eΓ_42, tg_f])⟩
        exact W.iret (v := z_72) hx hb hr (fun t ht hW => ⟨⟨_, (f_65, Γ_64), rfl, hpo9, by rw [ht]; exact hP, hI, hfr, hgr⟩, hS.F ht⟩) hS.2.2 dX12_candidate_84
      · have c_34 := hw_32.f c_34
        refine lv_iconst (v := (-1)) hx hb dX12_candidate_35 (by decide) ?_
        have hpo9 : ((-1) : Int32).toInt = (if ¬ Γ (40, 7666, 0) 4 = 10 ∧ (0 ≤ p0.toInt ∧ p0.toInt ≤ 3) ∧ 1 ≤ p1.toInt ∧ p1.toInt ≤ 99 then Γ (40, 7666, 0) 4 else -1) ∧ Γ (40, 7666, 0) = if ¬ Γ (40, 7666, 0) 4 = 10 ∧ (0 ≤ p0.toInt ∧ p0.toInt ≤ 3) ∧ 1 ≤ p1.toInt ∧ p1.toInt ≤ 99 then tgu (tgu (tgu (Γ (40, 7666, 0)) (421 + 2 * Γ (40, 7666, 0) 4 + 0).toNat (p0.toInt)) (421 + 2 * Γ (40, 7666, 0) 4 + 1).toNat (p1.toInt)) 4 (Γ (40, 7666, 0) 4 + 1) else Γ (40, 7666, 0) := ⟨(by rw [if_neg (by omega)]; rfl), (by rw [if_neg (by omega)])⟩
        exact W.iret (v := (-1)) hx hb hr (fun t ht hW => ⟨⟨_, (f, Γ), rfl, hpo9, by rw [ht]; exact hP, hI, hfr, hgr⟩, hS.F ht⟩) hS.2.2 dX12_candidate_36
set_option maxHeartbeats 4000000 in
set_option maxRecDepth 100000 in
theorem r_X12_house (l : Launch) (D : va_G) (cy : Nat → ClassId) (sz : Nat) (L : List Nat) (K : Nat → tk_K) (Γ : tk_G) (f : Nat → va_E) (o : Nat) (p0 : Int32) (p1 : Int32) (p2 : Int32) (ho : tp_r L K 39 (0) 0 o) (hs : (0 ≤ Γ (40, 7666, 0) 1 ∧ Γ (40, 7666, 0) 1 ≤ 24) ∧ (0 ≤ Γ (40, 7666, 0) 2 ∧ Γ (40, 7666, 0) 2 ≤ 40) ∧ (0 ≤ Γ (40, 7666, 0) 3 ∧ Γ (40, 7666, 0) 3 ≤ 60) ∧ (0 ≤ Γ (40, 7666, 0) 4 ∧ Γ (40, 7666, 0) 4 ≤ 10) ∧ (0 ≤ Γ (40, 7666, 0) 7665 ∧ Γ (40, 7666, 0) 7665 ≤ 8)) : Met l yX12_house (tl_w yX12_house cX12_house 5 (some .int)) ({ frames := 1, cells := 0, slots := 0, locals := 25 }) (va_Pc [.ref o, .int p0, .int p1, .int p2] (tp_P D cy L K Γ f sz)) (va_Qi (fun (r : Int32) (u : (Nat → va_E) × tk_G) => r.toInt = (if ¬ Γ (40, 7666, 0) 7665 = 8 ∧ (0 ≤ p0.toInt ∧ p0.toInt < Γ (42, 3, 0) 1) ∧ (-999999 ≤ p1.toInt ∧ p1.toInt ≤ 999999) ∧ 1 ≤ p2.toInt ∧ p2.toInt ≤ 15 then Γ (40, 7666, 0) 7665 else -1) ∧ u.2 (40, 7666, 0) = if ¬ Γ (40, 7666, 0) 7665 = 8 ∧ (0 ≤ p0.toInt ∧ p0.toInt < Γ (42, 3, 0) 1) ∧ (-999999 ≤ p1.toInt ∧ p1.toInt ≤ 999999) ∧ 1 ≤ p2.toInt ∧ p2.toInt ≤ 15 then tgu (tgu (tgu (tgu (Γ (40, 7666, 0)) (7641 + 3 * Γ (40, 7666, 0) 7665 + 0).toNat (p0.toInt)) (7641 + 3 * Γ (40, 7666, 0) 7665 + 1).toNat (p1.toInt)) (7641 + 3 * Γ (40, 7666, 0) 7665 + 2).toNat (p2.toInt)) 7665 (Γ (40, 7666, 0) 7665 + 1) else Γ (40, 7666, 0)) (tp_BG D cy L K Γ f [40]) (tp_A L sz)) 0 0 (tp_A L sz) := by
  refine Met.ofW (cc := cX12_house) (maxL := 5) (ret := (some .int)) (by decide) rfl ?_
  intro p e s m args below meth c s₁ B hml hv
  obtain ⟨rfl, hsz, hP, hK, hL, hI, hN, hU⟩ := hv
  have hx := B.exec
  have hb := B.bytes
  have hr := B.returns
  have hta := tl_hta (atoms_spec (ws := tl_w yX12_house cX12_house 5 (some .int)) B.pre)
  have hown : s.vm.findClass RX12 = some m.cls := findClass_of_methodNamed B.named
  have hlocks := B.notSynchronized
  subst hsz
  have hI0 := hI
  generalize hAe : tp_A L s.heap.size = A
  have hA : ∀ q : Nat, s.heap.size ≤ q → A q := fun q h => by rw [← hAe]; exact Or.inr h
  have hAL : ∀ q ∈ L, A q := fun q h => by rw [← hAe]; exact Or.inl h
  have hAf : ∀ (H : Heap), s.heap.size ≤ H.size → ∀ q, tp_A L H.size q → A q := fun H h q hq => hq.elim (hAL q) (fun h2 => hA q (Nat.le_trans h h2))
  have hS : va_S A s.heap s.heap [] := va_S.rf
  have hD : va_D A (va_pl L f) := tp_D hL hAL
  have hfr : ∀ b, (K b).1 ∉ ([40] : List Nat) → f b = f b := fun _ _ => rfl
  have hgr : ∀ κ : tk_K, κ.1 ∉ ([40] : List Nat) → Γ κ = Γ κ := fun _ _ => rfl
  have hl := lv_entry ([.ref o, .int p0, .int p1, .int p2]) (n := 5) (Nat.le_of_ble_eq_true rfl)
  rw [lg_entry_eq]
  generalize (lg_sl ([.ref o, .int p0, .int p1, .int p2]) ++ List.replicate (5 - (lg_sl ([.ref o, .int p0, .int p1, .int p2])).length) Slot.unset).toArray = ls at hl ⊢
  have hl : lv_has ls 5 [(0, .ref o), (1, .int p0), (2, .int p1), (3, .int p2)] := hl
  refine lv_aload_n hx hb dX12_house_0 rfl (lv_at hl 0 rfl) ?_
  obtain ⟨r_2, v_3, q_4, hf_1, hr_5, hv_6⟩ := (show tp_o_M L K 0 0 (Γ (39, 0, 0)) (f o) from hI0.at ho)
  refine tp_get (cy := cy) (ci := 12) (v := .ref (r_2 0)) (C := RX12) (T := TX12) (N := 49) hx hb hta inlX12 hown hK hP ho.1 hf_1 rfl 0 (by decide) (hta _ wk_149) (fun _ h9 => h9) rfl dX12_house_1 ?_
  refine lv_sipush (v := 7665) hx hb dX12_house_4 (by decide) ?_
  obtain ⟨g_24, hf_23, hg_25⟩ := (show tp_gi cy (7666) (Γ (40, 7666, 0)) (f (r_2 0)) from hI.at (show tp_r L K 40 7666 0 (r_2 0) from hr_5 0 (by decide)))
  have hn_26 : vp_in 7665 (7666) := tl_in (by decide) (by decide)
  refine tp_iald (cy := cy) hx hb hK hP (show tp_r L K 40 7666 0 (r_2 0) from hr_5 0 (by decide)).1 hf_23 hn_26 dX12_house_7 ?_
  refine lv_topi (fun z_27 ez_27 => ?_)
  have iz_27 : z_27.toInt = Γ (40, 7666, 0) 7665 := by rw [ez_27]; exact hg_25 _ (tp_pin hn_26)
  refine lv_bipush (v := 8) hx hb dX12_house_8 (by decide) ?_
  refine lv_icmp_eq (tgt := 48) hx hb dX12_house_10 (by decide) (fun c_28 => ?_) (fun c_28 => ?_)
  · have c_28 : z_27.toInt = (8 : Int) := tl_eq c_28
    refine lv_iconst (v := (-1)) hx hb dX12_house_48 (by decide) ?_
    have hpo9 : ((-1) : Int32).toInt = (if ¬ Γ (40, 7666, 0) 7665 = 8 ∧ (0 ≤ p0.toInt ∧ p0.toInt < Γ (42, 3, 0) 1) ∧ (-999999 ≤ p1.toInt ∧ p1.toInt ≤ 999999) ∧ 1 ≤ p2.toInt ∧ p2.toInt ≤ 15 then Γ (40, 7666, 0) 7665 else -1) ∧ Γ (40, 7666, 0) = if ¬ Γ (40, 7666, 0) 7665 = 8 ∧ (0 ≤ p0.toInt ∧ p0.toInt < Γ (42, 3, 0) 1) ∧ (-999999 ≤ p1.toInt ∧ p1.toInt ≤ 999999) ∧ 1 ≤ p2.toInt ∧ p2.toInt ≤ 15 then tgu (tgu (tgu (tgu (Γ (40, 7666, 0)) (7641 + 3 * Γ (40, 7666, 0) 7665 + 0).toNat (p0.toInt)) (7641 + 3 * Γ (40, 7666, 0) 7665 + 1).toNat (p1.toInt)) (7641 + 3 * Γ (40, 7666, 0) 7665 + 2).toNat (p2.toInt)) 7665 (Γ (40, 7666, 0) 7665 + 1) else Γ (40, 7666, 0) := ⟨(by rw [if_neg (by omega)]; rfl), (by rw [if_neg (by omega)])⟩
    exact W.iret (v := (-1)) hx hb hr (fun t ht hW => ⟨⟨_, (f, Γ), rfl, hpo9, by rw [ht]; exact hP, hI, hfr, hgr⟩, hS.F ht⟩) hS.2.2 dX12_house_49
  · have c_28 : ¬ z_27.toInt = (8 : Int) := tl_neq c_28
    refine lv_aload_n hx hb dX12_house_13 rfl (lv_at hl 0 rfl) ?_
    refine lv_iconst (v := 1) hx hb dX12_house_14 (by decide) ?_
    refine lv_iload_n hx hb dX12_house_15 rfl (lv_at hl 1 rfl) ?_
    refine tl_si (tq_rV (As := [.int 1, .int p0]) (rest := []) ⟨hx, hb, hml, hown, hta⟩ (tp_P.pre hK hN hL hU hI hP) (tp_recv hK hP ho.1 hf_1 rfl) lk_X12_382 (r_isText_1 l D cy s.heap.size L K Γ f o p0 ho) rfl rfl ⟨Nat.le_of_ble_eq_true rfl, Nat.le_of_ble_eq_true rfl⟩ rfl hl.1 rfl (Nat.le_of_ble_eq_true rfl) dX12_house_16 ⟨Nat.le_of_ble_eq_true rfl, Nat.le_of_ble_eq_true rfl⟩) (fun r_30 hw_29 => ?_)
    have hw_29 : tl_E r_30 (0 ≤ p0.toInt ∧ p0.toInt < Γ (42, 3, 0) 1) 1 0 := hw_29
    refine lv_if_eq (tgt := 48) hx hb dX12_house_19 (by decide) (fun c_31 => ?_) (fun c_31 => ?_)
    · have c_31 := hw_29.f c_31
      refine lv_iconst (v := (-1)) hx hb dX12_house_48 (by decide) ?_
      have hpo9 : ((-1) : Int32).toInt = (if ¬ Γ (40, 7666, 0) 7665 = 8 ∧ (0 ≤ p0.toInt ∧ p0.toInt < Γ (42, 3, 0) 1) ∧ (-999999 ≤ p1.toInt ∧ p1.toInt ≤ 999999) ∧ 1 ≤ p2.toInt ∧ p2.toInt ≤ 15 then Γ (40, 7666, 0) 7665 else -1) ∧ Γ (40, 7666, 0) = if ¬ Γ (40, 7666, 0) 7665 = 8 ∧ (0 ≤ p0.toInt ∧ p0.toInt < Γ (42, 3, 0) 1) ∧ (-999999 ≤ p1.toInt ∧ p1.toInt ≤ 999999) ∧ 1 ≤ p2.toInt ∧ p2.toInt ≤ 15 then tgu (tgu (tgu (tgu (Γ (40, 7666, 0)) (7641 + 3 * Γ (40, 7666, 0) 7665 + 0).toNat (p0.toInt)) (7641 + 3 * Γ (40, 7666, 0) 7665 + 1).toNat (p1.toInt)) (7641 + 3 * Γ (40, 7666, 0) 7665 + 2).toNat (p2.toInt)) 7665 (Γ (40, 7666, 0) 7665 + 1) else Γ (40, 7666, 0) := ⟨(by rw [if_neg (by omega)]; rfl), (by rw [if_neg (by omega)])⟩
      exact W.iret (v := (-1)) hx hb hr (fun t ht hW => ⟨⟨_, (f, Γ), rfl, hpo9, by rw [ht]; exact hP, hI, hfr, hgr⟩, hS.F ht⟩) hS.2.2 dX12_house_49
    · have c_31 := hw_29.t c_31
      refine lv_iload_n hx hb dX12_house_22 rfl (lv_at hl 2 rfl) ?_
      refine lv_i2l (v := p1.toInt64) hx hb dX12_house_23 (by first | rfl | decide) ?_
      refine lv_ldc2 (v := (-999999)) hx hb hown (hta _ wk_1091) dX12_house_24 ?_
      refine lv_ldc2 (v := 999999) hx hb hown (hta _ wk_1092) dX12_house_27 ?_
      refine tl_si (tq_rS (As := [.long p1.toInt64, .long (-999999), .long 999999]) (rest := []) ⟨hx, hb, hml, hown, hta⟩ (tp_P.pre hK hN hL hU hI hP) lk_X12_112 (r_X12_in l D cy s.heap.size L K Γ f p1.toInt64 (-999999) 999999 ) rfl rfl ⟨Nat.le_of_ble_eq_true rfl, Nat.le_of_ble_eq_true rfl⟩ rfl hl.1 rfl (Nat.le_of_ble_eq_true rfl) dX12_house_30 ⟨Nat.le_of_ble_eq_true rfl, Nat.le_of_ble_eq_true rfl⟩) (fun r_33 hw_32 => ?_)
      simp only [Int32.toInt_toInt64] at hw_32
      have hw_32 : tl_E r_33 ((-999999 : Int) ≤ p1.toInt ∧ p1.toInt ≤ (999999 : Int)) 1 0 := hw_32
      refine lv_if_eq (tgt := 48) hx hb dX12_house_33 (by decide) (fun c_34 => ?_) (fun c_34 => ?_)
      · have c_34 := hw_32.f c_34
        refine lv_iconst (v := (-1)) hx hb dX12_house_48 (by decide) ?_
        have hpo9 : ((-1) : Int32).toInt = (if ¬ Γ (40, 7666, 0) 7665 = 8 ∧ (0 ≤ p0.toInt ∧ p0.toInt < Γ (42, 3, 0) 1) ∧ (-999999 ≤ p1.toInt ∧ p1.toInt ≤ 999999) ∧ 1 ≤ p2.toInt ∧ p2.toInt ≤ 15 then Γ (40, 7666, 0) 7665 else -1) ∧ Γ (40, 7666, 0) = if ¬ Γ (40, 7666, 0) 7665 = 8 ∧ (0 ≤ p0.toInt ∧ p0.toInt < Γ (42, 3, 0) 1) ∧ (-999999 ≤ p1.toInt ∧ p1.toInt ≤ 999999) ∧ 1 ≤ p2.toInt ∧ p2.toInt ≤ 15 then tgu (tgu (tgu (tgu (Γ (40, 7666, 0)) (7641 + 3 * Γ (40, 7666, 0) 7665 + 0).toNat (p0.toInt)) (7641 + 3 * Γ (40, 7666, 0) 7665 + 1).toNat (p1.toInt)) (7641 + 3 * Γ (40, 7666, 0) 7665 + 2).toNat (p2.toInt)) 7665 (Γ (40, 7666, 0) 7665 + 1) else Γ (40, 7666, 0) := ⟨(by rw [if_neg (by omega)]; rfl), (by rw [if_neg (by omega)])⟩
        exact W.iret (v := (-1)) hx hb hr (fun t ht hW => ⟨⟨_, (f, Γ), rfl, hpo9, by rw [ht]; exact hP, hI, hfr, hgr⟩, hS.F ht⟩) hS.2.2 dX12_house_49
      · have c_34 := hw_32.t c_34
        refine lv_iload_n hx hb dX12_house_36 rfl (lv_at hl 3 rfl) ?_
        refine lv_i2l (v := p2.toInt64) hx hb dX12_house_37 (by first | rfl | decide) ?_
        refine lv_lconst (v := 1) hx hb dX12_house_38 (by decide) ?_
        refine lv_ldc2 (v := 15) hx hb hown (hta _ wk_1173) dX12_house_39 ?_
        refine tl_si (tq_rS (As := [.long p2.toInt64, .long 1, .long 15]) (rest := []) ⟨hx, hb, hml, hown, hta⟩ (tp_P.pre hK hN hL hU hI hP) lk_X12_112 (r_X12_in l D cy s.heap.size L K Γ f p2.toInt64 1 15 ) rfl rfl ⟨Nat.le_of_ble_eq_true rfl, Nat.le_of_ble_eq_true rfl⟩ rfl hl.1 rfl (Nat.le_of_ble_eq_true rfl) dX12_house_42 ⟨Nat.le_of_ble_eq_true rfl, Nat.le_of_ble_eq_true rfl⟩) (fun r_36 hw_35 => ?_)
        simp only [Int32.toInt_toInt64] at hw_35
        have hw_35 : tl_E r_36 ((1 : Int) ≤ p2.toInt ∧ p2.toInt ≤ (15 : Int)) 1 0 := hw_35
        refine lv_if_ne (tgt := 50) hx hb dX12_house_45 (by decide) (fun c_37 => ?_) (fun c_37 => ?_)
        · have c_37 := hw_35.t c_37
          refine lv_sipush (v := 7641) hx hb dX12_house_50 (by decide) ?_
          refine lv_iconst (v := 3) hx hb dX12_house_53 (by decide) ?_
          refine lv_aload_n hx hb dX12_house_54 rfl (lv_at hl 0 rfl) ?_
          refine tp_get (cy := cy) (ci := 12) (v := .ref (r_2 0)) (C := RX12) (T := TX12) (N := 49) hx hb hta inlX12 hown hK hP ho.1 hf_1 rfl 0 (by decide) (hta _ wk_149) (fun _ h9 => h9) rfl dX12_house_55 ?_
          refine lv_sipush (v := 7665) hx hb dX12_house_58 (by decide) ?_
          have hn_38 : vp_in 7665 (7666) := tl_in (by decide) (by decide)
          refine tp_iald (cy := cy) hx hb hK hP (show tp_r L K 40 7666 0 (r_2 0) from hr_5 0 (by decide)).1 hf_23 hn_38 dX12_house_61 ?_
          refine lv_topi (fun z_39 ez_39 => ?_)
          obtain rfl : z_27 = z_39 := ez_27.trans ez_39.symm
          refine lv_imul hx hb dX12_house_62 ?_
          refine lv_topi (fun z_40 ez_40 => ?_)
          try have iz_40 : z_40.toInt = (3 : Int) * z_27.toInt := by rw [ez_40]; exact tl_mulN 3 z_27 rfl rfl (by omega) (by omega)
          refine lv_iadd hx hb dX12_house_63 ?_
          refine lv_topi (fun z_41 ez_41 => ?_)
          try have iz_41 : z_41.toInt = (7641 : Int) + z_40.toInt := by rw [ez_41]; exact tl_addN 7641 z_40 rfl rfl (by omega) (by omega)
          refine lv_istore (lv' := [(4, .int z_41), (0, .ref o), (1, .int p0), (2, .int p1), (3, .int p2)]) hx hb dX12_house_64 hl (by decide) rfl (fun ls hl => ?_)
          refine lv_aload_n hx hb dX12_house_66 rfl (lv_at hl 1 rfl) ?_
          refine tp_get (cy := cy) (ci := 12) (v := .ref (r_2 0)) (C := RX12) (T := TX12) (N := 49) hx hb hta inlX12 hown hK hP ho.1 hf_1 rfl 0 (by decide) (hta _ wk_149) (fun _ h9 => h9) rfl dX12_house_67 ?_
          refine lv_iload hx hb dX12_house_70 (lv_at hl 0 rfl) ?_
          refine lv_iload_n hx hb dX12_house_72 rfl (lv_at hl 2 rfl) ?_
          have hn_42 : vp_in z_41 (7666) := tl_in (by omega) (by omega)
          have hj_43 : z_41.toNatClampNeg = (7641 + 3 * Γ (40, 7666, 0) 7665 + 0).toNat := by show z_41.toInt.toNat = _; omega
          have hv_44 : p0.toInt = p0.toInt := by omega
          obtain ⟨Γ_45, eΓ_45⟩ : ∃ y : tk_G, y = tg Γ (40, 7666, 0) ((7641 + 3 * Γ (40, 7666, 0) 7665 + 0).toNat) p0.toInt := ⟨_, rfl⟩
          have hI9 : tp_I cy L K Γ_45 (va_up f (r_2 0) (.inl (cy 0, 7666, .inl (upd g_24 z_41.toNatClampNeg p0)))) := by have q9 : tg Γ (40, 7666, 0) ((7641 + 3 * Γ (40, 7666, 0) 7665 + 0).toNat) p0.toInt = tg Γ (40, 7666, 0) z_41.toNatClampNeg p0.toInt := (by rw [hj_43, hv_44]); rw [eΓ_45, q9]; exact hI.setg hU rfl (show tp_r L K 40 7666 0 (r_2 0) from hr_5 0 (by decide)) (show tp_gi cy (7666) (tgu (Γ (40, 7666, 0)) _ _) _ from ⟨_, rfl, tp_gi_upd hg_25⟩)
          have hfr9 : ∀ b, (K b).1 ∉ ([40] : List Nat) → va_up f (r_2 0) (.inl (cy 0, 7666, .inl (upd g_24 z_41.toNatClampNeg p0))) b = f b := tp_fr hfr (show tp_r L K 40 7666 0 (r_2 0) from hr_5 0 (by decide)) (by decide)
          refine tp_iast (cy := cy) hx hb hK hP hD hS (show tp_r L K 40 7666 0 (r_2 0) from hr_5 0 (by decide)).1 hf_23 hn_42 dX12_house_73 (fun H locs hP hD hS => ?_)
          have hP : va_P D vwCl (va_pl L (va_up f (r_2 0) (.inl (cy 0, 7666, .inl (upd g_24 z_41.toNatClampNeg p0))))) H := hP
          generalize hfe : va_up f (r_2 0) (.inl (cy 0, 7666, .inl (upd g_24 z_41.toNatClampNeg p0))) = f_46 at hP hI9 hfr9
          have hD : va_D A (va_pl L f_46) := tp_D hL hAL
          have hf_47 : f_46 (r_2 0) = .inl (cy 0, 7666, .inl (upd g_24 z_41.toNatClampNeg p0)) := by rw [← hfe]; exact va_up_self _ _ _
          clear hfe
          have hI := hI9
          have hfr := hfr9
          clear hI9 hfr9
          have wtΓ_45_7665 : Γ_45 (40, 7666, 0) 7665 = Γ (40, 7666, 0) 7665 := by rw [eΓ_45]; exact tg_i (by omega)
          have wsΓ_45 : Γ_45 (40, 7666, 0) ((7641 + 3 * Γ (40, 7666, 0) 7665 + 0).toNat) = p0.toInt := by rw [eΓ_45]; exact tg_s
          have hgr : ∀ κ : tk_K, κ.1 ∉ ([40] : List Nat) → Γ_45 κ = Γ κ := tg_fr hgr eΓ_45 (by decide)
          refine lv_aload_n hx hb dX12_house_74 rfl (lv_at hl 1 rfl) ?_
          refine tp_get (cy := cy) (ci := 12) (v := .ref (r_2 0)) (C := RX12) (T := TX12) (N := 49) hx hb hta inlX12 hown hK hP ho.1 ((tp_un hfr ho (by decide)).trans hf_1) rfl 0 (by decide) (hta _ wk_149) (fun _ h9 => h9) rfl dX12_house_75 ?_
          refine lv_iload hx hb dX12_house_78 (lv_at hl 0 rfl) ?_
          refine lv_iconst (v := 1) hx hb dX12_house_80 (by decide) ?_
          refine lv_iadd hx hb dX12_house_81 ?_
          refine lv_topi (fun z_48 ez_48 => ?_)
          try have iz_48 : z_48.toInt = z_41.toInt + (1 : Int) := by rw [ez_48]; exact tl_addN z_41 1 rfl rfl (by omega) (by omega)
          refine lv_iload_n hx hb dX12_house_82 rfl (lv_at hl 3 rfl) ?_
          obtain ⟨g_50, hf_49, hg_51⟩ := (show tp_gi cy (7666) (Γ_45 (40, 7666, 0)) (f_46 (r_2 0)) from hI.at (show tp_r L K 40 7666 0 (r_2 0) from hr_5 0 (by decide)))
          have hn_52 : vp_in z_48 (7666) := tl_in (by omega) (by omega)
          have hj_53 : z_48.toNatClampNeg = (7641 + 3 * Γ (40, 7666, 0) 7665 + 1).toNat := by show z_48.toInt.toNat = _; omega
          have hv_54 : p1.toInt = p1.toInt := by omega
          obtain ⟨Γ_55, eΓ_55⟩ : ∃ y : tk_G, y = tg Γ_45 (40, 7666, 0) ((7641 + 3 * Γ (40, 7666, 0) 7665 + 1).toNat) p1.toInt := ⟨_, rfl⟩
          have hI9 : tp_I cy L K Γ_55 (va_up f_46 (r_2 0) (.inl (cy 0, 7666, .inl (upd g_50 z_48.toNatClampNeg p1)))) := by have q9 : tg Γ_45 (40, 7666, 0) ((7641 + 3 * Γ (40, 7666, 0) 7665 + 1).toNat) p1.toInt = tg Γ_45 (40, 7666, 0) z_48.toNatClampNeg p1.toInt := (by rw [hj_53, hv_54]); rw [eΓ_55, q9]; exact hI.setg hU rfl (show tp_r L K 40 7666 0 (r_2 0) from hr_5 0 (by decide)) (show tp_gi cy (7666) (tgu (Γ_45 (40, 7666, 0)) _ _) _ from ⟨_, rfl, tp_gi_upd hg_51⟩)
          have hfr9 : ∀ b, (K b).1 ∉ ([40] : List Nat) → va_up f_46 (r_2 0) (.inl (cy 0, 7666, .inl (upd g_50 z_48.toNatClampNeg p1))) b = f b := tp_fr hfr (show tp_r L K 40 7666 0 (r_2 0) from hr_5 0 (by decide)) (by decide)
          refine tp_iast (cy := cy) hx hb hK hP hD hS (show tp_r L K 40 7666 0 (r_2 0) from hr_5 0 (by decide)).1 hf_49 hn_52 dX12_house_83 (fun H locs hP hD hS => ?_)
          have hP : va_P D vwCl (va_pl L (va_up f_46 (r_2 0) (.inl (cy 0, 7666, .inl (upd g_50 z_48.toNatClampNeg p1))))) H := hP
          generalize hfe : va_up f_46 (r_2 0) (.inl (cy 0, 7666, .inl (upd g_50 z_48.toNatClampNeg p1))) = f_56 at hP hI9 hfr9
          have hD : va_D A (va_pl L f_56) := tp_D hL hAL
          have hf_57 : f_56 (r_2 0) = .inl (cy 0, 7666, .inl (upd g_50 z_48.toNatClampNeg p1)) := by rw [← hfe]; exact va_up_self _ _ _
          clear hfe
          have hI := hI9
          have hfr := hfr9
          clear hI9 hfr9
          have wtΓ_55_7665 : Γ_55 (40, 7666, 0) 7665 = Γ_45 (40, 7666, 0) 7665 := by rw [eΓ_55]; exact tg_i (by omega)
          have wsΓ_55 : Γ_55 (40, 7666, 0) ((7641 + 3 * Γ (40, 7666, 0) 7665 + 1).toNat) = p1.toInt := by rw [eΓ_55]; exact tg_s
          have hgr : ∀ κ : tk_K, κ.1 ∉ ([40] : List Nat) → Γ_55 κ = Γ κ := tg_fr hgr eΓ_55 (by decide)
          refine lv_aload_n hx hb dX12_house_84 rfl (lv_at hl 1 rfl) ?_
          refine tp_get (cy := cy) (ci := 12) (v := .ref (r_2 0)) (C := RX12) (T := TX12) (N := 49) hx hb hta inlX12 hown hK hP ho.1 ((tp_un hfr ho (by decide)).trans hf_1) rfl 0 (by decide) (hta _ wk_149) (fun _ h9 => h9) rfl dX12_house_85 ?_
          refine lv_iload hx hb dX12_house_88 (lv_at hl 0 rfl) ?_
          refine lv_iconst (v := 2) hx hb dX12_house_90 (by decide) ?_
          refine lv_iadd hx hb dX12_house_91 ?_
          refine lv_topi (fun z_58 ez_58 => ?_)
          try have iz_58 : z_58.toInt = z_41.toInt + (2 : Int) := by rw [ez_58]; exact tl_addN z_41 2 rfl rfl (by omega) (by omega)
          refine lv_iload_n hx hb dX12_house_92 rfl (lv_at hl 4 rfl) ?_
          obtain ⟨g_60, hf_59, hg_61⟩ := (show tp_gi cy (7666) (Γ_55 (40, 7666, 0)) (f_56 (r_2 0)) from hI.at (show tp_r L K 40 7666 0 (r_2 0) from hr_5 0 (by decide)))
          have hn_62 : vp_in z_58 (7666) := tl_in (by omega) (by omega)
          have hj_63 : z_58.toNatClampNeg = (7641 + 3 * Γ (40, 7666, 0) 7665 + 2).toNat := by show z_58.toInt.toNat = _; omega
          have hv_64 : p2.toInt = p2.toInt := by omega
          obtain ⟨Γ_65, eΓ_65⟩ : ∃ y : tk_G, y = tg Γ_55 (40, 7666, 0) ((7641 + 3 * Γ (40, 7666, 0) 7665 + 2).toNat) p2.toInt := ⟨_, rfl⟩
          have hI9 : tp_I cy L K Γ_65 (va_up f_56 (r_2 0) (.inl (cy 0, 7666, .inl (upd g_60 z_58.toNatClampNeg p2)))) := by have q9 : tg Γ_55 (40, 7666, 0) ((7641 + 3 * Γ (40, 7666, 0) 7665 + 2).toNat) p2.toInt = tg Γ_55 (40, 7666, 0) z_58.toNatClampNeg p2.toInt := (by rw [hj_63, hv_64]); rw [eΓ_65, q9]; exact hI.setg hU rfl (show tp_r L K 40 7666 0 (r_2 0) from hr_5 0 (by decide)) (show tp_gi cy (7666) (tgu (Γ_55 (40, 7666, 0)) _ _) _ from ⟨_, rfl, tp_gi_upd hg_61⟩)
          have hfr9 : ∀ b, (K b).1 ∉ ([40] : List Nat) → va_up f_56 (r_2 0) (.inl (cy 0, 7666, .inl (upd g_60 z_58.toNatClampNeg p2))) b = f b := tp_fr hfr (show tp_r L K 40 7666 0 (r_2 0) from hr_5 0 (by decide)) (by decide)
          refine tp_iast (cy := cy) hx hb hK hP hD hS (show tp_r L K 40 7666 0 (r_2 0) from hr_5 0 (by decide)).1 hf_59 hn_62 dX12_house_93 (fun H locs hP hD hS => ?_)
          have hP : va_P D vwCl (va_pl L (va_up f_56 (r_2 0) (.inl (cy 0, 7666, .inl (upd g_60 z_58.toNatClampNeg p2))))) H := hP
          generalize hfe : va_up f_56 (r_2 0) (.inl (cy 0, 7666, .inl (upd g_60 z_58.toNatClampNeg p2))) = f_66 at hP hI9 hfr9
          have hD : va_D A (va_pl L f_66) := tp_D hL hAL
          have hf_67 : f_66 (r_2 0) = .inl (cy 0, 7666, .inl (upd g_60 z_58.toNatClampNeg p2)) := by rw [← hfe]; exact va_up_self _ _ _
          clear hfe
          have hI := hI9
          have hfr := hfr9
          clear hI9 hfr9
          have wtΓ_65_7665 : Γ_65 (40, 7666, 0) 7665 = Γ_55 (40, 7666, 0) 7665 := by rw [eΓ_65]; exact tg_i (by omega)
          have wsΓ_65 : Γ_65 (40, 7666, 0) ((7641 + 3 * Γ (40, 7666, 0) 7665 + 2).toNat) = p2.toInt := by rw [eΓ_65]; exact tg_s
          have hgr : ∀ κ : tk_K, κ.1 ∉ ([40] : List Nat) → Γ_65 κ = Γ κ := tg_fr hgr eΓ_65 (by decide)
          refine lv_aload_n hx hb dX12_house_94 rfl (lv_at hl 1 rfl) ?_
          refine tp_get (cy := cy) (ci := 12) (v := .ref (r_2 0)) (C := RX12) (T := TX12) (N := 49) hx hb hta inlX12 hown hK hP ho.1 ((tp_un hfr ho (by decide)).trans hf_1) rfl 0 (by decide) (hta _ wk_149) (fun _ h9 => h9) rfl dX12_house_95 ?_
          refine lv_sipush (v := 7665) hx hb dX12_house_98 (by decide) ?_
          refine lv_dup2_11 hx hb dX12_house_101 rfl rfl ?_
          obtain ⟨g_69, hf_68, hg_70⟩ := (show tp_gi cy (7666) (Γ_65 (40, 7666, 0)) (f_66 (r_2 0)) from hI.at (show tp_r L K 40 7666 0 (r_2 0) from hr_5 0 (by decide)))
          have hn_71 : vp_in 7665 (7666) := tl_in (by decide) (by decide)
          refine tp_iald (cy := cy) hx hb hK hP (show tp_r L K 40 7666 0 (r_2 0) from hr_5 0 (by decide)).1 hf_68 hn_71 dX12_house_102 ?_
          refine lv_topi (fun z_72 ez_72 => ?_)
          have iz_72 : z_72.toInt = Γ_65 (40, 7666, 0) 7665 := by rw [ez_72]; exact hg_70 _ (tp_pin hn_71)
          refine lv_iconst (v := 1) hx hb dX12_house_103 (by decide) ?_
          refine lv_iadd hx hb dX12_house_104 ?_
          refine lv_topi (fun z_73 ez_73 => ?_)
          try have iz_73 : z_73.toInt = z_72.toInt + (1 : Int) := by rw [ez_73]; exact tl_addN z_72 1 rfl rfl (by omega) (by omega)
          have hn_74 : vp_in 7665 (7666) := tl_in (by decide) (by decide)
          have hj_75 : (7665 : Int32).toNatClampNeg = 7665 := by decide
          have hv_76 : z_73.toInt = Γ (40, 7666, 0) 7665 + 1 := by omega
          obtain ⟨Γ_77, eΓ_77⟩ : ∃ y : tk_G, y = tg Γ_65 (40, 7666, 0) 7665 (Γ (40, 7666, 0) 7665 + 1) := ⟨_, rfl⟩
          have hI9 : tp_I cy L K Γ_77 (va_up f_66 (r_2 0) (.inl (cy 0, 7666, .inl (upd g_69 (7665 : Int32).toNatClampNeg z_73)))) := by have q9 : tg Γ_65 (40, 7666, 0) 7665 (Γ (40, 7666, 0) 7665 + 1) = tg Γ_65 (40, 7666, 0) (7665 : Int32).toNatClampNeg z_73.toInt := (by rw [hj_75, hv_76]); rw [eΓ_77, q9]; exact hI.setg hU rfl (show tp_r L K 40 7666 0 (r_2 0) from hr_5 0 (by decide)) (show tp_gi cy (7666) (tgu (Γ_65 (40, 7666, 0)) _ _) _ from ⟨_, rfl, tp_gi_upd hg_70⟩)
          have hfr9 : ∀ b, (K b).1 ∉ ([40] : List Nat) → va_up f_66 (r_2 0) (.inl (cy 0, 7666, .inl (upd g_69 (7665 : Int32).toNatClampNeg z_73))) b = f b := tp_fr hfr (show tp_r L K 40 7666 0 (r_2 0) from hr_5 0 (by decide)) (by decide)
          refine tp_iast (cy := cy) hx hb hK hP hD hS (show tp_r L K 40 7666 0 (r_2 0) from hr_5 0 (by decide)).1 hf_68 hn_74 dX12_house_105 (fun H locs hP hD hS => ?_)
          have hP : va_P D vwCl (va_pl L (va_up f_66 (r_2 0) (.inl (cy 0, 7666, .inl (upd g_69 (7665 : Int32).toNatClampNeg z_73))))) H := hP
          generalize hfe : va_up f_66 (r_2 0) (.inl (cy 0, 7666, .inl (upd g_69 (7665 : Int32).toNatClampNeg z_73))) = f_78 at hP hI9 hfr9
          have hD : va_D A (va_pl L f_78) := tp_D hL hAL
          have hf_79 : f_78 (r_2 0) = .inl (cy 0, 7666, .inl (upd g_69 (7665 : Int32).toNatClampNeg z_73)) := by rw [← hfe]; exact va_up_self _ _ _
          clear hfe
          have hI := hI9
          have hfr := hfr9
          clear hI9 hfr9
          have wsΓ_77 : Γ_77 (40, 7666, 0) 7665 = Γ (40, 7666, 0) 7665 + 1 := by rw [eΓ_77]; exact tg_s
          have hgr : ∀ κ : tk_K, κ.1 ∉ ([40] : List Nat) → Γ_77 κ = Γ κ := tg_fr hgr eΓ_77 (by decide)
          refine lv_aload_n hx hb dX12_house_106 rfl (lv_at hl 1 rfl) ?_
          refine tp_get (cy := cy) (ci := 12) (v := .ref (r_2 0)) (C := RX12) (T := TX12) (N := 49) hx hb hta inlX12 hown hK hP ho.1 ((tp_un hfr ho (by decide)).trans hf_1) rfl 0 (by decide) (hta _ wk_149) (fun _ h9 => h9) rfl dX12_house_107 ?_
          refine lv_sipush (v := 7665) hx hb dX12_house_110 (by decide) ?_
          obtain ⟨g_81, hf_80, hg_82⟩ := (show tp_gi cy (7666) (Γ_77 (40, 7666, 0)) (f_78 (r_2 0)) from hI.at (show tp_r L K 40 7666 0 (r_2 0) from hr_5 0 (by decide)))
          have hn_83 : vp_in 7665 (7666) := tl_in (by decide) (by decide)
          refine tp_iald (cy := cy) hx hb hK hP (show tp_r L K 40 7666 0 (r_2 0) from hr_5 0 (by decide)).1 hf_80 hn_83 dX12_house_113 ?_
          refine lv_topi (fun z_84 ez_84 => ?_)
          have iz_84 : z_84.toInt = Γ_77 (40, 7666, 0) 7665 := by rw [ez_84]; exact hg_82 _ (tp_pin hn_83)
          refine lv_iconst (v := 1) hx hb dX12_house_114 (by decide) ?_
          refine lv_isub hx hb dX12_house_115 ?_
          refine lv_topi (fun z_85 ez_85 => ?_)
          try have iz_85 : z_85.toInt = z_84.toInt - (1 : Int) := by rw [ez_85]; exact tl_subN z_84 1 rfl rfl (by omega) (by omega)
          have hpo9 : (z_85 : Int32).toInt = (if ¬ Γ (40, 7666, 0) 7665 = 8 ∧ (0 ≤ p0.toInt ∧ p0.toInt < Γ (42, 3, 0) 1) ∧ (-999999 ≤ p1.toInt ∧ p1.toInt ≤ 999999) ∧ 1 ≤ p2.toInt ∧ p2.toInt ≤ 15 then Γ (40, 7666, 0) 7665 else -1) ∧ Γ_77 (40, 7666, 0) = if ¬ Γ (40, 7666, 0) 7665 = 8 ∧ (0 ≤ p0.toInt ∧ p0.toInt < Γ (42, 3, 0) 1) ∧ (-999999 ≤ p1.toInt ∧ p1.toInt ≤ 999999) ∧ 1 ≤ p2.toInt ∧ p2.toInt ≤ 15 then tgu (tgu (tgu (tgu (Γ (40, 7666, 0)) (7641 + 3 * Γ (40, 7666, 0) 7665 + 0).toNat (p0.toInt)) (7641 + 3 * Γ (40, 7666, 0) 7665 + 1).toNat (p1.toInt)) (7641 + 3 * Γ (40, 7666, 0) 7665 + 2).toNat (p2.toInt)) 7665 (Γ (40, 7666, 0) 7665 + 1) else Γ (40, 7666, 0) := ⟨(by rw [if_pos (by omega)]; omega), (by rw [if_pos (by omega), eΓ_77, tg_f, eΓ_65, tg_f, eΓ_55, tg_f, eΓ_45, tg_f])⟩
          exact W.iret (v := z_85) hx hb hr (fun t ht hW => ⟨⟨_, (f_78, Γ_77), rfl, hpo9, by rw [ht]; exact hP, hI, hfr, hgr⟩, hS.F ht⟩) hS.2.2 dX12_house_116
        · have c_37 := hw_35.f c_37
          refine lv_iconst (v := (-1)) hx hb dX12_house_48 (by decide) ?_
          have hpo9 : ((-1) : Int32).toInt = (if ¬ Γ (40, 7666, 0) 7665 = 8 ∧ (0 ≤ p0.toInt ∧ p0.toInt < Γ (42, 3, 0) 1) ∧ (-999999 ≤ p1.toInt ∧ p1.toInt ≤ 999999) ∧ 1 ≤ p2.toInt ∧ p2.toInt ≤ 15 then Γ (40, 7666, 0) 7665 else -1) ∧ Γ (40, 7666, 0) = if ¬ Γ (40, 7666, 0) 7665 = 8 ∧ (0 ≤ p0.toInt ∧ p0.toInt < Γ (42, 3, 0) 1) ∧ (-999999 ≤ p1.toInt ∧ p1.toInt ≤ 999999) ∧ 1 ≤ p2.toInt ∧ p2.toInt ≤ 15 then tgu (tgu (tgu (tgu (Γ (40, 7666, 0)) (7641 + 3 * Γ (40, 7666, 0) 7665 + 0).toNat (p0.toInt)) (7641 + 3 * Γ (40, 7666, 0) 7665 + 1).toNat (p1.toInt)) (7641 + 3 * Γ (40, 7666, 0) 7665 + 2).toNat (p2.toInt)) 7665 (Γ (40, 7666, 0) 7665 + 1) else Γ (40, 7666, 0) := ⟨(by rw [if_neg (by omega)]; rfl), (by rw [if_neg (by omega)])⟩
          exact W.iret (v := (-1)) hx hb hr (fun t ht hW => ⟨⟨_, (f, Γ), rfl, hpo9, by rw [ht]; exact hP, hI, hfr, hgr⟩, hS.F ht⟩) hS.2.2 dX12_house_49
set_option maxHeartbeats 4000000 in
set_option maxRecDepth 100000 in
theorem r_X12_anew (l : Launch) (D : va_G) (cy : Nat → ClassId) (sz : Nat) (L : List Nat) (K : Nat → tk_K) (Γ : tk_G) (f : Nat → va_E) (o : Nat) (p0 : Int32) (p1 : Int32) (ho : tp_r L K 39 (0) 0 o) (hs : (0 ≤ Γ (40, 7666, 0) 1 ∧ Γ (40, 7666, 0) 1 ≤ 24) ∧ (0 ≤ Γ (40, 7666, 0) 2 ∧ Γ (40, 7666, 0) 2 ≤ 40) ∧ (0 ≤ Γ (40, 7666, 0) 3 ∧ Γ (40, 7666, 0) 3 ≤ 60) ∧ (0 ≤ Γ (40, 7666, 0) 4 ∧ Γ (40, 7666, 0) 4 ≤ 10) ∧ (0 ≤ Γ (40, 7666, 0) 7665 ∧ Γ (40, 7666, 0) 7665 ≤ 8)) : Met l yX12_anew (tl_w yX12_anew cX12_anew 4 (some .int)) ({ frames := 1, cells := 0, slots := 0, locals := 25 }) (va_Pc [.ref o, .int p0, .int p1] (tp_P D cy L K Γ f sz)) (va_Qi (fun (r : Int32) (u : (Nat → va_E) × tk_G) => r.toInt = (if (0 ≤ p0.toInt ∧ p0.toInt < Γ (40, 7666, 0) 2) ∧ -9999 ≤ p1.toInt ∧ p1.toInt ≤ 9999 then Γ (40, 7666, 0) (81 + 4 * p0.toInt + 3).toNat else -2000000) ∧ u.2 (40, 7666, 0) = if (0 ≤ p0.toInt ∧ p0.toInt < Γ (40, 7666, 0) 2) ∧ -9999 ≤ p1.toInt ∧ p1.toInt ≤ 9999 then tgu (Γ (40, 7666, 0)) (81 + 4 * p0.toInt + 3).toNat p1.toInt else Γ (40, 7666, 0)) (tp_BG D cy L K Γ f [40]) (tp_A L sz)) 0 0 (tp_A L sz) := by
  refine Met.ofW (cc := cX12_anew) (maxL := 4) (ret := (some .int)) (by decide) rfl ?_
  intro p e s m args below meth c s₁ B hml hv
  obtain ⟨rfl, hsz, hP, hK, hL, hI, hN, hU⟩ := hv
  have hx := B.exec
  have hb := B.bytes
  have hr := B.returns
  have hta := tl_hta (atoms_spec (ws := tl_w yX12_anew cX12_anew 4 (some .int)) B.pre)
  have hown : s.vm.findClass RX12 = some m.cls := findClass_of_methodNamed B.named
  have hlocks := B.notSynchronized
  subst hsz
  have hI0 := hI
  generalize hAe : tp_A L s.heap.size = A
  have hA : ∀ q : Nat, s.heap.size ≤ q → A q := fun q h => by rw [← hAe]; exact Or.inr h
  have hAL : ∀ q ∈ L, A q := fun q h => by rw [← hAe]; exact Or.inl h
  have hAf : ∀ (H : Heap), s.heap.size ≤ H.size → ∀ q, tp_A L H.size q → A q := fun H h q hq => hq.elim (hAL q) (fun h2 => hA q (Nat.le_trans h h2))
  have hS : va_S A s.heap s.heap [] := va_S.rf
  have hD : va_D A (va_pl L f) := tp_D hL hAL
  have hfr : ∀ b, (K b).1 ∉ ([40] : List Nat) → f b = f b := fun _ _ => rfl
  have hgr : ∀ κ : tk_K, κ.1 ∉ ([40] : List Nat) → Γ κ = Γ κ := fun _ _ => rfl
  have hl := lv_entry ([.ref o, .int p0, .int p1]) (n := 4) (Nat.le_of_ble_eq_true rfl)
  rw [lg_entry_eq]
  generalize (lg_sl ([.ref o, .int p0, .int p1]) ++ List.replicate (4 - (lg_sl ([.ref o, .int p0, .int p1])).length) Slot.unset).toArray = ls at hl ⊢
  have hl : lv_has ls 4 [(0, .ref o), (1, .int p0), (2, .int p1)] := hl
  refine lv_iload_n hx hb dX12_anew_0 rfl (lv_at hl 1 rfl) ?_
  refine lv_i2l (v := p0.toInt64) hx hb dX12_anew_1 (by first | rfl | decide) ?_
  refine lv_lconst (v := 0) hx hb dX12_anew_2 (by decide) ?_
  refine lv_aload_n hx hb dX12_anew_3 rfl (lv_at hl 0 rfl) ?_
  obtain ⟨r_2, v_3, q_4, hf_1, hr_5, hv_6⟩ := (show tp_o_M L K 0 0 (Γ (39, 0, 0)) (f o) from hI0.at ho)
  refine tp_get (cy := cy) (ci := 12) (v := .ref (r_2 0)) (C := RX12) (T := TX12) (N := 49) hx hb hta inlX12 hown hK hP ho.1 hf_1 rfl 0 (by decide) (hta _ wk_149) (fun _ h9 => h9) rfl dX12_anew_4 ?_
  refine lv_iconst (v := 2) hx hb dX12_anew_7 (by decide) ?_
  obtain ⟨g_24, hf_23, hg_25⟩ := (show tp_gi cy (7666) (Γ (40, 7666, 0)) (f (r_2 0)) from hI.at (show tp_r L K 40 7666 0 (r_2 0) from hr_5 0 (by decide)))
  have hn_26 : vp_in 2 (7666) := tl_in (by decide) (by decide)
  refine tp_iald (cy := cy) hx hb hK hP (show tp_r L K 40 7666 0 (r_2 0) from hr_5 0 (by decide)).1 hf_23 hn_26 dX12_anew_8 ?_
  refine lv_topi (fun z_27 ez_27 => ?_)
  have iz_27 : z_27.toInt = Γ (40, 7666, 0) 2 := by rw [ez_27]; exact hg_25 _ (tp_pin hn_26)
  refine lv_iconst (v := 1) hx hb dX12_anew_9 (by decide) ?_
  refine lv_isub hx hb dX12_anew_10 ?_
  refine lv_topi (fun z_28 ez_28 => ?_)
  try have iz_28 : z_28.toInt = z_27.toInt - (1 : Int) := by rw [ez_28]; exact tl_subN z_27 1 rfl rfl (by omega) (by omega)
  refine lv_i2l (v := z_28.toInt64) hx hb dX12_anew_11 (by first | rfl | decide) ?_
  refine tl_si (tq_rS (As := [.long p0.toInt64, .long 0, .long z_28.toInt64]) (rest := []) ⟨hx, hb, hml, hown, hta⟩ (tp_P.pre hK hN hL hU hI hP) lk_X12_112 (r_X12_in l D cy s.heap.size L K Γ f p0.toInt64 0 z_28.toInt64 ) rfl rfl ⟨Nat.le_of_ble_eq_true rfl, Nat.le_of_ble_eq_true rfl⟩ rfl hl.1 rfl (Nat.le_of_ble_eq_true rfl) dX12_anew_12 ⟨Nat.le_of_ble_eq_true rfl, Nat.le_of_ble_eq_true rfl⟩) (fun r_30 hw_29 => ?_)
  simp only [Int32.toInt_toInt64] at hw_29
  have hw_29 : tl_E r_30 ((0 : Int) ≤ p0.toInt ∧ p0.toInt ≤ z_28.toInt) 1 0 := hw_29
  refine lv_if_eq (tgt := 32) hx hb dX12_anew_15 (by decide) (fun c_31 => ?_) (fun c_31 => ?_)
  · have c_31 := hw_29.f c_31
    refine lv_ldc (v := (-2000000)) hx hb hown (hta _ wk_248) dX12_anew_32 ?_
    have hpo9 : ((-2000000) : Int32).toInt = (if (0 ≤ p0.toInt ∧ p0.toInt < Γ (40, 7666, 0) 2) ∧ -9999 ≤ p1.toInt ∧ p1.toInt ≤ 9999 then Γ (40, 7666, 0) (81 + 4 * p0.toInt + 3).toNat else -2000000) ∧ Γ (40, 7666, 0) = if (0 ≤ p0.toInt ∧ p0.toInt < Γ (40, 7666, 0) 2) ∧ -9999 ≤ p1.toInt ∧ p1.toInt ≤ 9999 then tgu (Γ (40, 7666, 0)) (81 + 4 * p0.toInt + 3).toNat p1.toInt else Γ (40, 7666, 0) := ⟨(by rw [if_neg (by omega)]; rfl), (by rw [if_neg (by omega)])⟩
    exact W.iret (v := (-2000000)) hx hb hr (fun t ht hW => ⟨⟨_, (f, Γ), rfl, hpo9, by rw [ht]; exact hP, hI, hfr, hgr⟩, hS.F ht⟩) hS.2.2 dX12_anew_34
  · have c_31 := hw_29.t c_31
    refine lv_iload_n hx hb dX12_anew_18 rfl (lv_at hl 2 rfl) ?_
    refine lv_i2l (v := p1.toInt64) hx hb dX12_anew_19 (by first | rfl | decide) ?_
    refine lv_ldc2 (v := (-9999)) hx hb hown (hta _ wk_301) dX12_anew_20 ?_
    refine lv_ldc2 (v := 9999) hx hb hown (hta _ wk_302) dX12_anew_23 ?_
    refine tl_si (tq_rS (As := [.long p1.toInt64, .long (-9999), .long 9999]) (rest := []) ⟨hx, hb, hml, hown, hta⟩ (tp_P.pre hK hN hL hU hI hP) lk_X12_112 (r_X12_in l D cy s.heap.size L K Γ f p1.toInt64 (-9999) 9999 ) rfl rfl ⟨Nat.le_of_ble_eq_true rfl, Nat.le_of_ble_eq_true rfl⟩ rfl hl.1 rfl (Nat.le_of_ble_eq_true rfl) dX12_anew_26 ⟨Nat.le_of_ble_eq_true rfl, Nat.le_of_ble_eq_true rfl⟩) (fun r_33 hw_32 => ?_)
    simp only [Int32.toInt_toInt64] at hw_32
    have hw_32 : tl_E r_33 ((-9999 : Int) ≤ p1.toInt ∧ p1.toInt ≤ (9999 : Int)) 1 0 := hw_32
    refine lv_if_ne (tgt := 35) hx hb dX12_anew_29 (by decide) (fun c_34 => ?_) (fun c_34 => ?_)
    · have c_34 := hw_32.t c_34
      refine lv_aload_n hx hb dX12_anew_35 rfl (lv_at hl 0 rfl) ?_
      refine tp_get (cy := cy) (ci := 12) (v := .ref (r_2 0)) (C := RX12) (T := TX12) (N := 49) hx hb hta inlX12 hown hK hP ho.1 hf_1 rfl 0 (by decide) (hta _ wk_149) (fun _ h9 => h9) rfl dX12_anew_36 ?_
      refine lv_bipush (v := 81) hx hb dX12_anew_39 (by decide) ?_
      refine lv_iconst (v := 4) hx hb dX12_anew_41 (by decide) ?_
      refine lv_iload_n hx hb dX12_anew_42 rfl (lv_at hl 1 rfl) ?_
      refine lv_imul hx hb dX12_anew_43 ?_
      refine lv_topi (fun z_35 ez_35 => ?_)
      try have iz_35 : z_35.toInt = (4 : Int) * p0.toInt := by rw [ez_35]; exact tl_mulN 4 p0 rfl rfl (by omega) (by omega)
      refine lv_iadd hx hb dX12_anew_44 ?_
      refine lv_topi (fun z_36 ez_36 => ?_)
      try have iz_36 : z_36.toInt = (81 : Int) + z_35.toInt := by rw [ez_36]; exact tl_addN 81 z_35 rfl rfl (by omega) (by omega)
      refine lv_iconst (v := 3) hx hb dX12_anew_45 (by decide) ?_
      refine lv_iadd hx hb dX12_anew_46 ?_
      refine lv_topi (fun z_37 ez_37 => ?_)
      try have iz_37 : z_37.toInt = z_36.toInt + (3 : Int) := by rw [ez_37]; exact tl_addN z_36 3 rfl rfl (by omega) (by omega)
      have hn_38 : vp_in z_37 (7666) := tl_in (by omega) (by omega)
      refine tp_iald (cy := cy) hx hb hK hP (show tp_r L K 40 7666 0 (r_2 0) from hr_5 0 (by decide)).1 hf_23 hn_38 dX12_anew_47 ?_
      refine lv_topi (fun z_39 ez_39 => ?_)
      have iz_39 : z_39.toInt = Γ (40, 7666, 0) z_37.toInt.toNat := by rw [ez_39]; exact hg_25 _ (tp_pin hn_38)
      refine lv_istore_n (lv' := [(3, .int z_39), (0, .ref o), (1, .int p0), (2, .int p1)]) hx hb dX12_anew_48 rfl hl (by decide) rfl (fun ls hl => ?_)
      refine lv_aload_n hx hb dX12_anew_49 rfl (lv_at hl 1 rfl) ?_
      refine tp_get (cy := cy) (ci := 12) (v := .ref (r_2 0)) (C := RX12) (T := TX12) (N := 49) hx hb hta inlX12 hown hK hP ho.1 hf_1 rfl 0 (by decide) (hta _ wk_149) (fun _ h9 => h9) rfl dX12_anew_50 ?_
      refine lv_bipush (v := 81) hx hb dX12_anew_53 (by decide) ?_
      refine lv_iconst (v := 4) hx hb dX12_anew_55 (by decide) ?_
      refine lv_iload_n hx hb dX12_anew_56 rfl (lv_at hl 2 rfl) ?_
      refine lv_imul hx hb dX12_anew_57 ?_
      refine lv_topi (fun z_40 ez_40 => ?_)
      try have iz_40 : z_40.toInt = (4 : Int) * p0.toInt := by rw [ez_40]; exact tl_mulN 4 p0 rfl rfl (by omega) (by omega)
      refine lv_iadd hx hb dX12_anew_58 ?_
      refine lv_topi (fun z_41 ez_41 => ?_)
      try have iz_41 : z_41.toInt = (81 : Int) + z_40.toInt := by rw [ez_41]; exact tl_addN 81 z_40 rfl rfl (by omega) (by omega)
      refine lv_iconst (v := 3) hx hb dX12_anew_59 (by decide) ?_
      refine lv_iadd hx hb dX12_anew_60 ?_
      refine lv_topi (fun z_42 ez_42 => ?_)
      try have iz_42 : z_42.toInt = z_41.toInt + (3 : Int) := by rw [ez_42]; exact tl_addN z_41 3 rfl rfl (by omega) (by omega)
      refine lv_iload_n hx hb dX12_anew_61 rfl (lv_at hl 3 rfl) ?_
      have hn_43 : vp_in z_42 (7666) := tl_in (by omega) (by omega)
      have hj_44 : z_42.toNatClampNeg = (81 + 4 * p0.toInt + 3).toNat := by show z_42.toInt.toNat = _; omega
      have hv_45 : p1.toInt = p1.toInt := rfl
      obtain ⟨Γ_46, eΓ_46⟩ : ∃ y : tk_G, y = tg Γ (40, 7666, 0) ((81 + 4 * p0.toInt + 3).toNat) p1.toInt := ⟨_, rfl⟩
      have hI9 : tp_I cy L K Γ_46 (va_up f (r_2 0) (.inl (cy 0, 7666, .inl (upd g_24 z_42.toNatClampNeg p1)))) := by have q9 : tg Γ (40, 7666, 0) ((81 + 4 * p0.toInt + 3).toNat) p1.toInt = tg Γ (40, 7666, 0) z_42.toNatClampNeg p1.toInt := (by rw [hj_44, hv_45]); rw [eΓ_46, q9]; exact hI.setg hU rfl (show tp_r L K 40 7666 0 (r_2 0) from hr_5 0 (by decide)) (show tp_gi cy (7666) (tgu (Γ (40, 7666, 0)) _ _) _ from ⟨_, rfl, tp_gi_upd hg_25⟩)
      have hfr9 : ∀ b, (K b).1 ∉ ([40] : List Nat) → va_up f (r_2 0) (.inl (cy 0, 7666, .inl (upd g_24 z_42.toNatClampNeg p1))) b = f b := tp_fr hfr (show tp_r L K 40 7666 0 (r_2 0) from hr_5 0 (by decide)) (by decide)
      refine tp_iast (cy := cy) hx hb hK hP hD hS (show tp_r L K 40 7666 0 (r_2 0) from hr_5 0 (by decide)).1 hf_23 hn_43 dX12_anew_62 (fun H locs hP hD hS => ?_)
      have hP : va_P D vwCl (va_pl L (va_up f (r_2 0) (.inl (cy 0, 7666, .inl (upd g_24 z_42.toNatClampNeg p1))))) H := hP
      generalize hfe : va_up f (r_2 0) (.inl (cy 0, 7666, .inl (upd g_24 z_42.toNatClampNeg p1))) = f_47 at hP hI9 hfr9
      have hD : va_D A (va_pl L f_47) := tp_D hL hAL
      have hf_48 : f_47 (r_2 0) = .inl (cy 0, 7666, .inl (upd g_24 z_42.toNatClampNeg p1)) := by rw [← hfe]; exact va_up_self _ _ _
      clear hfe
      have hI := hI9
      have hfr := hfr9
      clear hI9 hfr9
      have wsΓ_46 : Γ_46 (40, 7666, 0) ((81 + 4 * p0.toInt + 3).toNat) = p1.toInt := by rw [eΓ_46]; exact tg_s
      have hgr : ∀ κ : tk_K, κ.1 ∉ ([40] : List Nat) → Γ_46 κ = Γ κ := tg_fr hgr eΓ_46 (by decide)
      refine lv_iload_n hx hb dX12_anew_63 rfl (lv_at hl 0 rfl) ?_
      have hpo9 : (z_39 : Int32).toInt = (if (0 ≤ p0.toInt ∧ p0.toInt < Γ (40, 7666, 0) 2) ∧ -9999 ≤ p1.toInt ∧ p1.toInt ≤ 9999 then Γ (40, 7666, 0) (81 + 4 * p0.toInt + 3).toNat else -2000000) ∧ Γ_46 (40, 7666, 0) = if (0 ≤ p0.toInt ∧ p0.toInt < Γ (40, 7666, 0) 2) ∧ -9999 ≤ p1.toInt ∧ p1.toInt ≤ 9999 then tgu (Γ (40, 7666, 0)) (81 + 4 * p0.toInt + 3).toNat p1.toInt else Γ (40, 7666, 0) := ⟨(by rw [if_pos (by omega)]; exact iz_39.trans (congrArg _ (by omega))), (by rw [if_pos (by omega), eΓ_46, tg_f])⟩
      exact W.iret (v := z_39) hx hb hr (fun t ht hW => ⟨⟨_, (f_47, Γ_46), rfl, hpo9, by rw [ht]; exact hP, hI, hfr, hgr⟩, hS.F ht⟩) hS.2.2 dX12_anew_64
    · have c_34 := hw_32.f c_34
      refine lv_ldc (v := (-2000000)) hx hb hown (hta _ wk_248) dX12_anew_32 ?_
      have hpo9 : ((-2000000) : Int32).toInt = (if (0 ≤ p0.toInt ∧ p0.toInt < Γ (40, 7666, 0) 2) ∧ -9999 ≤ p1.toInt ∧ p1.toInt ≤ 9999 then Γ (40, 7666, 0) (81 + 4 * p0.toInt + 3).toNat else -2000000) ∧ Γ (40, 7666, 0) = if (0 ≤ p0.toInt ∧ p0.toInt < Γ (40, 7666, 0) 2) ∧ -9999 ≤ p1.toInt ∧ p1.toInt ≤ 9999 then tgu (Γ (40, 7666, 0)) (81 + 4 * p0.toInt + 3).toNat p1.toInt else Γ (40, 7666, 0) := ⟨(by rw [if_neg (by omega)]; rfl), (by rw [if_neg (by omega)])⟩
      exact W.iret (v := (-2000000)) hx hb hr (fun t ht hW => ⟨⟨_, (f, Γ), rfl, hpo9, by rw [ht]; exact hP, hI, hfr, hgr⟩, hS.F ht⟩) hS.2.2 dX12_anew_34
set_option maxHeartbeats 4000000 in
set_option maxRecDepth 100000 in
theorem r_X12_told (l : Launch) (D : va_G) (cy : Nat → ClassId) (sz : Nat) (L : List Nat) (K : Nat → tk_K) (Γ : tk_G) (f : Nat → va_E) (o : Nat) (p0 : Int32) (p1 : Int32) (ho : tp_r L K 39 (0) 0 o) : Met l yX12_told (tl_w yX12_told cX12_told 4 (some .int)) ({ frames := 1, cells := 0, slots := 0, locals := 25 }) (va_Pc [.ref o, .int p0, .int p1] (tp_P D cy L K Γ f sz)) (va_Qi (fun (r : Int32) (u : (Nat → va_E) × tk_G) => r.toInt = (if (0 ≤ p0.toInt ∧ p0.toInt ≤ 3) ∧ 0 ≤ p1.toInt ∧ p1.toInt ≤ 9999 then Γ (40, 7666, 0) (5 + p0.toInt).toNat else -1) ∧ u.2 (40, 7666, 0) = if (0 ≤ p0.toInt ∧ p0.toInt ≤ 3) ∧ 0 ≤ p1.toInt ∧ p1.toInt ≤ 9999 then tgu (Γ (40, 7666, 0)) (5 + p0.toInt).toNat p1.toInt else Γ (40, 7666, 0)) (tp_BG D cy L K Γ f [40]) (tp_A L sz)) 0 0 (tp_A L sz) := by
  refine Met.ofW (cc := cX12_told) (maxL := 4) (ret := (some .int)) (by decide) rfl ?_
  intro p e s m args below meth c s₁ B hml hv
  obtain ⟨rfl, hsz, hP, hK, hL, hI, hN, hU⟩ := hv
  have hx := B.exec
  have hb := B.bytes
  have hr := B.returns
  have hta := tl_hta (atoms_spec (ws := tl_w yX12_told cX12_told 4 (some .int)) B.pre)
  have hown : s.vm.findClass RX12 = some m.cls := findClass_of_methodNamed B.named
  have hlocks := B.notSynchronized
  subst hsz
  have hI0 := hI
  generalize hAe : tp_A L s.heap.size = A
  have hA : ∀ q : Nat, s.heap.size ≤ q → A q := fun q h => by rw [← hAe]; exact Or.inr h
  have hAL : ∀ q ∈ L, A q := fun q h => by rw [← hAe]; exact Or.inl h
  have hAf : ∀ (H : Heap), s.heap.size ≤ H.size → ∀ q, tp_A L H.size q → A q := fun H h q hq => hq.elim (hAL q) (fun h2 => hA q (Nat.le_trans h h2))
  have hS : va_S A s.heap s.heap [] := va_S.rf
  have hD : va_D A (va_pl L f) := tp_D hL hAL
  have hfr : ∀ b, (K b).1 ∉ ([40] : List Nat) → f b = f b := fun _ _ => rfl
  have hgr : ∀ κ : tk_K, κ.1 ∉ ([40] : List Nat) → Γ κ = Γ κ := fun _ _ => rfl
  have hl := lv_entry ([.ref o, .int p0, .int p1]) (n := 4) (Nat.le_of_ble_eq_true rfl)
  rw [lg_entry_eq]
  generalize (lg_sl ([.ref o, .int p0, .int p1]) ++ List.replicate (4 - (lg_sl ([.ref o, .int p0, .int p1])).length) Slot.unset).toArray = ls at hl ⊢
  have hl : lv_has ls 4 [(0, .ref o), (1, .int p0), (2, .int p1)] := hl
  refine lv_iload_n hx hb dX12_told_0 rfl (lv_at hl 1 rfl) ?_
  refine lv_i2l (v := p0.toInt64) hx hb dX12_told_1 (by first | rfl | decide) ?_
  refine lv_lconst (v := 0) hx hb dX12_told_2 (by decide) ?_
  refine lv_ldc2 (v := 3) hx hb hown (hta _ wk_221) dX12_told_3 ?_
  refine tl_si (tq_rS (As := [.long p0.toInt64, .long 0, .long 3]) (rest := []) ⟨hx, hb, hml, hown, hta⟩ (tp_P.pre hK hN hL hU hI hP) lk_X12_112 (r_X12_in l D cy s.heap.size L K Γ f p0.toInt64 0 3 ) rfl rfl ⟨Nat.le_of_ble_eq_true rfl, Nat.le_of_ble_eq_true rfl⟩ rfl hl.1 rfl (Nat.le_of_ble_eq_true rfl) dX12_told_6 ⟨Nat.le_of_ble_eq_true rfl, Nat.le_of_ble_eq_true rfl⟩) (fun r_2 hw_1 => ?_)
  simp only [Int32.toInt_toInt64] at hw_1
  have hw_1 : tl_E r_2 ((0 : Int) ≤ p0.toInt ∧ p0.toInt ≤ (3 : Int)) 1 0 := hw_1
  refine lv_if_eq (tgt := 24) hx hb dX12_told_9 (by decide) (fun c_3 => ?_) (fun c_3 => ?_)
  · have c_3 := hw_1.f c_3
    refine lv_iconst (v := (-1)) hx hb dX12_told_24 (by decide) ?_
    have hpo9 : ((-1) : Int32).toInt = (if (0 ≤ p0.toInt ∧ p0.toInt ≤ 3) ∧ 0 ≤ p1.toInt ∧ p1.toInt ≤ 9999 then Γ (40, 7666, 0) (5 + p0.toInt).toNat else -1) ∧ Γ (40, 7666, 0) = if (0 ≤ p0.toInt ∧ p0.toInt ≤ 3) ∧ 0 ≤ p1.toInt ∧ p1.toInt ≤ 9999 then tgu (Γ (40, 7666, 0)) (5 + p0.toInt).toNat p1.toInt else Γ (40, 7666, 0) := ⟨(by rw [if_neg (by omega)]; rfl), (by rw [if_neg (by omega)])⟩
    exact W.iret (v := (-1)) hx hb hr (fun t ht hW => ⟨⟨_, (f, Γ), rfl, hpo9, by rw [ht]; exact hP, hI, hfr, hgr⟩, hS.F ht⟩) hS.2.2 dX12_told_25
  · have c_3 := hw_1.t c_3
    refine lv_iload_n hx hb dX12_told_12 rfl (lv_at hl 2 rfl) ?_
    refine lv_i2l (v := p1.toInt64) hx hb dX12_told_13 (by first | rfl | decide) ?_
    refine lv_lconst (v := 0) hx hb dX12_told_14 (by decide) ?_
    refine lv_ldc2 (v := 9999) hx hb hown (hta _ wk_302) dX12_told_15 ?_
    refine tl_si (tq_rS (As := [.long p1.toInt64, .long 0, .long 9999]) (rest := []) ⟨hx, hb, hml, hown, hta⟩ (tp_P.pre hK hN hL hU hI hP) lk_X12_112 (r_X12_in l D cy s.heap.size L K Γ f p1.toInt64 0 9999 ) rfl rfl ⟨Nat.le_of_ble_eq_true rfl, Nat.le_of_ble_eq_true rfl⟩ rfl hl.1 rfl (Nat.le_of_ble_eq_true rfl) dX12_told_18 ⟨Nat.le_of_ble_eq_true rfl, Nat.le_of_ble_eq_true rfl⟩) (fun r_5 hw_4 => ?_)
    simp only [Int32.toInt_toInt64] at hw_4
    have hw_4 : tl_E r_5 ((0 : Int) ≤ p1.toInt ∧ p1.toInt ≤ (9999 : Int)) 1 0 := hw_4
    refine lv_if_ne (tgt := 26) hx hb dX12_told_21 (by decide) (fun c_6 => ?_) (fun c_6 => ?_)
    · have c_6 := hw_4.t c_6
      refine lv_aload_n hx hb dX12_told_26 rfl (lv_at hl 0 rfl) ?_
      obtain ⟨r_8, v_9, q_10, hf_7, hr_11, hv_12⟩ := (show tp_o_M L K 0 0 (Γ (39, 0, 0)) (f o) from hI0.at ho)
      refine tp_get (cy := cy) (ci := 12) (v := .ref (r_8 0)) (C := RX12) (T := TX12) (N := 49) hx hb hta inlX12 hown hK hP ho.1 hf_7 rfl 0 (by decide) (hta _ wk_149) (fun _ h9 => h9) rfl dX12_told_27 ?_
      refine lv_iconst (v := 5) hx hb dX12_told_30 (by decide) ?_
      refine lv_iload_n hx hb dX12_told_31 rfl (lv_at hl 1 rfl) ?_
      refine lv_iadd hx hb dX12_told_32 ?_
      refine lv_topi (fun z_29 ez_29 => ?_)
      try have iz_29 : z_29.toInt = (5 : Int) + p0.toInt := by rw [ez_29]; exact tl_addN 5 p0 rfl rfl (by omega) (by omega)
      obtain ⟨g_31, hf_30, hg_32⟩ := (show tp_gi cy (7666) (Γ (40, 7666, 0)) (f (r_8 0)) from hI.at (show tp_r L K 40 7666 0 (r_8 0) from hr_11 0 (by decide)))
      have hn_33 : vp_in z_29 (7666) := tl_in (by omega) (by omega)
      refine tp_iald (cy := cy) hx hb hK hP (show tp_r L K 40 7666 0 (r_8 0) from hr_11 0 (by decide)).1 hf_30 hn_33 dX12_told_33 ?_
      refine lv_topi (fun z_34 ez_34 => ?_)
      have iz_34 : z_34.toInt = Γ (40, 7666, 0) z_29.toInt.toNat := by rw [ez_34]; exact hg_32 _ (tp_pin hn_33)
      refine lv_istore_n (lv' := [(3, .int z_34), (0, .ref o), (1, .int p0), (2, .int p1)]) hx hb dX12_told_34 rfl hl (by decide) rfl (fun ls hl => ?_)
      refine lv_aload_n hx hb dX12_told_35 rfl (lv_at hl 1 rfl) ?_
      refine tp_get (cy := cy) (ci := 12) (v := .ref (r_8 0)) (C := RX12) (T := TX12) (N := 49) hx hb hta inlX12 hown hK hP ho.1 hf_7 rfl 0 (by decide) (hta _ wk_149) (fun _ h9 => h9) rfl dX12_told_36 ?_
      refine lv_iconst (v := 5) hx hb dX12_told_39 (by decide) ?_
      refine lv_iload_n hx hb dX12_told_40 rfl (lv_at hl 2 rfl) ?_
      refine lv_iadd hx hb dX12_told_41 ?_
      refine lv_topi (fun z_35 ez_35 => ?_)
      try have iz_35 : z_35.toInt = (5 : Int) + p0.toInt := by rw [ez_35]; exact tl_addN 5 p0 rfl rfl (by omega) (by omega)
      refine lv_iload_n hx hb dX12_told_42 rfl (lv_at hl 3 rfl) ?_
      have hn_36 : vp_in z_35 (7666) := tl_in (by omega) (by omega)
      have hj_37 : z_35.toNatClampNeg = (5 + p0.toInt).toNat := by show z_35.toInt.toNat = _; omega
      have hv_38 : p1.toInt = p1.toInt := rfl
      obtain ⟨Γ_39, eΓ_39⟩ : ∃ y : tk_G, y = tg Γ (40, 7666, 0) ((5 + p0.toInt).toNat) p1.toInt := ⟨_, rfl⟩
      have hI9 : tp_I cy L K Γ_39 (va_up f (r_8 0) (.inl (cy 0, 7666, .inl (upd g_31 z_35.toNatClampNeg p1)))) := by have q9 : tg Γ (40, 7666, 0) ((5 + p0.toInt).toNat) p1.toInt = tg Γ (40, 7666, 0) z_35.toNatClampNeg p1.toInt := (by rw [hj_37, hv_38]); rw [eΓ_39, q9]; exact hI.setg hU rfl (show tp_r L K 40 7666 0 (r_8 0) from hr_11 0 (by decide)) (show tp_gi cy (7666) (tgu (Γ (40, 7666, 0)) _ _) _ from ⟨_, rfl, tp_gi_upd hg_32⟩)
      have hfr9 : ∀ b, (K b).1 ∉ ([40] : List Nat) → va_up f (r_8 0) (.inl (cy 0, 7666, .inl (upd g_31 z_35.toNatClampNeg p1))) b = f b := tp_fr hfr (show tp_r L K 40 7666 0 (r_8 0) from hr_11 0 (by decide)) (by decide)
      refine tp_iast (cy := cy) hx hb hK hP hD hS (show tp_r L K 40 7666 0 (r_8 0) from hr_11 0 (by decide)).1 hf_30 hn_36 dX12_told_43 (fun H locs hP hD hS => ?_)
      have hP : va_P D vwCl (va_pl L (va_up f (r_8 0) (.inl (cy 0, 7666, .inl (upd g_31 z_35.toNatClampNeg p1))))) H := hP
      generalize hfe : va_up f (r_8 0) (.inl (cy 0, 7666, .inl (upd g_31 z_35.toNatClampNeg p1))) = f_40 at hP hI9 hfr9
      have hD : va_D A (va_pl L f_40) := tp_D hL hAL
      have hf_41 : f_40 (r_8 0) = .inl (cy 0, 7666, .inl (upd g_31 z_35.toNatClampNeg p1)) := by rw [← hfe]; exact va_up_self _ _ _
      clear hfe
      have hI := hI9
      have hfr := hfr9
      clear hI9 hfr9
      have wsΓ_39 : Γ_39 (40, 7666, 0) ((5 + p0.toInt).toNat) = p1.toInt := by rw [eΓ_39]; exact tg_s
      have hgr : ∀ κ : tk_K, κ.1 ∉ ([40] : List Nat) → Γ_39 κ = Γ κ := tg_fr hgr eΓ_39 (by decide)
      refine lv_iload_n hx hb dX12_told_44 rfl (lv_at hl 0 rfl) ?_
      have hpo9 : (z_34 : Int32).toInt = (if (0 ≤ p0.toInt ∧ p0.toInt ≤ 3) ∧ 0 ≤ p1.toInt ∧ p1.toInt ≤ 9999 then Γ (40, 7666, 0) (5 + p0.toInt).toNat else -1) ∧ Γ_39 (40, 7666, 0) = if (0 ≤ p0.toInt ∧ p0.toInt ≤ 3) ∧ 0 ≤ p1.toInt ∧ p1.toInt ≤ 9999 then tgu (Γ (40, 7666, 0)) (5 + p0.toInt).toNat p1.toInt else Γ (40, 7666, 0) := ⟨(by rw [if_pos (by omega)]; exact iz_34.trans (congrArg _ (by omega))), (by rw [if_pos (by omega), eΓ_39, tg_f])⟩
      exact W.iret (v := z_34) hx hb hr (fun t ht hW => ⟨⟨_, (f_40, Γ_39), rfl, hpo9, by rw [ht]; exact hP, hI, hfr, hgr⟩, hS.F ht⟩) hS.2.2 dX12_told_45
    · have c_6 := hw_4.f c_6
      refine lv_iconst (v := (-1)) hx hb dX12_told_24 (by decide) ?_
      have hpo9 : ((-1) : Int32).toInt = (if (0 ≤ p0.toInt ∧ p0.toInt ≤ 3) ∧ 0 ≤ p1.toInt ∧ p1.toInt ≤ 9999 then Γ (40, 7666, 0) (5 + p0.toInt).toNat else -1) ∧ Γ (40, 7666, 0) = if (0 ≤ p0.toInt ∧ p0.toInt ≤ 3) ∧ 0 ≤ p1.toInt ∧ p1.toInt ≤ 9999 then tgu (Γ (40, 7666, 0)) (5 + p0.toInt).toNat p1.toInt else Γ (40, 7666, 0) := ⟨(by rw [if_neg (by omega)]; rfl), (by rw [if_neg (by omega)])⟩
      exact W.iret (v := (-1)) hx hb hr (fun t ht hW => ⟨⟨_, (f, Γ), rfl, hpo9, by rw [ht]; exact hP, hI, hfr, hgr⟩, hS.F ht⟩) hS.2.2 dX12_told_25
set_option maxHeartbeats 4000000 in
set_option maxRecDepth 100000 in
theorem r_X12_raw (l : Launch) (D : va_G) (cy : Nat → ClassId) (sz : Nat) (L : List Nat) (K : Nat → tk_K) (Γ : tk_G) (f : Nat → va_E) (o : Nat) (p0 : Int32) (p1 : Int32) (p2 : Int32) (ho : tp_r L K 39 (0) 0 o) (hs : (0 ≤ Γ (40, 7666, 0) 1 ∧ Γ (40, 7666, 0) 1 ≤ 24) ∧ (0 ≤ Γ (40, 7666, 0) 2 ∧ Γ (40, 7666, 0) 2 ≤ 40) ∧ (0 ≤ Γ (40, 7666, 0) 3 ∧ Γ (40, 7666, 0) 3 ≤ 60) ∧ (0 ≤ Γ (40, 7666, 0) 4 ∧ Γ (40, 7666, 0) 4 ≤ 10) ∧ (0 ≤ Γ (40, 7666, 0) 7665 ∧ Γ (40, 7666, 0) 7665 ≤ 8)) : Met l yX12_raw (tl_w yX12_raw cX12_raw 5 (some .int)) ({ frames := 1, cells := 0, slots := 0, locals := 25 }) (va_Pc [.ref o, .int p0, .int p1, .int p2] (tp_P D cy L K Γ f sz)) (va_Qi (fun (r : Int32) (u : (Nat → va_E) × tk_G) => u.2 (40, 7666, 0) = if (0 ≤ p0.toInt ∧ p0.toInt < Γ (40, 7666, 0) 1) ∧ (0 ≤ p1.toInt ∧ p1.toInt ≤ 299) ∧ (p2.toInt = -1000000 ∨ (-100000 ≤ p2.toInt ∧ p2.toInt ≤ 100000)) then tgu (Γ (40, 7666, 0)) (441 + 300 * p0.toInt + p1.toInt).toNat p2.toInt else Γ (40, 7666, 0)) (tp_BG D cy L K Γ f [40]) (tp_A L sz)) 0 0 (tp_A L sz) := by
  refine Met.ofW (cc := cX12_raw) (maxL := 5) (ret := (some .int)) (by decide) rfl ?_
  intro p e s m args below meth c s₁ B hml hv
  obtain ⟨rfl, hsz, hP, hK, hL, hI, hN, hU⟩ := hv
  have hx := B.exec
  have hb := B.bytes
  have hr := B.returns
  have hta := tl_hta (atoms_spec (ws := tl_w yX12_raw cX12_raw 5 (some .int)) B.pre)
  have hown : s.vm.findClass RX12 = some m.cls := findClass_of_methodNamed B.named
  have hlocks := B.notSynchronized
  subst hsz
  have hI0 := hI
  generalize hAe : tp_A L s.heap.size = A
  have hA : ∀ q : Nat, s.heap.size ≤ q → A q := fun q h => by rw [← hAe]; exact Or.inr h
  have hAL : ∀ q ∈ L, A q := fun q h => by rw [← hAe]; exact Or.inl h
  have hAf : ∀ (H : Heap), s.heap.size ≤ H.size → ∀ q, tp_A L H.size q → A q := fun H h q hq => hq.elim (hAL q) (fun h2 => hA q (Nat.le_trans h h2))
  have hS : va_S A s.heap s.heap [] := va_S.rf
  have hD : va_D A (va_pl L f) := tp_D hL hAL
  have hfr : ∀ b, (K b).1 ∉ ([40] : List Nat) → f b = f b := fun _ _ => rfl
  have hgr : ∀ κ : tk_K, κ.1 ∉ ([40] : List Nat) → Γ κ = Γ κ := fun _ _ => rfl
  have hl := lv_entry ([.ref o, .int p0, .int p1, .int p2]) (n := 5) (Nat.le_of_ble_eq_true rfl)
  rw [lg_entry_eq]
  generalize (lg_sl ([.ref o, .int p0, .int p1, .int p2]) ++ List.replicate (5 - (lg_sl ([.ref o, .int p0, .int p1, .int p2])).length) Slot.unset).toArray = ls at hl ⊢
  have hl : lv_has ls 5 [(0, .ref o), (1, .int p0), (2, .int p1), (3, .int p2)] := hl
  refine lv_aload_n hx hb dX12_raw_0 rfl (lv_at hl 0 rfl) ?_
  refine lv_iload_n hx hb dX12_raw_1 rfl (lv_at hl 1 rfl) ?_
  obtain ⟨r_2, v_3, q_4, hf_1, hr_5, hv_6⟩ := (show tp_o_M L K 0 0 (Γ (39, 0, 0)) (f o) from hI0.at ho)
  refine tl_si (tq_rV (As := [.int p0]) (rest := []) ⟨hx, hb, hml, hown, hta⟩ (tp_P.pre hK hN hL hU hI hP) (tp_recv hK hP ho.1 hf_1 rfl) lk_X12_120 (r_X12_isRow l D cy s.heap.size L K Γ f o p0 ho) rfl rfl ⟨Nat.le_of_ble_eq_true rfl, Nat.le_of_ble_eq_true rfl⟩ rfl hl.1 rfl (Nat.le_of_ble_eq_true rfl) dX12_raw_2 ⟨Nat.le_of_ble_eq_true rfl, Nat.le_of_ble_eq_true rfl⟩) (fun r_24 hw_23 => ?_)
  have hw_23 : tl_E r_24 (0 ≤ p0.toInt ∧ p0.toInt < Γ (40, 7666, 0) 1) 1 0 := hw_23
  refine lv_if_eq (tgt := 35) hx hb dX12_raw_5 (by decide) (fun c_25 => ?_) (fun c_25 => ?_)
  · have c_25 := hw_23.f c_25
    refine lv_ldc (v := (-2000000)) hx hb hown (hta _ wk_248) dX12_raw_35 ?_
    have hpo9 : Γ (40, 7666, 0) = if (0 ≤ p0.toInt ∧ p0.toInt < Γ (40, 7666, 0) 1) ∧ (0 ≤ p1.toInt ∧ p1.toInt ≤ 299) ∧ (p2.toInt = -1000000 ∨ (-100000 ≤ p2.toInt ∧ p2.toInt ≤ 100000)) then tgu (Γ (40, 7666, 0)) (441 + 300 * p0.toInt + p1.toInt).toNat p2.toInt else Γ (40, 7666, 0) := (by rw [if_neg (by omega)])
    exact W.iret (v := (-2000000)) hx hb hr (fun t ht hW => ⟨⟨_, (f, Γ), rfl, hpo9, by rw [ht]; exact hP, hI, hfr, hgr⟩, hS.F ht⟩) hS.2.2 dX12_raw_37
  · have c_25 := hw_23.t c_25
    refine lv_iload_n hx hb dX12_raw_8 rfl (lv_at hl 2 rfl) ?_
    refine tl_si (tq_rS (As := [.int p1]) (rest := []) ⟨hx, hb, hml, hown, hta⟩ (tp_P.pre hK hN hL hU hI hP) lk_X12_124 (r_X12_isColour l D cy s.heap.size L K Γ f p1 ) rfl rfl ⟨Nat.le_of_ble_eq_true rfl, Nat.le_of_ble_eq_true rfl⟩ rfl hl.1 rfl (Nat.le_of_ble_eq_true rfl) dX12_raw_9 ⟨Nat.le_of_ble_eq_true rfl, Nat.le_of_ble_eq_true rfl⟩) (fun r_27 hw_26 => ?_)
    have hw_26 : tl_E r_27 (0 ≤ p1.toInt ∧ p1.toInt ≤ 299) 1 0 := hw_26
    refine lv_if_eq (tgt := 35) hx hb dX12_raw_12 (by decide) (fun c_28 => ?_) (fun c_28 => ?_)
    · have c_28 := hw_26.f c_28
      refine lv_ldc (v := (-2000000)) hx hb hown (hta _ wk_248) dX12_raw_35 ?_
      have hpo9 : Γ (40, 7666, 0) = if (0 ≤ p0.toInt ∧ p0.toInt < Γ (40, 7666, 0) 1) ∧ (0 ≤ p1.toInt ∧ p1.toInt ≤ 299) ∧ (p2.toInt = -1000000 ∨ (-100000 ≤ p2.toInt ∧ p2.toInt ≤ 100000)) then tgu (Γ (40, 7666, 0)) (441 + 300 * p0.toInt + p1.toInt).toNat p2.toInt else Γ (40, 7666, 0) := (by rw [if_neg (by omega)])
      exact W.iret (v := (-2000000)) hx hb hr (fun t ht hW => ⟨⟨_, (f, Γ), rfl, hpo9, by rw [ht]; exact hP, hI, hfr, hgr⟩, hS.F ht⟩) hS.2.2 dX12_raw_37
    · have c_28 := hw_26.t c_28
      refine lv_iload_n hx hb dX12_raw_15 rfl (lv_at hl 3 rfl) ?_
      refine lv_ldc (v := (-1000000)) hx hb hown (hta _ wk_182) dX12_raw_16 ?_
      refine lv_icmp_eq (tgt := 38) hx hb dX12_raw_18 (by decide) (fun c_29 => ?_) (fun c_29 => ?_)
      · have c_29 : p2.toInt = (-1000000 : Int) := tl_eq c_29
        refine lv_aload_n hx hb dX12_raw_38 rfl (lv_at hl 0 rfl) ?_
        refine tp_get (cy := cy) (ci := 12) (v := .ref (r_2 0)) (C := RX12) (T := TX12) (N := 49) hx hb hta inlX12 hown hK hP ho.1 hf_1 rfl 0 (by decide) (hta _ wk_149) (fun _ h9 => h9) rfl dX12_raw_39 ?_
        refine lv_sipush (v := 441) hx hb dX12_raw_42 (by decide) ?_
        refine lv_sipush (v := 300) hx hb dX12_raw_45 (by decide) ?_
        refine lv_iload_n hx hb dX12_raw_48 rfl (lv_at hl 1 rfl) ?_
        refine lv_imul hx hb dX12_raw_49 ?_
        refine lv_topi (fun z_30 ez_30 => ?_)
        try have iz_30 : z_30.toInt = (300 : Int) * p0.toInt := by rw [ez_30]; exact tl_mulN 300 p0 rfl rfl (by omega) (by omega)
        refine lv_iadd hx hb dX12_raw_50 ?_
        refine lv_topi (fun z_31 ez_31 => ?_)
        try have iz_31 : z_31.toInt = (441 : Int) + z_30.toInt := by rw [ez_31]; exact tl_addN 441 z_30 rfl rfl (by omega) (by omega)
        refine lv_iload_n hx hb dX12_raw_51 rfl (lv_at hl 2 rfl) ?_
        refine lv_iadd hx hb dX12_raw_52 ?_
        refine lv_topi (fun z_32 ez_32 => ?_)
        try have iz_32 : z_32.toInt = z_31.toInt + p1.toInt := by rw [ez_32]; exact tl_addN z_31 p1 rfl rfl (by omega) (by omega)
        obtain ⟨g_34, hf_33, hg_35⟩ := (show tp_gi cy (7666) (Γ (40, 7666, 0)) (f (r_2 0)) from hI.at (show tp_r L K 40 7666 0 (r_2 0) from hr_5 0 (by decide)))
        have hn_36 : vp_in z_32 (7666) := tl_in (by omega) (by omega)
        refine tp_iald (cy := cy) hx hb hK hP (show tp_r L K 40 7666 0 (r_2 0) from hr_5 0 (by decide)).1 hf_33 hn_36 dX12_raw_53 ?_
        refine lv_topi (fun z_37 ez_37 => ?_)
        have iz_37 : z_37.toInt = Γ (40, 7666, 0) z_32.toInt.toNat := by rw [ez_37]; exact hg_35 _ (tp_pin hn_36)
        refine lv_istore (lv' := [(4, .int z_37), (0, .ref o), (1, .int p0), (2, .int p1), (3, .int p2)]) hx hb dX12_raw_54 hl (by decide) rfl (fun ls hl => ?_)
        refine lv_aload_n hx hb dX12_raw_56 rfl (lv_at hl 1 rfl) ?_
        refine tp_get (cy := cy) (ci := 12) (v := .ref (r_2 0)) (C := RX12) (T := TX12) (N := 49) hx hb hta inlX12 hown hK hP ho.1 hf_1 rfl 0 (by decide) (hta _ wk_149) (fun _ h9 => h9) rfl dX12_raw_57 ?_
        refine lv_sipush (v := 441) hx hb dX12_raw_60 (by decide) ?_
        refine lv_sipush (v := 300) hx hb dX12_raw_63 (by decide) ?_
        refine lv_iload_n hx hb dX12_raw_66 rfl (lv_at hl 2 rfl) ?_
        refine lv_imul hx hb dX12_raw_67 ?_
        refine lv_topi (fun z_38 ez_38 => ?_)
        try have iz_38 : z_38.toInt = (300 : Int) * p0.toInt := by rw [ez_38]; exact tl_mulN 300 p0 rfl rfl (by omega) (by omega)
        refine lv_iadd hx hb dX12_raw_68 ?_
        refine lv_topi (fun z_39 ez_39 => ?_)
        try have iz_39 : z_39.toInt = (441 : Int) + z_38.toInt := by rw [ez_39]; exact tl_addN 441 z_38 rfl rfl (by omega) (by omega)
        refine lv_iload_n hx hb dX12_raw_69 rfl (lv_at hl 3 rfl) ?_
        refine lv_iadd hx hb dX12_raw_70 ?_
        refine lv_topi (fun z_40 ez_40 => ?_)
        try have iz_40 : z_40.toInt = z_39.toInt + p1.toInt := by rw [ez_40]; exact tl_addN z_39 p1 rfl rfl (by omega) (by omega)
        refine lv_iload_n hx hb dX12_raw_71 rfl (lv_at hl 4 rfl) ?_
        have hn_41 : vp_in z_40 (7666) := tl_in (by omega) (by omega)
        have hj_42 : z_40.toNatClampNeg = (441 + 300 * p0.toInt + p1.toInt).toNat := by show z_40.toInt.toNat = _; omega
        have hv_43 : p2.toInt = p2.toInt := rfl
        obtain ⟨Γ_44, eΓ_44⟩ : ∃ y : tk_G, y = tg Γ (40, 7666, 0) ((441 + 300 * p0.toInt + p1.toInt).toNat) p2.toInt := ⟨_, rfl⟩
        have hI9 : tp_I cy L K Γ_44 (va_up f (r_2 0) (.inl (cy 0, 7666, .inl (upd g_34 z_40.toNatClampNeg p2)))) := by have q9 : tg Γ (40, 7666, 0) ((441 + 300 * p0.toInt + p1.toInt).toNat) p2.toInt = tg Γ (40, 7666, 0) z_40.toNatClampNeg p2.toInt := (by rw [hj_42, hv_43]); rw [eΓ_44, q9]; exact hI.setg hU rfl (show tp_r L K 40 7666 0 (r_2 0) from hr_5 0 (by decide)) (show tp_gi cy (7666) (tgu (Γ (40, 7666, 0)) _ _) _ from ⟨_, rfl, tp_gi_upd hg_35⟩)
        have hfr9 : ∀ b, (K b).1 ∉ ([40] : List Nat) → va_up f (r_2 0) (.inl (cy 0, 7666, .inl (upd g_34 z_40.toNatClampNeg p2))) b = f b := tp_fr hfr (show tp_r L K 40 7666 0 (r_2 0) from hr_5 0 (by decide)) (by decide)
        refine tp_iast (cy := cy) hx hb hK hP hD hS (show tp_r L K 40 7666 0 (r_2 0) from hr_5 0 (by decide)).1 hf_33 hn_41 dX12_raw_72 (fun H locs hP hD hS => ?_)
        have hP : va_P D vwCl (va_pl L (va_up f (r_2 0) (.inl (cy 0, 7666, .inl (upd g_34 z_40.toNatClampNeg p2))))) H := hP
        generalize hfe : va_up f (r_2 0) (.inl (cy 0, 7666, .inl (upd g_34 z_40.toNatClampNeg p2))) = f_45 at hP hI9 hfr9
        have hD : va_D A (va_pl L f_45) := tp_D hL hAL
        have hf_46 : f_45 (r_2 0) = .inl (cy 0, 7666, .inl (upd g_34 z_40.toNatClampNeg p2)) := by rw [← hfe]; exact va_up_self _ _ _
        clear hfe
        have hI := hI9
        have hfr := hfr9
        clear hI9 hfr9
        have wsΓ_44 : Γ_44 (40, 7666, 0) ((441 + 300 * p0.toInt + p1.toInt).toNat) = p2.toInt := by rw [eΓ_44]; exact tg_s
        have hgr : ∀ κ : tk_K, κ.1 ∉ ([40] : List Nat) → Γ_44 κ = Γ κ := tg_fr hgr eΓ_44 (by decide)
        refine lv_iload hx hb dX12_raw_73 (lv_at hl 0 rfl) ?_
        have hpo9 : Γ_44 (40, 7666, 0) = if (0 ≤ p0.toInt ∧ p0.toInt < Γ (40, 7666, 0) 1) ∧ (0 ≤ p1.toInt ∧ p1.toInt ≤ 299) ∧ (p2.toInt = -1000000 ∨ (-100000 ≤ p2.toInt ∧ p2.toInt ≤ 100000)) then tgu (Γ (40, 7666, 0)) (441 + 300 * p0.toInt + p1.toInt).toNat p2.toInt else Γ (40, 7666, 0) := (by rw [if_pos (by omega), eΓ_44, tg_f])
        exact W.iret (v := z_37) hx hb hr (fun t ht hW => ⟨⟨_, (f_45, Γ_44), rfl, hpo9, by rw [ht]; exact hP, hI, hfr, hgr⟩, hS.F ht⟩) hS.2.2 dX12_raw_75
      · have c_29 : ¬ p2.toInt = (-1000000 : Int) := tl_neq c_29
        refine lv_iload_n hx hb dX12_raw_21 rfl (lv_at hl 3 rfl) ?_
        refine lv_i2l (v := p2.toInt64) hx hb dX12_raw_22 (by first | rfl | decide) ?_
        refine lv_ldc2 (v := (-100000)) hx hb hown (hta _ wk_246) dX12_raw_23 ?_
        refine lv_ldc2 (v := 100000) hx hb hown (hta _ wk_247) dX12_raw_26 ?_
        refine tl_si (tq_rS (As := [.long p2.toInt64, .long (-100000), .long 100000]) (rest := []) ⟨hx, hb, hml, hown, hta⟩ (tp_P.pre hK hN hL hU hI hP) lk_X12_112 (r_X12_in l D cy s.heap.size L K Γ f p2.toInt64 (-100000) 100000 ) rfl rfl ⟨Nat.le_of_ble_eq_true rfl, Nat.le_of_ble_eq_true rfl⟩ rfl hl.1 rfl (Nat.le_of_ble_eq_true rfl) dX12_raw_29 ⟨Nat.le_of_ble_eq_true rfl, Nat.le_of_ble_eq_true rfl⟩) (fun r_48 hw_47 => ?_)
        simp only [Int32.toInt_toInt64] at hw_47
        have hw_47 : tl_E r_48 ((-100000 : Int) ≤ p2.toInt ∧ p2.toInt ≤ (100000 : Int)) 1 0 := hw_47
        refine lv_if_ne (tgt := 38) hx hb dX12_raw_32 (by decide) (fun c_49 => ?_) (fun c_49 => ?_)
        · have c_49 := hw_47.t c_49
          refine lv_aload_n hx hb dX12_raw_38 rfl (lv_at hl 0 rfl) ?_
          refine tp_get (cy := cy) (ci := 12) (v := .ref (r_2 0)) (C := RX12) (T := TX12) (N := 49) hx hb hta inlX12 hown hK hP ho.1 hf_1 rfl 0 (by decide) (hta _ wk_149) (fun _ h9 => h9) rfl dX12_raw_39 ?_
          refine lv_sipush (v := 441) hx hb dX12_raw_42 (by decide) ?_
          refine lv_sipush (v := 300) hx hb dX12_raw_45 (by decide) ?_
          refine lv_iload_n hx hb dX12_raw_48 rfl (lv_at hl 1 rfl) ?_
          refine lv_imul hx hb dX12_raw_49 ?_
          refine lv_topi (fun z_50 ez_50 => ?_)
          try have iz_50 : z_50.toInt = (300 : Int) * p0.toInt := by rw [ez_50]; exact tl_mulN 300 p0 rfl rfl (by omega) (by omega)
          refine lv_iadd hx hb dX12_raw_50 ?_
          refine lv_topi (fun z_51 ez_51 => ?_)
          try have iz_51 : z_51.toInt = (441 : Int) + z_50.toInt := by rw [ez_51]; exact tl_addN 441 z_50 rfl rfl (by omega) (by omega)
          refine lv_iload_n hx hb dX12_raw_51 rfl (lv_at hl 2 rfl) ?_
          refine lv_iadd hx hb dX12_raw_52 ?_
          refine lv_topi (fun z_52 ez_52 => ?_)
          try have iz_52 : z_52.toInt = z_51.toInt + p1.toInt := by rw [ez_52]; exact tl_addN z_51 p1 rfl rfl (by omega) (by omega)
          obtain ⟨g_54, hf_53, hg_55⟩ := (show tp_gi cy (7666) (Γ (40, 7666, 0)) (f (r_2 0)) from hI.at (show tp_r L K 40 7666 0 (r_2 0) from hr_5 0 (by decide)))
          have hn_56 : vp_in z_52 (7666) := tl_in (by omega) (by omega)
          refine tp_iald (cy := cy) hx hb hK hP (show tp_r L K 40 7666 0 (r_2 0) from hr_5 0 (by decide)).1 hf_53 hn_56 dX12_raw_53 ?_
          refine lv_topi (fun z_57 ez_57 => ?_)
          have iz_57 : z_57.toInt = Γ (40, 7666, 0) z_52.toInt.toNat := by rw [ez_57]; exact hg_55 _ (tp_pin hn_56)
          refine lv_istore (lv' := [(4, .int z_57), (0, .ref o), (1, .int p0), (2, .int p1), (3, .int p2)]) hx hb dX12_raw_54 hl (by decide) rfl (fun ls hl => ?_)
          refine lv_aload_n hx hb dX12_raw_56 rfl (lv_at hl 1 rfl) ?_
          refine tp_get (cy := cy) (ci := 12) (v := .ref (r_2 0)) (C := RX12) (T := TX12) (N := 49) hx hb hta inlX12 hown hK hP ho.1 hf_1 rfl 0 (by decide) (hta _ wk_149) (fun _ h9 => h9) rfl dX12_raw_57 ?_
          refine lv_sipush (v := 441) hx hb dX12_raw_60 (by decide) ?_
          refine lv_sipush (v := 300) hx hb dX12_raw_63 (by decide) ?_
          refine lv_iload_n hx hb dX12_raw_66 rfl (lv_at hl 2 rfl) ?_
          refine lv_imul hx hb dX12_raw_67 ?_
          refine lv_topi (fun z_58 ez_58 => ?_)
          try have iz_58 : z_58.toInt = (300 : Int) * p0.toInt := by rw [ez_58]; exact tl_mulN 300 p0 rfl rfl (by omega) (by omega)
          refine lv_iadd hx hb dX12_raw_68 ?_
          refine lv_topi (fun z_59 ez_59 => ?_)
          try have iz_59 : z_59.toInt = (441 : Int) + z_58.toInt := by rw [ez_59]; exact tl_addN 441 z_58 rfl rfl (by omega) (by omega)
          refine lv_iload_n hx hb dX12_raw_69 rfl (lv_at hl 3 rfl) ?_
          refine lv_iadd hx hb dX12_raw_70 ?_
          refine lv_topi (fun z_60 ez_60 => ?_)
          try have iz_60 : z_60.toInt = z_59.toInt + p1.toInt := by rw [ez_60]; exact tl_addN z_59 p1 rfl rfl (by omega) (by omega)
          refine lv_iload_n hx hb dX12_raw_71 rfl (lv_at hl 4 rfl) ?_
          have hn_61 : vp_in z_60 (7666) := tl_in (by omega) (by omega)
          have hj_62 : z_60.toNatClampNeg = (441 + 300 * p0.toInt + p1.toInt).toNat := by show z_60.toInt.toNat = _; omega
          have hv_63 : p2.toInt = p2.toInt := rfl
          obtain ⟨Γ_64, eΓ_64⟩ : ∃ y : tk_G, y = tg Γ (40, 7666, 0) ((441 + 300 * p0.toInt + p1.toInt).toNat) p2.toInt := ⟨_, rfl⟩
          have hI9 : tp_I cy L K Γ_64 (va_up f (r_2 0) (.inl (cy 0, 7666, .inl (upd g_54 z_60.toNatClampNeg p2)))) := by have q9 : tg Γ (40, 7666, 0) ((441 + 300 * p0.toInt + p1.toInt).toNat) p2.toInt = tg Γ (40, 7666, 0) z_60.toNatClampNeg p2.toInt := (by rw [hj_62, hv_63]); rw [eΓ_64, q9]; exact hI.setg hU rfl (show tp_r L K 40 7666 0 (r_2 0) from hr_5 0 (by decide)) (show tp_gi cy (7666) (tgu (Γ (40, 7666, 0)) _ _) _ from ⟨_, rfl, tp_gi_upd hg_55⟩)
          have hfr9 : ∀ b, (K b).1 ∉ ([40] : List Nat) → va_up f (r_2 0) (.inl (cy 0, 7666, .inl (upd g_54 z_60.toNatClampNeg p2))) b = f b := tp_fr hfr (show tp_r L K 40 7666 0 (r_2 0) from hr_5 0 (by decide)) (by decide)
          refine tp_iast (cy := cy) hx hb hK hP hD hS (show tp_r L K 40 7666 0 (r_2 0) from hr_5 0 (by decide)).1 hf_53 hn_61 dX12_raw_72 (fun H locs hP hD hS => ?_)
          have hP : va_P D vwCl (va_pl L (va_up f (r_2 0) (.inl (cy 0, 7666, .inl (upd g_54 z_60.toNatClampNeg p2))))) H := hP
          generalize hfe : va_up f (r_2 0) (.inl (cy 0, 7666, .inl (upd g_54 z_60.toNatClampNeg p2))) = f_65 at hP hI9 hfr9
          have hD : va_D A (va_pl L f_65) := tp_D hL hAL
          have hf_66 : f_65 (r_2 0) = .inl (cy 0, 7666, .inl (upd g_54 z_60.toNatClampNeg p2)) := by rw [← hfe]; exact va_up_self _ _ _
          clear hfe
          have hI := hI9
          have hfr := hfr9
          clear hI9 hfr9
          have wsΓ_64 : Γ_64 (40, 7666, 0) ((441 + 300 * p0.toInt + p1.toInt).toNat) = p2.toInt := by rw [eΓ_64]; exact tg_s
          have hgr : ∀ κ : tk_K, κ.1 ∉ ([40] : List Nat) → Γ_64 κ = Γ κ := tg_fr hgr eΓ_64 (by decide)
          refine lv_iload hx hb dX12_raw_73 (lv_at hl 0 rfl) ?_
          have hpo9 : Γ_64 (40, 7666, 0) = if (0 ≤ p0.toInt ∧ p0.toInt < Γ (40, 7666, 0) 1) ∧ (0 ≤ p1.toInt ∧ p1.toInt ≤ 299) ∧ (p2.toInt = -1000000 ∨ (-100000 ≤ p2.toInt ∧ p2.toInt ≤ 100000)) then tgu (Γ (40, 7666, 0)) (441 + 300 * p0.toInt + p1.toInt).toNat p2.toInt else Γ (40, 7666, 0) := (by rw [if_pos (by omega), eΓ_64, tg_f])
          exact W.iret (v := z_57) hx hb hr (fun t ht hW => ⟨⟨_, (f_65, Γ_64), rfl, hpo9, by rw [ht]; exact hP, hI, hfr, hgr⟩, hS.F ht⟩) hS.2.2 dX12_raw_75
        · have c_49 := hw_47.f c_49
          refine lv_ldc (v := (-2000000)) hx hb hown (hta _ wk_248) dX12_raw_35 ?_
          have hpo9 : Γ (40, 7666, 0) = if (0 ≤ p0.toInt ∧ p0.toInt < Γ (40, 7666, 0) 1) ∧ (0 ≤ p1.toInt ∧ p1.toInt ≤ 299) ∧ (p2.toInt = -1000000 ∨ (-100000 ≤ p2.toInt ∧ p2.toInt ≤ 100000)) then tgu (Γ (40, 7666, 0)) (441 + 300 * p0.toInt + p1.toInt).toNat p2.toInt else Γ (40, 7666, 0) := (by rw [if_neg (by omega)])
          exact W.iret (v := (-2000000)) hx hb hr (fun t ht hW => ⟨⟨_, (f, Γ), rfl, hpo9, by rw [ht]; exact hP, hI, hfr, hgr⟩, hS.F ht⟩) hS.2.2 dX12_raw_37
set_option maxHeartbeats 4000000 in
set_option maxRecDepth 100000 in
theorem r_X12_row (l : Launch) (D : va_G) (cy : Nat → ClassId) (sz : Nat) (L : List Nat) (K : Nat → tk_K) (Γ : tk_G) (f : Nat → va_E) (o : Nat) (p0 : Int32) (p1 : Int32) (ho : tp_r L K 39 (0) 0 o) (hs : (0 ≤ Γ (40, 7666, 0) 1 ∧ Γ (40, 7666, 0) 1 ≤ 24) ∧ (0 ≤ Γ (40, 7666, 0) 2 ∧ Γ (40, 7666, 0) 2 ≤ 40) ∧ (0 ≤ Γ (40, 7666, 0) 3 ∧ Γ (40, 7666, 0) 3 ≤ 60) ∧ (0 ≤ Γ (40, 7666, 0) 4 ∧ Γ (40, 7666, 0) 4 ≤ 10) ∧ (0 ≤ Γ (40, 7666, 0) 7665 ∧ Γ (40, 7666, 0) 7665 ≤ 8)) : Met l yX12_row (tl_w yX12_row cX12_row 5 (some .int)) ({ frames := 1, cells := 0, slots := 0, locals := 25 }) (va_Pc [.ref o, .int p0, .int p1] (tp_P D cy L K Γ f sz)) (va_Qi (fun (r : Int32) (u : (Nat → va_E) × tk_G) => r.toInt = (if ¬ Γ (40, 7666, 0) 1 = 24 ∧ (0 ≤ p0.toInt ∧ p0.toInt ≤ 3) ∧ 0 ≤ p1.toInt ∧ p1.toInt ≤ 999 then Γ (40, 7666, 0) 1 else -1) ∧ u.2 (40, 7666, 0) = if ¬ Γ (40, 7666, 0) 1 = 24 ∧ (0 ≤ p0.toInt ∧ p0.toInt ≤ 3) ∧ 0 ≤ p1.toInt ∧ p1.toInt ≤ 999 then tgu (tm_fill (tgu (tgu (tgu (Γ (40, 7666, 0)) (9 + 3 * Γ (40, 7666, 0) 1 + 0).toNat (p0.toInt)) (9 + 3 * Γ (40, 7666, 0) 1 + 1).toNat (p1.toInt)) (9 + 3 * Γ (40, 7666, 0) 1 + 2).toNat (Γ (40, 7666, 0) 0)) (441 + 300 * Γ (40, 7666, 0) 1).toNat (441 + 300 * Γ (40, 7666, 0) 1 + 300).toNat (-1000000)) 1 (Γ (40, 7666, 0) 1 + 1) else Γ (40, 7666, 0)) (tp_BG D cy L K Γ f [40]) (tp_A L sz)) 0 0 (tp_A L sz) := by
  refine Met.ofW (cc := cX12_row) (maxL := 5) (ret := (some .int)) (by decide) rfl ?_
  intro p e s m args below meth c s₁ B hml hv
  obtain ⟨rfl, hsz, hP, hK, hL, hI, hN, hU⟩ := hv
  have hx := B.exec
  have hb := B.bytes
  have hr := B.returns
  have hta := tl_hta (atoms_spec (ws := tl_w yX12_row cX12_row 5 (some .int)) B.pre)
  have hown : s.vm.findClass RX12 = some m.cls := findClass_of_methodNamed B.named
  have hlocks := B.notSynchronized
  subst hsz
  have hI0 := hI
  generalize hAe : tp_A L s.heap.size = A
  have hA : ∀ q : Nat, s.heap.size ≤ q → A q := fun q h => by rw [← hAe]; exact Or.inr h
  have hAL : ∀ q ∈ L, A q := fun q h => by rw [← hAe]; exact Or.inl h
  have hAf : ∀ (H : Heap), s.heap.size ≤ H.size → ∀ q, tp_A L H.size q → A q := fun H h q hq => hq.elim (hAL q) (fun h2 => hA q (Nat.le_trans h h2))
  have hS : va_S A s.heap s.heap [] := va_S.rf
  have hD : va_D A (va_pl L f) := tp_D hL hAL
  have hfr : ∀ b, (K b).1 ∉ ([40] : List Nat) → f b = f b := fun _ _ => rfl
  have hgr : ∀ κ : tk_K, κ.1 ∉ ([40] : List Nat) → Γ κ = Γ κ := fun _ _ => rfl
  have hl := lv_entry ([.ref o, .int p0, .int p1]) (n := 5) (Nat.le_of_ble_eq_true rfl)
  rw [lg_entry_eq]
  generalize (lg_sl ([.ref o, .int p0, .int p1]) ++ List.replicate (5 - (lg_sl ([.ref o, .int p0, .int p1])).length) Slot.unset).toArray = ls at hl ⊢
  have hl : lv_has ls 5 [(0, .ref o), (1, .int p0), (2, .int p1)] := hl
  refine lv_aload_n hx hb dX12_row_0 rfl (lv_at hl 0 rfl) ?_
  obtain ⟨r_2, v_3, q_4, hf_1, hr_5, hv_6⟩ := (show tp_o_M L K 0 0 (Γ (39, 0, 0)) (f o) from hI0.at ho)
  refine tp_get (cy := cy) (ci := 12) (v := .ref (r_2 0)) (C := RX12) (T := TX12) (N := 49) hx hb hta inlX12 hown hK hP ho.1 hf_1 rfl 0 (by decide) (hta _ wk_149) (fun _ h9 => h9) rfl dX12_row_1 ?_
  refine lv_iconst (v := 1) hx hb dX12_row_4 (by decide) ?_
  obtain ⟨g_24, hf_23, hg_25⟩ := (show tp_gi cy (7666) (Γ (40, 7666, 0)) (f (r_2 0)) from hI.at (show tp_r L K 40 7666 0 (r_2 0) from hr_5 0 (by decide)))
  have hn_26 : vp_in 1 (7666) := tl_in (by decide) (by decide)
  refine tp_iald (cy := cy) hx hb hK hP (show tp_r L K 40 7666 0 (r_2 0) from hr_5 0 (by decide)).1 hf_23 hn_26 dX12_row_5 ?_
  refine lv_topi (fun z_27 ez_27 => ?_)
  have iz_27 : z_27.toInt = Γ (40, 7666, 0) 1 := by rw [ez_27]; exact hg_25 _ (tp_pin hn_26)
  refine lv_bipush (v := 24) hx hb dX12_row_6 (by decide) ?_
  refine lv_icmp_eq (tgt := 35) hx hb dX12_row_8 (by decide) (fun c_28 => ?_) (fun c_28 => ?_)
  · have c_28 : z_27.toInt = (24 : Int) := tl_eq c_28
    refine lv_iconst (v := (-1)) hx hb dX12_row_35 (by decide) ?_
    have hpo9 : ((-1) : Int32).toInt = (if ¬ Γ (40, 7666, 0) 1 = 24 ∧ (0 ≤ p0.toInt ∧ p0.toInt ≤ 3) ∧ 0 ≤ p1.toInt ∧ p1.toInt ≤ 999 then Γ (40, 7666, 0) 1 else -1) ∧ Γ (40, 7666, 0) = if ¬ Γ (40, 7666, 0) 1 = 24 ∧ (0 ≤ p0.toInt ∧ p0.toInt ≤ 3) ∧ 0 ≤ p1.toInt ∧ p1.toInt ≤ 999 then tgu (tm_fill (tgu (tgu (tgu (Γ (40, 7666, 0)) (9 + 3 * Γ (40, 7666, 0) 1 + 0).toNat (p0.toInt)) (9 + 3 * Γ (40, 7666, 0) 1 + 1).toNat (p1.toInt)) (9 + 3 * Γ (40, 7666, 0) 1 + 2).toNat (Γ (40, 7666, 0) 0)) (441 + 300 * Γ (40, 7666, 0) 1).toNat (441 + 300 * Γ (40, 7666, 0) 1 + 300).toNat (-1000000)) 1 (Γ (40, 7666, 0) 1 + 1) else Γ (40, 7666, 0) := ⟨(by rw [if_neg (by omega)]; rfl), (by rw [if_neg (by omega)])⟩
    exact W.iret (v := (-1)) hx hb hr (fun t ht hW => ⟨⟨_, (f, Γ), rfl, hpo9, by rw [ht]; exact hP, hI, hfr, hgr⟩, hS.F ht⟩) hS.2.2 dX12_row_36
  · have c_28 : ¬ z_27.toInt = (24 : Int) := tl_neq c_28
    refine lv_iload_n hx hb dX12_row_11 rfl (lv_at hl 1 rfl) ?_
    refine lv_i2l (v := p0.toInt64) hx hb dX12_row_12 (by first | rfl | decide) ?_
    refine lv_lconst (v := 0) hx hb dX12_row_13 (by decide) ?_
    refine lv_ldc2 (v := 3) hx hb hown (hta _ wk_221) dX12_row_14 ?_
    refine tl_si (tq_rS (As := [.long p0.toInt64, .long 0, .long 3]) (rest := []) ⟨hx, hb, hml, hown, hta⟩ (tp_P.pre hK hN hL hU hI hP) lk_X12_112 (r_X12_in l D cy s.heap.size L K Γ f p0.toInt64 0 3 ) rfl rfl ⟨Nat.le_of_ble_eq_true rfl, Nat.le_of_ble_eq_true rfl⟩ rfl hl.1 rfl (Nat.le_of_ble_eq_true rfl) dX12_row_17 ⟨Nat.le_of_ble_eq_true rfl, Nat.le_of_ble_eq_true rfl⟩) (fun r_30 hw_29 => ?_)
    simp only [Int32.toInt_toInt64] at hw_29
    have hw_29 : tl_E r_30 ((0 : Int) ≤ p0.toInt ∧ p0.toInt ≤ (3 : Int)) 1 0 := hw_29
    refine lv_if_eq (tgt := 35) hx hb dX12_row_20 (by decide) (fun c_31 => ?_) (fun c_31 => ?_)
    · have c_31 := hw_29.f c_31
      refine lv_iconst (v := (-1)) hx hb dX12_row_35 (by decide) ?_
      have hpo9 : ((-1) : Int32).toInt = (if ¬ Γ (40, 7666, 0) 1 = 24 ∧ (0 ≤ p0.toInt ∧ p0.toInt ≤ 3) ∧ 0 ≤ p1.toInt ∧ p1.toInt ≤ 999 then Γ (40, 7666, 0) 1 else -1) ∧ Γ (40, 7666, 0) = if ¬ Γ (40, 7666, 0) 1 = 24 ∧ (0 ≤ p0.toInt ∧ p0.toInt ≤ 3) ∧ 0 ≤ p1.toInt ∧ p1.toInt ≤ 999 then tgu (tm_fill (tgu (tgu (tgu (Γ (40, 7666, 0)) (9 + 3 * Γ (40, 7666, 0) 1 + 0).toNat (p0.toInt)) (9 + 3 * Γ (40, 7666, 0) 1 + 1).toNat (p1.toInt)) (9 + 3 * Γ (40, 7666, 0) 1 + 2).toNat (Γ (40, 7666, 0) 0)) (441 + 300 * Γ (40, 7666, 0) 1).toNat (441 + 300 * Γ (40, 7666, 0) 1 + 300).toNat (-1000000)) 1 (Γ (40, 7666, 0) 1 + 1) else Γ (40, 7666, 0) := ⟨(by rw [if_neg (by omega)]; rfl), (by rw [if_neg (by omega)])⟩
      exact W.iret (v := (-1)) hx hb hr (fun t ht hW => ⟨⟨_, (f, Γ), rfl, hpo9, by rw [ht]; exact hP, hI, hfr, hgr⟩, hS.F ht⟩) hS.2.2 dX12_row_36
    · have c_31 := hw_29.t c_31
      refine lv_iload_n hx hb dX12_row_23 rfl (lv_at hl 2 rfl) ?_
      refine lv_i2l (v := p1.toInt64) hx hb dX12_row_24 (by first | rfl | decide) ?_
      refine lv_lconst (v := 0) hx hb dX12_row_25 (by decide) ?_
      refine lv_ldc2 (v := 999) hx hb hown (hta _ wk_222) dX12_row_26 ?_
      refine tl_si (tq_rS (As := [.long p1.toInt64, .long 0, .long 999]) (rest := []) ⟨hx, hb, hml, hown, hta⟩ (tp_P.pre hK hN hL hU hI hP) lk_X12_112 (r_X12_in l D cy s.heap.size L K Γ f p1.toInt64 0 999 ) rfl rfl ⟨Nat.le_of_ble_eq_true rfl, Nat.le_of_ble_eq_true rfl⟩ rfl hl.1 rfl (Nat.le_of_ble_eq_true rfl) dX12_row_29 ⟨Nat.le_of_ble_eq_true rfl, Nat.le_of_ble_eq_true rfl⟩) (fun r_33 hw_32 => ?_)
      simp only [Int32.toInt_toInt64] at hw_32
      have hw_32 : tl_E r_33 ((0 : Int) ≤ p1.toInt ∧ p1.toInt ≤ (999 : Int)) 1 0 := hw_32
      refine lv_if_ne (tgt := 37) hx hb dX12_row_32 (by decide) (fun c_34 => ?_) (fun c_34 => ?_)
      · have c_34 := hw_32.t c_34
        refine lv_aload_n hx hb dX12_row_37 rfl (lv_at hl 0 rfl) ?_
        refine tp_get (cy := cy) (ci := 12) (v := .ref (r_2 0)) (C := RX12) (T := TX12) (N := 49) hx hb hta inlX12 hown hK hP ho.1 hf_1 rfl 0 (by decide) (hta _ wk_149) (fun _ h9 => h9) rfl dX12_row_38 ?_
        refine lv_iconst (v := 1) hx hb dX12_row_41 (by decide) ?_
        have hn_35 : vp_in 1 (7666) := tl_in (by decide) (by decide)
        refine tp_iald (cy := cy) hx hb hK hP (show tp_r L K 40 7666 0 (r_2 0) from hr_5 0 (by decide)).1 hf_23 hn_35 dX12_row_42 ?_
        refine lv_topi (fun z_36 ez_36 => ?_)
        obtain rfl : z_27 = z_36 := ez_27.trans ez_36.symm
        refine lv_istore_n (lv' := [(3, .int z_27), (0, .ref o), (1, .int p0), (2, .int p1)]) hx hb dX12_row_43 rfl hl (by decide) rfl (fun ls hl => ?_)
        refine lv_aload_n hx hb dX12_row_44 rfl (lv_at hl 1 rfl) ?_
        refine tp_get (cy := cy) (ci := 12) (v := .ref (r_2 0)) (C := RX12) (T := TX12) (N := 49) hx hb hta inlX12 hown hK hP ho.1 hf_1 rfl 0 (by decide) (hta _ wk_149) (fun _ h9 => h9) rfl dX12_row_45 ?_
        refine lv_bipush (v := 9) hx hb dX12_row_48 (by decide) ?_
        refine lv_iconst (v := 3) hx hb dX12_row_50 (by decide) ?_
        refine lv_iload_n hx hb dX12_row_51 rfl (lv_at hl 0 rfl) ?_
        refine lv_imul hx hb dX12_row_52 ?_
        refine lv_topi (fun z_37 ez_37 => ?_)
        try have iz_37 : z_37.toInt = (3 : Int) * z_27.toInt := by rw [ez_37]; exact tl_mulN 3 z_27 rfl rfl (by omega) (by omega)
        refine lv_iadd hx hb dX12_row_53 ?_
        refine lv_topi (fun z_38 ez_38 => ?_)
        try have iz_38 : z_38.toInt = (9 : Int) + z_37.toInt := by rw [ez_38]; exact tl_addN 9 z_37 rfl rfl (by omega) (by omega)
        refine lv_iload_n hx hb dX12_row_54 rfl (lv_at hl 2 rfl) ?_
        have hn_39 : vp_in z_38 (7666) := tl_in (by omega) (by omega)
        have hj_40 : z_38.toNatClampNeg = (9 + 3 * Γ (40, 7666, 0) 1 + 0).toNat := by show z_38.toInt.toNat = _; omega
        have hv_41 : p0.toInt = p0.toInt := by omega
        obtain ⟨Γ_42, eΓ_42⟩ : ∃ y : tk_G, y = tg Γ (40, 7666, 0) ((9 + 3 * Γ (40, 7666, 0) 1 + 0).toNat) p0.toInt := ⟨_, rfl⟩
        have hI9 : tp_I cy L K Γ_42 (va_up f (r_2 0) (.inl (cy 0, 7666, .inl (upd g_24 z_38.toNatClampNeg p0)))) := by have q9 : tg Γ (40, 7666, 0) ((9 + 3 * Γ (40, 7666, 0) 1 + 0).toNat) p0.toInt = tg Γ (40, 7666, 0) z_38.toNatClampNeg p0.toInt := (by rw [hj_40, hv_41]); rw [eΓ_42, q9]; exact hI.setg hU rfl (show tp_r L K 40 7666 0 (r_2 0) from hr_5 0 (by decide)) (show tp_gi cy (7666) (tgu (Γ (40, 7666, 0)) _ _) _ from ⟨_, rfl, tp_gi_upd hg_25⟩)
        have hfr9 : ∀ b, (K b).1 ∉ ([40] : List Nat) → va_up f (r_2 0) (.inl (cy 0, 7666, .inl (upd g_24 z_38.toNatClampNeg p0))) b = f b := tp_fr hfr (show tp_r L K 40 7666 0 (r_2 0) from hr_5 0 (by decide)) (by decide)
        refine tp_iast (cy := cy) hx hb hK hP hD hS (show tp_r L K 40 7666 0 (r_2 0) from hr_5 0 (by decide)).1 hf_23 hn_39 dX12_row_55 (fun H locs hP hD hS => ?_)
        have hP : va_P D vwCl (va_pl L (va_up f (r_2 0) (.inl (cy 0, 7666, .inl (upd g_24 z_38.toNatClampNeg p0))))) H := hP
        generalize hfe : va_up f (r_2 0) (.inl (cy 0, 7666, .inl (upd g_24 z_38.toNatClampNeg p0))) = f_43 at hP hI9 hfr9
        have hD : va_D A (va_pl L f_43) := tp_D hL hAL
        have hf_44 : f_43 (r_2 0) = .inl (cy 0, 7666, .inl (upd g_24 z_38.toNatClampNeg p0)) := by rw [← hfe]; exact va_up_self _ _ _
        clear hfe
        have hI := hI9
        have hfr := hfr9
        clear hI9 hfr9
        have wtΓ_42_0 : Γ_42 (40, 7666, 0) 0 = Γ (40, 7666, 0) 0 := by rw [eΓ_42]; exact tg_i (by omega)
        have wtΓ_42_1 : Γ_42 (40, 7666, 0) 1 = Γ (40, 7666, 0) 1 := by rw [eΓ_42]; exact tg_i (by omega)
        have wsΓ_42 : Γ_42 (40, 7666, 0) ((9 + 3 * Γ (40, 7666, 0) 1 + 0).toNat) = p0.toInt := by rw [eΓ_42]; exact tg_s
        have hgr : ∀ κ : tk_K, κ.1 ∉ ([40] : List Nat) → Γ_42 κ = Γ κ := tg_fr hgr eΓ_42 (by decide)
        refine lv_aload_n hx hb dX12_row_56 rfl (lv_at hl 1 rfl) ?_
        refine tp_get (cy := cy) (ci := 12) (v := .ref (r_2 0)) (C := RX12) (T := TX12) (N := 49) hx hb hta inlX12 hown hK hP ho.1 ((tp_un hfr ho (by decide)).trans hf_1) rfl 0 (by decide) (hta _ wk_149) (fun _ h9 => h9) rfl dX12_row_57 ?_
        refine lv_bipush (v := 9) hx hb dX12_row_60 (by decide) ?_
        refine lv_iconst (v := 3) hx hb dX12_row_62 (by decide) ?_
        refine lv_iload_n hx hb dX12_row_63 rfl (lv_at hl 0 rfl) ?_
        refine lv_imul hx hb dX12_row_64 ?_
        refine lv_topi (fun z_45 ez_45 => ?_)
        try have iz_45 : z_45.toInt = (3 : Int) * z_27.toInt := by rw [ez_45]; exact tl_mulN 3 z_27 rfl rfl (by omega) (by omega)
        refine lv_iadd hx hb dX12_row_65 ?_
        refine lv_topi (fun z_46 ez_46 => ?_)
        try have iz_46 : z_46.toInt = (9 : Int) + z_45.toInt := by rw [ez_46]; exact tl_addN 9 z_45 rfl rfl (by omega) (by omega)
        refine lv_iconst (v := 1) hx hb dX12_row_66 (by decide) ?_
        refine lv_iadd hx hb dX12_row_67 ?_
        refine lv_topi (fun z_47 ez_47 => ?_)
        try have iz_47 : z_47.toInt = z_46.toInt + (1 : Int) := by rw [ez_47]; exact tl_addN z_46 1 rfl rfl (by omega) (by omega)
        refine lv_iload_n hx hb dX12_row_68 rfl (lv_at hl 3 rfl) ?_
        obtain ⟨g_49, hf_48, hg_50⟩ := (show tp_gi cy (7666) (Γ_42 (40, 7666, 0)) (f_43 (r_2 0)) from hI.at (show tp_r L K 40 7666 0 (r_2 0) from hr_5 0 (by decide)))
        have hn_51 : vp_in z_47 (7666) := tl_in (by omega) (by omega)
        have hj_52 : z_47.toNatClampNeg = (9 + 3 * Γ (40, 7666, 0) 1 + 1).toNat := by show z_47.toInt.toNat = _; omega
        have hv_53 : p1.toInt = p1.toInt := by omega
        obtain ⟨Γ_54, eΓ_54⟩ : ∃ y : tk_G, y = tg Γ_42 (40, 7666, 0) ((9 + 3 * Γ (40, 7666, 0) 1 + 1).toNat) p1.toInt := ⟨_, rfl⟩
        have hI9 : tp_I cy L K Γ_54 (va_up f_43 (r_2 0) (.inl (cy 0, 7666, .inl (upd g_49 z_47.toNatClampNeg p1)))) := by have q9 : tg Γ_42 (40, 7666, 0) ((9 + 3 * Γ (40, 7666, 0) 1 + 1).toNat) p1.toInt = tg Γ_42 (40, 7666, 0) z_47.toNatClampNeg p1.toInt := (by rw [hj_52, hv_53]); rw [eΓ_54, q9]; exact hI.setg hU rfl (show tp_r L K 40 7666 0 (r_2 0) from hr_5 0 (by decide)) (show tp_gi cy (7666) (tgu (Γ_42 (40, 7666, 0)) _ _) _ from ⟨_, rfl, tp_gi_upd hg_50⟩)
        have hfr9 : ∀ b, (K b).1 ∉ ([40] : List Nat) → va_up f_43 (r_2 0) (.inl (cy 0, 7666, .inl (upd g_49 z_47.toNatClampNeg p1))) b = f b := tp_fr hfr (show tp_r L K 40 7666 0 (r_2 0) from hr_5 0 (by decide)) (by decide)
        refine tp_iast (cy := cy) hx hb hK hP hD hS (show tp_r L K 40 7666 0 (r_2 0) from hr_5 0 (by decide)).1 hf_48 hn_51 dX12_row_69 (fun H locs hP hD hS => ?_)
        have hP : va_P D vwCl (va_pl L (va_up f_43 (r_2 0) (.inl (cy 0, 7666, .inl (upd g_49 z_47.toNatClampNeg p1))))) H := hP
        generalize hfe : va_up f_43 (r_2 0) (.inl (cy 0, 7666, .inl (upd g_49 z_47.toNatClampNeg p1))) = f_55 at hP hI9 hfr9
        have hD : va_D A (va_pl L f_55) := tp_D hL hAL
        have hf_56 : f_55 (r_2 0) = .inl (cy 0, 7666, .inl (upd g_49 z_47.toNatClampNeg p1)) := by rw [← hfe]; exact va_up_self _ _ _
        clear hfe
        have hI := hI9
        have hfr := hfr9
        clear hI9 hfr9
        have wtΓ_54_0 : Γ_54 (40, 7666, 0) 0 = Γ_42 (40, 7666, 0) 0 := by rw [eΓ_54]; exact tg_i (by omega)
        have wtΓ_54_1 : Γ_54 (40, 7666, 0) 1 = Γ_42 (40, 7666, 0) 1 := by rw [eΓ_54]; exact tg_i (by omega)
        have wsΓ_54 : Γ_54 (40, 7666, 0) ((9 + 3 * Γ (40, 7666, 0) 1 + 1).toNat) = p1.toInt := by rw [eΓ_54]; exact tg_s
        have hgr : ∀ κ : tk_K, κ.1 ∉ ([40] : List Nat) → Γ_54 κ = Γ κ := tg_fr hgr eΓ_54 (by decide)
        refine lv_aload_n hx hb dX12_row_70 rfl (lv_at hl 1 rfl) ?_
        refine tp_get (cy := cy) (ci := 12) (v := .ref (r_2 0)) (C := RX12) (T := TX12) (N := 49) hx hb hta inlX12 hown hK hP ho.1 ((tp_un hfr ho (by decide)).trans hf_1) rfl 0 (by decide) (hta _ wk_149) (fun _ h9 => h9) rfl dX12_row_71 ?_
        refine lv_bipush (v := 9) hx hb dX12_row_74 (by decide) ?_
        refine lv_iconst (v := 3) hx hb dX12_row_76 (by decide) ?_
        refine lv_iload_n hx hb dX12_row_77 rfl (lv_at hl 0 rfl) ?_
        refine lv_imul hx hb dX12_row_78 ?_
        refine lv_topi (fun z_57 ez_57 => ?_)
        try have iz_57 : z_57.toInt = (3 : Int) * z_27.toInt := by rw [ez_57]; exact tl_mulN 3 z_27 rfl rfl (by omega) (by omega)
        refine lv_iadd hx hb dX12_row_79 ?_
        refine lv_topi (fun z_58 ez_58 => ?_)
        try have iz_58 : z_58.toInt = (9 : Int) + z_57.toInt := by rw [ez_58]; exact tl_addN 9 z_57 rfl rfl (by omega) (by omega)
        refine lv_iconst (v := 2) hx hb dX12_row_80 (by decide) ?_
        refine lv_iadd hx hb dX12_row_81 ?_
        refine lv_topi (fun z_59 ez_59 => ?_)
        try have iz_59 : z_59.toInt = z_58.toInt + (2 : Int) := by rw [ez_59]; exact tl_addN z_58 2 rfl rfl (by omega) (by omega)
        refine lv_aload_n hx hb dX12_row_82 rfl (lv_at hl 1 rfl) ?_
        refine tp_get (cy := cy) (ci := 12) (v := .ref (r_2 0)) (C := RX12) (T := TX12) (N := 49) hx hb hta inlX12 hown hK hP ho.1 ((tp_un hfr ho (by decide)).trans hf_1) rfl 0 (by decide) (hta _ wk_149) (fun _ h9 => h9) rfl dX12_row_83 ?_
        refine lv_iconst (v := 0) hx hb dX12_row_86 (by decide) ?_
        obtain ⟨g_61, hf_60, hg_62⟩ := (show tp_gi cy (7666) (Γ_54 (40, 7666, 0)) (f_55 (r_2 0)) from hI.at (show tp_r L K 40 7666 0 (r_2 0) from hr_5 0 (by decide)))
        have hn_63 : vp_in 0 (7666) := tl_in (by decide) (by decide)
        refine tp_iald (cy := cy) hx hb hK hP (show tp_r L K 40 7666 0 (r_2 0) from hr_5 0 (by decide)).1 hf_60 hn_63 dX12_row_87 ?_
        refine lv_topi (fun z_64 ez_64 => ?_)
        have iz_64 : z_64.toInt = Γ_54 (40, 7666, 0) 0 := by rw [ez_64]; exact hg_62 _ (tp_pin hn_63)
        have hn_65 : vp_in z_59 (7666) := tl_in (by omega) (by omega)
        have hj_66 : z_59.toNatClampNeg = (9 + 3 * Γ (40, 7666, 0) 1 + 2).toNat := by show z_59.toInt.toNat = _; omega
        have hv_67 : z_64.toInt = Γ (40, 7666, 0) 0 := by omega
        obtain ⟨Γ_68, eΓ_68⟩ : ∃ y : tk_G, y = tg Γ_54 (40, 7666, 0) ((9 + 3 * Γ (40, 7666, 0) 1 + 2).toNat) (Γ (40, 7666, 0) 0) := ⟨_, rfl⟩
        have hI9 : tp_I cy L K Γ_68 (va_up f_55 (r_2 0) (.inl (cy 0, 7666, .inl (upd g_61 z_59.toNatClampNeg z_64)))) := by have q9 : tg Γ_54 (40, 7666, 0) ((9 + 3 * Γ (40, 7666, 0) 1 + 2).toNat) (Γ (40, 7666, 0) 0) = tg Γ_54 (40, 7666, 0) z_59.toNatClampNeg z_64.toInt := (by rw [hj_66, hv_67]); rw [eΓ_68, q9]; exact hI.setg hU rfl (show tp_r L K 40 7666 0 (r_2 0) from hr_5 0 (by decide)) (show tp_gi cy (7666) (tgu (Γ_54 (40, 7666, 0)) _ _) _ from ⟨_, rfl, tp_gi_upd hg_62⟩)
        have hfr9 : ∀ b, (K b).1 ∉ ([40] : List Nat) → va_up f_55 (r_2 0) (.inl (cy 0, 7666, .inl (upd g_61 z_59.toNatClampNeg z_64))) b = f b := tp_fr hfr (show tp_r L K 40 7666 0 (r_2 0) from hr_5 0 (by decide)) (by decide)
        refine tp_iast (cy := cy) hx hb hK hP hD hS (show tp_r L K 40 7666 0 (r_2 0) from hr_5 0 (by decide)).1 hf_60 hn_65 dX12_row_88 (fun H locs hP hD hS => ?_)
        have hP : va_P D vwCl (va_pl L (va_up f_55 (r_2 0) (.inl (cy 0, 7666, .inl (upd g_61 z_59.toNatClampNeg z_64))))) H := hP
        generalize hfe : va_up f_55 (r_2 0) (.inl (cy 0, 7666, .inl (upd g_61 z_59.toNatClampNeg z_64))) = f_69 at hP hI9 hfr9
        have hD : va_D A (va_pl L f_69) := tp_D hL hAL
        have hf_70 : f_69 (r_2 0) = .inl (cy 0, 7666, .inl (upd g_61 z_59.toNatClampNeg z_64)) := by rw [← hfe]; exact va_up_self _ _ _
        clear hfe
        have hI := hI9
        have hfr := hfr9
        clear hI9 hfr9
        have wtΓ_68_0 : Γ_68 (40, 7666, 0) 0 = Γ_54 (40, 7666, 0) 0 := by rw [eΓ_68]; exact tg_i (by omega)
        have wtΓ_68_1 : Γ_68 (40, 7666, 0) 1 = Γ_54 (40, 7666, 0) 1 := by rw [eΓ_68]; exact tg_i (by omega)
        have wsΓ_68 : Γ_68 (40, 7666, 0) ((9 + 3 * Γ (40, 7666, 0) 1 + 2).toNat) = Γ (40, 7666, 0) 0 := by rw [eΓ_68]; exact tg_s
        have hgr : ∀ κ : tk_K, κ.1 ∉ ([40] : List Nat) → Γ_68 κ = Γ κ := tg_fr hgr eΓ_68 (by decide)
        refine lv_iconst (v := 0) hx hb dX12_row_89 (by decide) ?_
        refine lv_istore (lv' := [(4, .int 0), (3, .int z_27), (0, .ref o), (1, .int p0), (2, .int p1)]) hx hb dX12_row_90 hl (by decide) rfl (fun ls hl => ?_)
        refine tl_ind (G := fun H locs ls => W p l e ((headSpec (tl_w yX12_row cX12_row 5 (some .int)) ({ frames := 1, cells := 0, slots := 0, locals := 25 })).room) s m #[.ref o, .int p0, .int p1] below meth c H locs 0 0 (MQ below (va_Qi (fun (r : Int32) (u : (Nat → va_E) × tk_G) => r.toInt = (if ¬ Γ (40, 7666, 0) 1 = 24 ∧ (0 ≤ p0.toInt ∧ p0.toInt ≤ 3) ∧ 0 ≤ p1.toInt ∧ p1.toInt ≤ 999 then Γ (40, 7666, 0) 1 else -1) ∧ u.2 (40, 7666, 0) = if ¬ Γ (40, 7666, 0) 1 = 24 ∧ (0 ≤ p0.toInt ∧ p0.toInt ≤ 3) ∧ 0 ≤ p1.toInt ∧ p1.toInt ≤ 999 then tgu (tm_fill (tgu (tgu (tgu (Γ (40, 7666, 0)) (9 + 3 * Γ (40, 7666, 0) 1 + 0).toNat (p0.toInt)) (9 + 3 * Γ (40, 7666, 0) 1 + 1).toNat (p1.toInt)) (9 + 3 * Γ (40, 7666, 0) 1 + 2).toNat (Γ (40, 7666, 0) 0)) (441 + 300 * Γ (40, 7666, 0) 1).toNat (441 + 300 * Γ (40, 7666, 0) 1 + 300).toNat (-1000000)) 1 (Γ (40, 7666, 0) 1 + 1) else Γ (40, 7666, 0)) (tp_BG D cy L K Γ f [40]) A) #[.ref o, .int p0, .int p1] s 0 0 A) (F0 m 92 ls [])) (α := (Nat → va_E) × tk_G × Int32) (fun aq => (300 - aq.2.2.toInt).toNat) (fun aq H locs ls => (0 ≤ aq.2.2.toInt) ∧ (aq.2.2.toInt ≤ 300) ∧ (aq.2.1 (40, 7666, 0) 1 = Γ (40, 7666, 0) 1) ∧ (aq.2.1 (40, 7666, 0) = tm_fill (tgu (tgu (tgu (Γ (40, 7666, 0)) (9 + 3 * Γ (40, 7666, 0) 1 + 0).toNat (p0.toInt)) (9 + 3 * Γ (40, 7666, 0) 1 + 1).toNat (p1.toInt)) (9 + 3 * Γ (40, 7666, 0) 1 + 2).toNat (Γ (40, 7666, 0) 0)) (441 + 300 * Γ (40, 7666, 0) 1).toNat (441 + 300 * Γ (40, 7666, 0) 1 + aq.2.2.toInt).toNat (-1000000)) ∧ va_P D vwCl (va_pl L aq.1) H ∧ tp_I cy L K aq.2.1 aq.1 ∧ (∀ b, (K b).1 ∉ ([40] : List Nat) → aq.1 b = f b) ∧ (∀ κ : tk_K, κ.1 ∉ ([40] : List Nat) → aq.2.1 κ = Γ κ) ∧ va_S A s.heap H locs ∧ lv_has ls 5 [(4, .int aq.2.2), (3, .int z_27), (0, .ref o), (1, .int p0), (2, .int p1)]) ?_ (f_69, Γ_68, (0 : Int32)) H locs ls ⟨(show 0 ≤ (0 : Int) from (by omega)), (show (0 : Int) ≤ 300 from (by omega)), (show Γ_68 (40, 7666, 0) 1 = Γ (40, 7666, 0) 1 from (by omega)), (show Γ_68 (40, 7666, 0) = tm_fill (tgu (tgu (tgu (Γ (40, 7666, 0)) (9 + 3 * Γ (40, 7666, 0) 1 + 0).toNat (p0.toInt)) (9 + 3 * Γ (40, 7666, 0) 1 + 1).toNat (p1.toInt)) (9 + 3 * Γ (40, 7666, 0) 1 + 2).toNat (Γ (40, 7666, 0) 0)) (441 + 300 * Γ (40, 7666, 0) 1).toNat (441 + 300 * Γ (40, 7666, 0) 1 + (0 : Int)).toNat (-1000000) from (by rw [tm_fill0 (by omega), eΓ_68, tg_f, eΓ_54, tg_f, eΓ_42, tg_f])), hP, hI, hfr, hgr, hS, lv_sub hl [0, 1, 2, 3, 4] rfl⟩
        rintro ⟨f_71, Γ_72, v4⟩ H locs ls ⟨h0, h1, hw1, hfl, hP, hI, hfr, hgr, hS, hl⟩ ih92
        have hgr : ∀ κ : tk_K, κ.1 ∉ ([40] : List Nat) → Γ_72 κ = Γ κ := hgr
        have hP : va_P D vwCl (va_pl L f_71) H := hP
        have hI : tp_I cy L K Γ_72 f_71 := hI
        have hfr : ∀ b, (K b).1 ∉ ([40] : List Nat) → f_71 b = f b := hfr
        have hD : va_D A (va_pl L f_71) := tp_D hL hAL
        have h0 : 0 ≤ v4.toInt := h0
        have h1 : v4.toInt ≤ 300 := h1
        have hw1 : Γ_72 (40, 7666, 0) 1 = Γ (40, 7666, 0) 1 := hw1
        have hfl : Γ_72 (40, 7666, 0) = tm_fill (tgu (tgu (tgu (Γ (40, 7666, 0)) (9 + 3 * Γ (40, 7666, 0) 1 + 0).toNat (p0.toInt)) (9 + 3 * Γ (40, 7666, 0) 1 + 1).toNat (p1.toInt)) (9 + 3 * Γ (40, 7666, 0) 1 + 2).toNat (Γ (40, 7666, 0) 0)) (441 + 300 * Γ (40, 7666, 0) 1).toNat (441 + 300 * Γ (40, 7666, 0) 1 + v4.toInt).toNat (-1000000) := hfl
        have hl : lv_has ls 5 [(4, .int v4), (3, .int z_27), (0, .ref o), (1, .int p0), (2, .int p1)] := hl
        refine lv_iload hx hb dX12_row_92 (lv_at hl 0 rfl) ?_
        refine lv_sipush (v := 300) hx hb dX12_row_94 (by decide) ?_
        refine lv_icmp_ge (tgt := 125) hx hb dX12_row_97 (by decide) (fun c_73 => ?_) (fun c_73 => ?_)
        · have c_73 : (300 : Int) ≤ v4.toInt := tl_le c_73
          refine lv_aload_n hx hb dX12_row_125 rfl (lv_at hl 2 rfl) ?_
          refine tp_get (cy := cy) (ci := 12) (v := .ref (r_2 0)) (C := RX12) (T := TX12) (N := 49) hx hb hta inlX12 hown hK hP ho.1 ((tp_un hfr ho (by decide)).trans hf_1) rfl 0 (by decide) (hta _ wk_149) (fun _ h9 => h9) rfl dX12_row_126 ?_
          refine lv_iconst (v := 1) hx hb dX12_row_129 (by decide) ?_
          refine lv_dup2_11 hx hb dX12_row_130 rfl rfl ?_
          obtain ⟨g_75, hf_74, hg_76⟩ := (show tp_gi cy (7666) (Γ_72 (40, 7666, 0)) (f_71 (r_2 0)) from hI.at (show tp_r L K 40 7666 0 (r_2 0) from hr_5 0 (by decide)))
          have hn_77 : vp_in 1 (7666) := tl_in (by decide) (by decide)
          refine tp_iald (cy := cy) hx hb hK hP (show tp_r L K 40 7666 0 (r_2 0) from hr_5 0 (by decide)).1 hf_74 hn_77 dX12_row_131 ?_
          refine lv_topi (fun z_78 ez_78 => ?_)
          have iz_78 : z_78.toInt = Γ_72 (40, 7666, 0) 1 := by rw [ez_78]; exact hg_76 _ (tp_pin hn_77)
          refine lv_iconst (v := 1) hx hb dX12_row_132 (by decide) ?_
          refine lv_iadd hx hb dX12_row_133 ?_
          refine lv_topi (fun z_79 ez_79 => ?_)
          try have iz_79 : z_79.toInt = z_78.toInt + (1 : Int) := by rw [ez_79]; exact tl_addN z_78 1 rfl rfl (by omega) (by omega)
          have hn_80 : vp_in 1 (7666) := tl_in (by decide) (by decide)
          have hj_81 : (1 : Int32).toNatClampNeg = 1 := by decide
          have hv_82 : z_79.toInt = Γ (40, 7666, 0) 1 + 1 := by omega
          obtain ⟨Γ_83, eΓ_83⟩ : ∃ y : tk_G, y = tg Γ_72 (40, 7666, 0) 1 (Γ (40, 7666, 0) 1 + 1) := ⟨_, rfl⟩
          have hI9 : tp_I cy L K Γ_83 (va_up f_71 (r_2 0) (.inl (cy 0, 7666, .inl (upd g_75 (1 : Int32).toNatClampNeg z_79)))) := by have q9 : tg Γ_72 (40, 7666, 0) 1 (Γ (40, 7666, 0) 1 + 1) = tg Γ_72 (40, 7666, 0) (1 : Int32).toNatClampNeg z_79.toInt := (by rw [hj_81, hv_82]); rw [eΓ_83, q9]; exact hI.setg hU rfl (show tp_r L K 40 7666 0 (r_2 0) from hr_5 0 (by decide)) (show tp_gi cy (7666) (tgu (Γ_72 (40, 7666, 0)) _ _) _ from ⟨_, rfl, tp_gi_upd hg_76⟩)
          have hfr9 : ∀ b, (K b).1 ∉ ([40] : List Nat) → va_up f_71 (r_2 0) (.inl (cy 0, 7666, .inl (upd g_75 (1 : Int32).toNatClampNeg z_79))) b = f b := tp_fr hfr (show tp_r L K 40 7666 0 (r_2 0) from hr_5 0 (by decide)) (by decide)
          refine tp_iast (cy := cy) hx hb hK hP hD hS (show tp_r L K 40 7666 0 (r_2 0) from hr_5 0 (by decide)).1 hf_74 hn_80 dX12_row_134 (fun H locs hP hD hS => ?_)
          have hP : va_P D vwCl (va_pl L (va_up f_71 (r_2 0) (.inl (cy 0, 7666, .inl (upd g_75 (1 : Int32).toNatClampNeg z_79))))) H := hP
          generalize hfe : va_up f_71 (r_2 0) (.inl (cy 0, 7666, .inl (upd g_75 (1 : Int32).toNatClampNeg z_79))) = f_84 at hP hI9 hfr9
          have hD : va_D A (va_pl L f_84) := tp_D hL hAL
          have hf_85 : f_84 (r_2 0) = .inl (cy 0, 7666, .inl (upd g_75 (1 : Int32).toNatClampNeg z_79)) := by rw [← hfe]; exact va_up_self _ _ _
          clear hfe
          have hI := hI9
          have hfr := hfr9
          clear hI9 hfr9
          have wtΓ_83_0 : Γ_83 (40, 7666, 0) 0 = Γ_72 (40, 7666, 0) 0 := by rw [eΓ_83]; exact tg_i (by omega)
          have wsΓ_83 : Γ_83 (40, 7666, 0) 1 = Γ (40, 7666, 0) 1 + 1 := by rw [eΓ_83]; exact tg_s
          have hgr : ∀ κ : tk_K, κ.1 ∉ ([40] : List Nat) → Γ_83 κ = Γ κ := tg_fr hgr eΓ_83 (by decide)
          refine lv_iload_n hx hb dX12_row_135 rfl (lv_at hl 1 rfl) ?_
          have hpo9 : (z_27 : Int32).toInt = (if ¬ Γ (40, 7666, 0) 1 = 24 ∧ (0 ≤ p0.toInt ∧ p0.toInt ≤ 3) ∧ 0 ≤ p1.toInt ∧ p1.toInt ≤ 999 then Γ (40, 7666, 0) 1 else -1) ∧ Γ_83 (40, 7666, 0) = if ¬ Γ (40, 7666, 0) 1 = 24 ∧ (0 ≤ p0.toInt ∧ p0.toInt ≤ 3) ∧ 0 ≤ p1.toInt ∧ p1.toInt ≤ 999 then tgu (tm_fill (tgu (tgu (tgu (Γ (40, 7666, 0)) (9 + 3 * Γ (40, 7666, 0) 1 + 0).toNat (p0.toInt)) (9 + 3 * Γ (40, 7666, 0) 1 + 1).toNat (p1.toInt)) (9 + 3 * Γ (40, 7666, 0) 1 + 2).toNat (Γ (40, 7666, 0) 0)) (441 + 300 * Γ (40, 7666, 0) 1).toNat (441 + 300 * Γ (40, 7666, 0) 1 + 300).toNat (-1000000)) 1 (Γ (40, 7666, 0) 1 + 1) else Γ (40, 7666, 0) := ⟨(by rw [if_pos (by omega)]; omega), (by rw [if_pos (by omega), eΓ_83, tg_f, hfl, show v4.toInt = 300 from by omega])⟩
          exact W.iret (v := z_27) hx hb hr (fun t ht hW => ⟨⟨_, (f_84, Γ_83), rfl, hpo9, by rw [ht]; exact hP, hI, hfr, hgr⟩, hS.F ht⟩) hS.2.2 dX12_row_136
        · have c_73 : v4.toInt < (300 : Int) := tl_nle c_73
          refine lv_aload_n hx hb dX12_row_100 rfl (lv_at hl 2 rfl) ?_
          refine tp_get (cy := cy) (ci := 12) (v := .ref (r_2 0)) (C := RX12) (T := TX12) (N := 49) hx hb hta inlX12 hown hK hP ho.1 ((tp_un hfr ho (by decide)).trans hf_1) rfl 0 (by decide) (hta _ wk_149) (fun _ h9 => h9) rfl dX12_row_101 ?_
          refine lv_sipush (v := 441) hx hb dX12_row_104 (by decide) ?_
          refine lv_sipush (v := 300) hx hb dX12_row_107 (by decide) ?_
          refine lv_iload_n hx hb dX12_row_110 rfl (lv_at hl 1 rfl) ?_
          refine lv_imul hx hb dX12_row_111 ?_
          refine lv_topi (fun z_86 ez_86 => ?_)
          try have iz_86 : z_86.toInt = (300 : Int) * z_27.toInt := by rw [ez_86]; exact tl_mulN 300 z_27 rfl rfl (by omega) (by omega)
          refine lv_iadd hx hb dX12_row_112 ?_
          refine lv_topi (fun z_87 ez_87 => ?_)
          try have iz_87 : z_87.toInt = (441 : Int) + z_86.toInt := by rw [ez_87]; exact tl_addN 441 z_86 rfl rfl (by omega) (by omega)
          refine lv_iload hx hb dX12_row_113 (lv_at hl 0 rfl) ?_
          refine lv_iadd hx hb dX12_row_115 ?_
          refine lv_topi (fun z_88 ez_88 => ?_)
          try have iz_88 : z_88.toInt = z_87.toInt + v4.toInt := by rw [ez_88]; exact tl_addN z_87 v4 rfl rfl (by omega) (by omega)
          refine lv_ldc (v := (-1000000)) hx hb hown (hta _ wk_182) dX12_row_116 ?_
          obtain ⟨g_90, hf_89, hg_91⟩ := (show tp_gi cy (7666) (Γ_72 (40, 7666, 0)) (f_71 (r_2 0)) from hI.at (show tp_r L K 40 7666 0 (r_2 0) from hr_5 0 (by decide)))
          have hn_92 : vp_in z_88 (7666) := tl_in (by omega) (by omega)
          have hj_93 : z_88.toNatClampNeg = (441 + 300 * Γ (40, 7666, 0) 1 + v4.toInt).toNat := by show z_88.toInt.toNat = _; omega
          have hv_94 : ((-1000000) : Int32).toInt = (-1000000 : Int) := by decide
          obtain ⟨Γ_95, eΓ_95⟩ : ∃ y : tk_G, y = tg Γ_72 (40, 7666, 0) ((441 + 300 * Γ (40, 7666, 0) 1 + v4.toInt).toNat) (-1000000 : Int) := ⟨_, rfl⟩
          have hI9 : tp_I cy L K Γ_95 (va_up f_71 (r_2 0) (.inl (cy 0, 7666, .inl (upd g_90 z_88.toNatClampNeg (-1000000))))) := by have q9 : tg Γ_72 (40, 7666, 0) ((441 + 300 * Γ (40, 7666, 0) 1 + v4.toInt).toNat) (-1000000 : Int) = tg Γ_72 (40, 7666, 0) z_88.toNatClampNeg ((-1000000) : Int32).toInt := (by rw [hj_93, hv_94]); rw [eΓ_95, q9]; exact hI.setg hU rfl (show tp_r L K 40 7666 0 (r_2 0) from hr_5 0 (by decide)) (show tp_gi cy (7666) (tgu (Γ_72 (40, 7666, 0)) _ _) _ from ⟨_, rfl, tp_gi_upd hg_91⟩)
          have hfr9 : ∀ b, (K b).1 ∉ ([40] : List Nat) → va_up f_71 (r_2 0) (.inl (cy 0, 7666, .inl (upd g_90 z_88.toNatClampNeg (-1000000)))) b = f b := tp_fr hfr (show tp_r L K 40 7666 0 (r_2 0) from hr_5 0 (by decide)) (by decide)
          refine tp_iast (cy := cy) hx hb hK hP hD hS (show tp_r L K 40 7666 0 (r_2 0) from hr_5 0 (by decide)).1 hf_89 hn_92 dX12_row_118 (fun H locs hP hD hS => ?_)
          have hP : va_P D vwCl (va_pl L (va_up f_71 (r_2 0) (.inl (cy 0, 7666, .inl (upd g_90 z_88.toNatClampNeg (-1000000)))))) H := hP
          generalize hfe : va_up f_71 (r_2 0) (.inl (cy 0, 7666, .inl (upd g_90 z_88.toNatClampNeg (-1000000)))) = f_96 at hP hI9 hfr9
          have hD : va_D A (va_pl L f_96) := tp_D hL hAL
          have hf_97 : f_96 (r_2 0) = .inl (cy 0, 7666, .inl (upd g_90 z_88.toNatClampNeg (-1000000))) := by rw [← hfe]; exact va_up_self _ _ _
          clear hfe
          have hI := hI9
          have hfr := hfr9
          clear hI9 hfr9
          have wtΓ_95_0 : Γ_95 (40, 7666, 0) 0 = Γ_72 (40, 7666, 0) 0 := by rw [eΓ_95]; exact tg_i (by omega)
          have wtΓ_95_1 : Γ_95 (40, 7666, 0) 1 = Γ_72 (40, 7666, 0) 1 := by rw [eΓ_95]; exact tg_i (by omega)
          have wsΓ_95 : Γ_95 (40, 7666, 0) ((441 + 300 * Γ (40, 7666, 0) 1 + v4.toInt).toNat) = (-1000000 : Int) := by rw [eΓ_95]; exact tg_s
          have hgr : ∀ κ : tk_K, κ.1 ∉ ([40] : List Nat) → Γ_95 κ = Γ κ := tg_fr hgr eΓ_95 (by decide)
          obtain ⟨z_98, ez_98⟩ : ∃ y : Int32, y = v4 + 1 := ⟨_, rfl⟩
          refine lv_iinc (v := z_98) (lv' := [(4, .int z_98), (3, .int z_27), (0, .ref o), (1, .int p0), (2, .int p1)]) hx hb dX12_row_119 hl (k := 0) rfl (by rw [ez_98]; rfl) (by decide) rfl (fun ls hl => ?_)
          try have iz_98 : z_98.toInt = v4.toInt + 1 := by rw [ez_98]; exact tl_addL v4 1 (by decide) (by omega) (by omega)
          refine lv_goto (tgt := 92) hx hb dX12_row_122 (by decide) ?_
          exact ih92 (f_96, Γ_95, z_98) H locs ls (by show (300 - z_98.toInt).toNat < (300 - v4.toInt).toNat; omega) ⟨(show 0 ≤ z_98.toInt from (by omega)), (show z_98.toInt ≤ 300 from (by omega)), (show Γ_95 (40, 7666, 0) 1 = Γ (40, 7666, 0) 1 from (by omega)), (show Γ_95 (40, 7666, 0) = tm_fill (tgu (tgu (tgu (Γ (40, 7666, 0)) (9 + 3 * Γ (40, 7666, 0) 1 + 0).toNat (p0.toInt)) (9 + 3 * Γ (40, 7666, 0) 1 + 1).toNat (p1.toInt)) (9 + 3 * Γ (40, 7666, 0) 1 + 2).toNat (Γ (40, 7666, 0) 0)) (441 + 300 * Γ (40, 7666, 0) 1).toNat (441 + 300 * Γ (40, 7666, 0) 1 + z_98.toInt).toNat (-1000000) from (by rw [eΓ_95, tg_f, hfl]; exact tm_fill1 (by omega) (by omega))), hP, hI, hfr, hgr, hS, lv_sub hl [0, 1, 2, 3, 4] rfl⟩
      · have c_34 := hw_32.f c_34
        refine lv_iconst (v := (-1)) hx hb dX12_row_35 (by decide) ?_
        have hpo9 : ((-1) : Int32).toInt = (if ¬ Γ (40, 7666, 0) 1 = 24 ∧ (0 ≤ p0.toInt ∧ p0.toInt ≤ 3) ∧ 0 ≤ p1.toInt ∧ p1.toInt ≤ 999 then Γ (40, 7666, 0) 1 else -1) ∧ Γ (40, 7666, 0) = if ¬ Γ (40, 7666, 0) 1 = 24 ∧ (0 ≤ p0.toInt ∧ p0.toInt ≤ 3) ∧ 0 ≤ p1.toInt ∧ p1.toInt ≤ 999 then tgu (tm_fill (tgu (tgu (tgu (Γ (40, 7666, 0)) (9 + 3 * Γ (40, 7666, 0) 1 + 0).toNat (p0.toInt)) (9 + 3 * Γ (40, 7666, 0) 1 + 1).toNat (p1.toInt)) (9 + 3 * Γ (40, 7666, 0) 1 + 2).toNat (Γ (40, 7666, 0) 0)) (441 + 300 * Γ (40, 7666, 0) 1).toNat (441 + 300 * Γ (40, 7666, 0) 1 + 300).toNat (-1000000)) 1 (Γ (40, 7666, 0) 1 + 1) else Γ (40, 7666, 0) := ⟨(by rw [if_neg (by omega)]; rfl), (by rw [if_neg (by omega)])⟩
        exact W.iret (v := (-1)) hx hb hr (fun t ht hW => ⟨⟨_, (f, Γ), rfl, hpo9, by rw [ht]; exact hP, hI, hfr, hgr⟩, hS.F ht⟩) hS.2.2 dX12_row_36
set_option maxHeartbeats 4000000 in
set_option maxRecDepth 100000 in
theorem r_X12_image (l : Launch) (D : va_G) (cy : Nat → ClassId) (sz : Nat) (L : List Nat) (K : Nat → tk_K) (Γ : tk_G) (f : Nat → va_E) (o : Nat) (p0 : Int32) (ho : tp_r L K 39 (0) 0 o) : Met l yX12_image (tl_w yX12_image cX12_image 3 (some .int)) ({ frames := 1, cells := 0, slots := 0, locals := 25 }) (va_Pc [.ref o, .int p0] (tp_P D cy L K Γ f sz)) (va_Qi (fun (r : Int32) (u : (Nat → va_E) × tk_G) => r.toInt = (if 0 ≤ p0.toInt ∧ p0.toInt ≤ 3 then Γ (40, 7666, 0) 1 else -1) ∧ (u.2 (71, 4, 0) = if 0 ≤ p0.toInt ∧ p0.toInt ≤ 3 then tgu (Γ (71, 4, 0)) p0.toInt.toNat 1 else Γ (71, 4, 0)) ∧ u.2 (70, 30664, 0) = if 0 ≤ p0.toInt ∧ p0.toInt ≤ 3 then tm_cp (Γ (70, 30664, 0)) (Γ (40, 7666, 0)) (7666 * p0.toInt).toNat (7666 * p0.toInt + 7666).toNat 0 else Γ (70, 30664, 0)) (tp_BG D cy L K Γ f [71, 70]) (tp_A L sz)) 0 0 (tp_A L sz) := by
  refine Met.ofW (cc := cX12_image) (maxL := 3) (ret := (some .int)) (by decide) rfl ?_
  intro p e s m args below meth c s₁ B hml hv
  obtain ⟨rfl, hsz, hP, hK, hL, hI, hN, hU⟩ := hv
  have hx := B.exec
  have hb := B.bytes
  have hr := B.returns
  have hta := tl_hta (atoms_spec (ws := tl_w yX12_image cX12_image 3 (some .int)) B.pre)
  have hown : s.vm.findClass RX12 = some m.cls := findClass_of_methodNamed B.named
  have hlocks := B.notSynchronized
  subst hsz
  have hI0 := hI
  generalize hAe : tp_A L s.heap.size = A
  have hA : ∀ q : Nat, s.heap.size ≤ q → A q := fun q h => by rw [← hAe]; exact Or.inr h
  have hAL : ∀ q ∈ L, A q := fun q h => by rw [← hAe]; exact Or.inl h
  have hAf : ∀ (H : Heap), s.heap.size ≤ H.size → ∀ q, tp_A L H.size q → A q := fun H h q hq => hq.elim (hAL q) (fun h2 => hA q (Nat.le_trans h h2))
  have hS : va_S A s.heap s.heap [] := va_S.rf
  have hD : va_D A (va_pl L f) := tp_D hL hAL
  have hfr : ∀ b, (K b).1 ∉ ([71, 70] : List Nat) → f b = f b := fun _ _ => rfl
  have hgr : ∀ κ : tk_K, κ.1 ∉ ([71, 70] : List Nat) → Γ κ = Γ κ := fun _ _ => rfl
  have hl := lv_entry ([.ref o, .int p0]) (n := 3) (Nat.le_of_ble_eq_true rfl)
  rw [lg_entry_eq]
  generalize (lg_sl ([.ref o, .int p0]) ++ List.replicate (3 - (lg_sl ([.ref o, .int p0])).length) Slot.unset).toArray = ls at hl ⊢
  have hl : lv_has ls 3 [(0, .ref o), (1, .int p0)] := hl
  refine lv_iload_n hx hb dX12_image_0 rfl (lv_at hl 1 rfl) ?_
  refine lv_i2l (v := p0.toInt64) hx hb dX12_image_1 (by first | rfl | decide) ?_
  refine lv_lconst (v := 0) hx hb dX12_image_2 (by decide) ?_
  refine lv_ldc2 (v := 3) hx hb hown (hta _ wk_221) dX12_image_3 ?_
  refine tl_si (tq_rS (As := [.long p0.toInt64, .long 0, .long 3]) (rest := []) ⟨hx, hb, hml, hown, hta⟩ (tp_P.pre hK hN hL hU hI hP) lk_X12_112 (r_X12_in l D cy s.heap.size L K Γ f p0.toInt64 0 3 ) rfl rfl ⟨Nat.le_of_ble_eq_true rfl, Nat.le_of_ble_eq_true rfl⟩ rfl hl.1 rfl (Nat.le_of_ble_eq_true rfl) dX12_image_6 ⟨Nat.le_of_ble_eq_true rfl, Nat.le_of_ble_eq_true rfl⟩) (fun r_2 hw_1 => ?_)
  simp only [Int32.toInt_toInt64] at hw_1
  have hw_1 : tl_E r_2 ((0 : Int) ≤ p0.toInt ∧ p0.toInt ≤ (3 : Int)) 1 0 := hw_1
  refine lv_if_ne (tgt := 14) hx hb dX12_image_9 (by decide) (fun c_3 => ?_) (fun c_3 => ?_)
  · have c_3 := hw_1.t c_3
    refine lv_aload_n hx hb dX12_image_14 rfl (lv_at hl 0 rfl) ?_
    obtain ⟨r_5, v_6, q_7, hf_4, hr_8, hv_9⟩ := (show tp_o_M L K 0 0 (Γ (39, 0, 0)) (f o) from hI0.at ho)
    refine tp_get (cy := cy) (ci := 12) (v := .ref (r_5 31)) (C := RX12) (T := TX12) (N := 49) hx hb hta inlX12 hown hK hP ho.1 hf_4 rfl 48 (by decide) (hta _ wk_181) (fun _ h9 => h9) rfl dX12_image_15 ?_
    refine lv_iload_n hx hb dX12_image_18 rfl (lv_at hl 1 rfl) ?_
    refine lv_iconst (v := 1) hx hb dX12_image_19 (by decide) ?_
    obtain ⟨g_27, hf_26, hg_28⟩ := (show tp_gz cy (4) (Γ (71, 4, 0)) (f (r_5 31)) from hI.at (show tp_r L K 71 4 0 (r_5 31) from hr_8 31 (by decide)))
    have hn_29 : vp_in p0 (4) := tl_in (by omega) (by omega)
    have nz_30 : (vp_nar .boolean (1 : Int32)).toInt = (1 : Int) := by decide
    obtain ⟨Γ_31, eΓ_31⟩ : ∃ y : tk_G, y = tg Γ (71, 4, 0) p0.toInt.toNat (1 : Int) := ⟨_, rfl⟩
    have hI9 : tp_I cy L K Γ_31 (va_up f (r_5 31) (.inl (cy 2, 4, .inl (upd g_27 p0.toNatClampNeg (vp_nar .boolean 1))))) := by rw [eΓ_31]; exact hI.setg hU rfl (show tp_r L K 71 4 0 (r_5 31) from hr_8 31 (by decide)) (show tp_gz cy (4) (tgu (Γ (71, 4, 0)) p0.toInt.toNat (1 : Int)) _ from ⟨_, rfl, tp_gz_upd hg_28 nz_30⟩)
    have hfr9 : ∀ b, (K b).1 ∉ ([71, 70] : List Nat) → va_up f (r_5 31) (.inl (cy 2, 4, .inl (upd g_27 p0.toNatClampNeg (vp_nar .boolean 1)))) b = f b := tp_fr hfr (show tp_r L K 71 4 0 (r_5 31) from hr_8 31 (by decide)) (by decide)
    refine tp_zast (cy := cy) hx hb hK hP hD hS (show tp_r L K 71 4 0 (r_5 31) from hr_8 31 (by decide)).1 hf_26 hn_29 dX12_image_20 (fun H locs hP hD hS => ?_)
    have hP : va_P D vwCl (va_pl L (va_up f (r_5 31) (.inl (cy 2, 4, .inl (upd g_27 p0.toNatClampNeg (vp_nar .boolean 1)))))) H := hP
    generalize hfe : va_up f (r_5 31) (.inl (cy 2, 4, .inl (upd g_27 p0.toNatClampNeg (vp_nar .boolean 1)))) = f_32 at hP hI9 hfr9
    have hD : va_D A (va_pl L f_32) := tp_D hL hAL
    have hf_33 : f_32 (r_5 31) = .inl (cy 2, 4, .inl (upd g_27 p0.toNatClampNeg (vp_nar .boolean 1))) := by rw [← hfe]; exact va_up_self _ _ _
    clear hfe
    have hI := hI9
    have hfr := hfr9
    clear hI9 hfr9
    have hgr : ∀ κ : tk_K, κ.1 ∉ ([71, 70] : List Nat) → Γ_31 κ = Γ κ := tg_fr hgr eΓ_31 (by decide)
    refine lv_iconst (v := 0) hx hb dX12_image_21 (by decide) ?_
    refine lv_istore_n (lv' := [(2, .int 0), (0, .ref o), (1, .int p0)]) hx hb dX12_image_22 rfl hl (by decide) rfl (fun ls hl => ?_)
    refine tl_ind (G := fun H locs ls => W p l e ((headSpec (tl_w yX12_image cX12_image 3 (some .int)) ({ frames := 1, cells := 0, slots := 0, locals := 25 })).room) s m #[.ref o, .int p0] below meth c H locs 0 0 (MQ below (va_Qi (fun (r : Int32) (u : (Nat → va_E) × tk_G) => r.toInt = (if 0 ≤ p0.toInt ∧ p0.toInt ≤ 3 then Γ (40, 7666, 0) 1 else -1) ∧ (u.2 (71, 4, 0) = if 0 ≤ p0.toInt ∧ p0.toInt ≤ 3 then tgu (Γ (71, 4, 0)) p0.toInt.toNat 1 else Γ (71, 4, 0)) ∧ u.2 (70, 30664, 0) = if 0 ≤ p0.toInt ∧ p0.toInt ≤ 3 then tm_cp (Γ (70, 30664, 0)) (Γ (40, 7666, 0)) (7666 * p0.toInt).toNat (7666 * p0.toInt + 7666).toNat 0 else Γ (70, 30664, 0)) (tp_BG D cy L K Γ f [71, 70]) A) #[.ref o, .int p0] s 0 0 A) (F0 m 23 ls [])) (α := (Nat → va_E) × tk_G × Int32) (fun aq => (7666 - aq.2.2.toInt).toNat) (fun aq H locs ls => (0 ≤ aq.2.2.toInt) ∧ (aq.2.2.toInt ≤ 7666) ∧ (aq.2.1 (71, 4, 0) = tgu (Γ (71, 4, 0)) p0.toInt.toNat 1) ∧ (aq.2.1 (70, 30664, 0) = tm_cp (Γ (70, 30664, 0)) (Γ (40, 7666, 0)) (7666 * p0.toInt).toNat (7666 * p0.toInt + aq.2.2.toInt).toNat 0) ∧ va_P D vwCl (va_pl L aq.1) H ∧ tp_I cy L K aq.2.1 aq.1 ∧ (∀ b, (K b).1 ∉ ([71, 70] : List Nat) → aq.1 b = f b) ∧ (∀ κ : tk_K, κ.1 ∉ ([71, 70] : List Nat) → aq.2.1 κ = Γ κ) ∧ va_S A s.heap H locs ∧ lv_has ls 3 [(2, .int aq.2.2), (0, .ref o), (1, .int p0)]) ?_ (f_32, Γ_31, (0 : Int32)) H locs ls ⟨(show 0 ≤ (0 : Int) from (by omega)), (show (0 : Int) ≤ 7666 from (by omega)), (show Γ_31 (71, 4, 0) = tgu (Γ (71, 4, 0)) p0.toInt.toNat 1 from (by rw [eΓ_31, tg_f])), (show Γ_31 (70, 30664, 0) = tm_cp (Γ (70, 30664, 0)) (Γ (40, 7666, 0)) (7666 * p0.toInt).toNat (7666 * p0.toInt + (0 : Int)).toNat 0 from (by rw [tm_cp0 (by omega), eΓ_31, tg_rf (by decide)])), hP, hI, hfr, hgr, hS, lv_sub hl [0, 1, 2] rfl⟩
    rintro ⟨f_34, Γ_35, v2⟩ H locs ls ⟨h0, h1, hm, hcp, hP, hI, hfr, hgr, hS, hl⟩ ih23
    have hgr : ∀ κ : tk_K, κ.1 ∉ ([71, 70] : List Nat) → Γ_35 κ = Γ κ := hgr
    have hP : va_P D vwCl (va_pl L f_34) H := hP
    have hI : tp_I cy L K Γ_35 f_34 := hI
    have hfr : ∀ b, (K b).1 ∉ ([71, 70] : List Nat) → f_34 b = f b := hfr
    have hD : va_D A (va_pl L f_34) := tp_D hL hAL
    have h0 : 0 ≤ v2.toInt := h0
    have h1 : v2.toInt ≤ 7666 := h1
    have hm : Γ_35 (71, 4, 0) = tgu (Γ (71, 4, 0)) p0.toInt.toNat 1 := hm
    have hcp : Γ_35 (70, 30664, 0) = tm_cp (Γ (70, 30664, 0)) (Γ (40, 7666, 0)) (7666 * p0.toInt).toNat (7666 * p0.toInt + v2.toInt).toNat 0 := hcp
    have hl : lv_has ls 3 [(2, .int v2), (0, .ref o), (1, .int p0)] := hl
    refine lv_iload_n hx hb dX12_image_23 rfl (lv_at hl 0 rfl) ?_
    refine lv_sipush (v := 7666) hx hb dX12_image_24 (by decide) ?_
    refine lv_icmp_ge (tgt := 54) hx hb dX12_image_27 (by decide) (fun c_36 => ?_) (fun c_36 => ?_)
    · have c_36 : (7666 : Int) ≤ v2.toInt := tl_le c_36
      refine lv_aload_n hx hb dX12_image_54 rfl (lv_at hl 1 rfl) ?_
      refine tp_get (cy := cy) (ci := 12) (v := .ref (r_5 0)) (C := RX12) (T := TX12) (N := 49) hx hb hta inlX12 hown hK hP ho.1 ((tp_un hfr ho (by decide)).trans hf_4) rfl 0 (by decide) (hta _ wk_149) (fun _ h9 => h9) rfl dX12_image_55 ?_
      refine lv_iconst (v := 1) hx hb dX12_image_58 (by decide) ?_
      obtain ⟨g_38, hf_37, hg_39⟩ := (show tp_gi cy (7666) (Γ (40, 7666, 0)) (f (r_5 0)) from hI0.at (show tp_r L K 40 7666 0 (r_5 0) from hr_8 0 (by decide)))
      have hn_40 : vp_in 1 (7666) := tl_in (by decide) (by decide)
      refine tp_iald (cy := cy) hx hb hK hP (show tp_r L K 40 7666 0 (r_5 0) from hr_8 0 (by decide)).1 ((tp_un hfr (show tp_r L K 40 7666 0 (r_5 0) from hr_8 0 (by decide)) (by decide)).trans hf_37) hn_40 dX12_image_59 ?_
      refine lv_topi (fun z_41 ez_41 => ?_)
      have iz_41 : z_41.toInt = Γ (40, 7666, 0) 1 := by rw [ez_41]; exact hg_39 _ (tp_pin hn_40)
      have hpo9 : (z_41 : Int32).toInt = (if 0 ≤ p0.toInt ∧ p0.toInt ≤ 3 then Γ (40, 7666, 0) 1 else -1) ∧ (Γ_35 (71, 4, 0) = if 0 ≤ p0.toInt ∧ p0.toInt ≤ 3 then tgu (Γ (71, 4, 0)) p0.toInt.toNat 1 else Γ (71, 4, 0)) ∧ Γ_35 (70, 30664, 0) = if 0 ≤ p0.toInt ∧ p0.toInt ≤ 3 then tm_cp (Γ (70, 30664, 0)) (Γ (40, 7666, 0)) (7666 * p0.toInt).toNat (7666 * p0.toInt + 7666).toNat 0 else Γ (70, 30664, 0) := ⟨(by rw [if_pos (by omega)]; exact iz_41), (by rw [if_pos (by omega)]; exact hm), (by rw [if_pos (by omega), hcp, show v2.toInt = 7666 from by omega])⟩
      exact W.iret (v := z_41) hx hb hr (fun t ht hW => ⟨⟨_, (f_34, Γ_35), rfl, hpo9, by rw [ht]; exact hP, hI, hfr, hgr⟩, hS.F ht⟩) hS.2.2 dX12_image_60
    · have c_36 : v2.toInt < (7666 : Int) := tl_nle c_36
      refine lv_aload_n hx hb dX12_image_30 rfl (lv_at hl 1 rfl) ?_
      refine tp_get (cy := cy) (ci := 12) (v := .ref (r_5 30)) (C := RX12) (T := TX12) (N := 49) hx hb hta inlX12 hown hK hP ho.1 ((tp_un hfr ho (by decide)).trans hf_4) rfl 47 (by decide) (hta _ wk_180) (fun _ h9 => h9) rfl dX12_image_31 ?_
      refine lv_sipush (v := 7666) hx hb dX12_image_34 (by decide) ?_
      refine lv_iload_n hx hb dX12_image_37 rfl (lv_at hl 2 rfl) ?_
      refine lv_imul hx hb dX12_image_38 ?_
      refine lv_topi (fun z_42 ez_42 => ?_)
      try have iz_42 : z_42.toInt = (7666 : Int) * p0.toInt := by rw [ez_42]; exact tl_mulN 7666 p0 rfl rfl (by omega) (by omega)
      refine lv_iload_n hx hb dX12_image_39 rfl (lv_at hl 0 rfl) ?_
      refine lv_iadd hx hb dX12_image_40 ?_
      refine lv_topi (fun z_43 ez_43 => ?_)
      try have iz_43 : z_43.toInt = z_42.toInt + v2.toInt := by rw [ez_43]; exact tl_addN z_42 v2 rfl rfl (by omega) (by omega)
      refine lv_aload_n hx hb dX12_image_41 rfl (lv_at hl 1 rfl) ?_
      refine tp_get (cy := cy) (ci := 12) (v := .ref (r_5 0)) (C := RX12) (T := TX12) (N := 49) hx hb hta inlX12 hown hK hP ho.1 ((tp_un hfr ho (by decide)).trans hf_4) rfl 0 (by decide) (hta _ wk_149) (fun _ h9 => h9) rfl dX12_image_42 ?_
      refine lv_iload_n hx hb dX12_image_45 rfl (lv_at hl 0 rfl) ?_
      obtain ⟨g_45, hf_44, hg_46⟩ := (show tp_gi cy (7666) (Γ (40, 7666, 0)) (f (r_5 0)) from hI0.at (show tp_r L K 40 7666 0 (r_5 0) from hr_8 0 (by decide)))
      have hn_47 : vp_in v2 (7666) := tl_in (by omega) (by omega)
      refine tp_iald (cy := cy) hx hb hK hP (show tp_r L K 40 7666 0 (r_5 0) from hr_8 0 (by decide)).1 ((tp_un hfr (show tp_r L K 40 7666 0 (r_5 0) from hr_8 0 (by decide)) (by decide)).trans hf_44) hn_47 dX12_image_46 ?_
      refine lv_topi (fun z_48 ez_48 => ?_)
      have iz_48 : z_48.toInt = Γ (40, 7666, 0) v2.toInt.toNat := by rw [ez_48]; exact hg_46 _ (tp_pin hn_47)
      obtain ⟨g_50, hf_49, hg_51⟩ := (show tp_gi cy (30664) (Γ_35 (70, 30664, 0)) (f_34 (r_5 30)) from hI.at (show tp_r L K 70 30664 0 (r_5 30) from hr_8 30 (by decide)))
      have hn_52 : vp_in z_43 (30664) := tl_in (by omega) (by omega)
      have hj_53 : z_43.toNatClampNeg = (7666 * p0.toInt + v2.toInt).toNat := by show z_43.toInt.toNat = _; omega
      have hv_54 : z_48.toInt = z_48.toInt := rfl
      obtain ⟨Γ_55, eΓ_55⟩ : ∃ y : tk_G, y = tg Γ_35 (70, 30664, 0) ((7666 * p0.toInt + v2.toInt).toNat) z_48.toInt := ⟨_, rfl⟩
      have hI9 : tp_I cy L K Γ_55 (va_up f_34 (r_5 30) (.inl (cy 0, 30664, .inl (upd g_50 z_43.toNatClampNeg z_48)))) := by have q9 : tg Γ_35 (70, 30664, 0) ((7666 * p0.toInt + v2.toInt).toNat) z_48.toInt = tg Γ_35 (70, 30664, 0) z_43.toNatClampNeg z_48.toInt := (by rw [hj_53, hv_54]); rw [eΓ_55, q9]; exact hI.setg hU rfl (show tp_r L K 70 30664 0 (r_5 30) from hr_8 30 (by decide)) (show tp_gi cy (30664) (tgu (Γ_35 (70, 30664, 0)) _ _) _ from ⟨_, rfl, tp_gi_upd hg_51⟩)
      have hfr9 : ∀ b, (K b).1 ∉ ([71, 70] : List Nat) → va_up f_34 (r_5 30) (.inl (cy 0, 30664, .inl (upd g_50 z_43.toNatClampNeg z_48))) b = f b := tp_fr hfr (show tp_r L K 70 30664 0 (r_5 30) from hr_8 30 (by decide)) (by decide)
      refine tp_iast (cy := cy) hx hb hK hP hD hS (show tp_r L K 70 30664 0 (r_5 30) from hr_8 30 (by decide)).1 hf_49 hn_52 dX12_image_47 (fun H locs hP hD hS => ?_)
      have hP : va_P D vwCl (va_pl L (va_up f_34 (r_5 30) (.inl (cy 0, 30664, .inl (upd g_50 z_43.toNatClampNeg z_48))))) H := hP
      generalize hfe : va_up f_34 (r_5 30) (.inl (cy 0, 30664, .inl (upd g_50 z_43.toNatClampNeg z_48))) = f_56 at hP hI9 hfr9
      have hD : va_D A (va_pl L f_56) := tp_D hL hAL
      have hf_57 : f_56 (r_5 30) = .inl (cy 0, 30664, .inl (upd g_50 z_43.toNatClampNeg z_48)) := by rw [← hfe]; exact va_up_self _ _ _
      clear hfe
      have hI := hI9
      have hfr := hfr9
      clear hI9 hfr9
      have wsΓ_55 : Γ_55 (70, 30664, 0) ((7666 * p0.toInt + v2.toInt).toNat) = z_48.toInt := by rw [eΓ_55]; exact tg_s
      have hgr : ∀ κ : tk_K, κ.1 ∉ ([71, 70] : List Nat) → Γ_55 κ = Γ κ := tg_fr hgr eΓ_55 (by decide)
      obtain ⟨z_58, ez_58⟩ : ∃ y : Int32, y = v2 + 1 := ⟨_, rfl⟩
      refine lv_iinc (v := z_58) (lv' := [(2, .int z_58), (0, .ref o), (1, .int p0)]) hx hb dX12_image_48 hl (k := 0) rfl (by rw [ez_58]; rfl) (by decide) rfl (fun ls hl => ?_)
      try have iz_58 : z_58.toInt = v2.toInt + 1 := by rw [ez_58]; exact tl_addL v2 1 (by decide) (by omega) (by omega)
      refine lv_goto (tgt := 23) hx hb dX12_image_51 (by decide) ?_
      exact ih23 (f_56, Γ_55, z_58) H locs ls (by show (7666 - z_58.toInt).toNat < (7666 - v2.toInt).toNat; omega) ⟨(show 0 ≤ z_58.toInt from (by omega)), (show z_58.toInt ≤ 7666 from (by omega)), (show Γ_55 (71, 4, 0) = tgu (Γ (71, 4, 0)) p0.toInt.toNat 1 from (by rw [eΓ_55, tg_rf (by decide)]; exact hm)), (show Γ_55 (70, 30664, 0) = tm_cp (Γ (70, 30664, 0)) (Γ (40, 7666, 0)) (7666 * p0.toInt).toNat (7666 * p0.toInt + z_58.toInt).toNat 0 from (by rw [eΓ_55, tg_f, hcp]; exact tm_cp1 (by omega) (by omega) (iz_48.trans (congrArg _ (by omega))))), hP, hI, hfr, hgr, hS, lv_sub hl [0, 1, 2] rfl⟩
  · have c_3 := hw_1.f c_3
    refine lv_iconst (v := (-1)) hx hb dX12_image_12 (by decide) ?_
    have hpo9 : ((-1) : Int32).toInt = (if 0 ≤ p0.toInt ∧ p0.toInt ≤ 3 then Γ (40, 7666, 0) 1 else -1) ∧ (Γ (71, 4, 0) = if 0 ≤ p0.toInt ∧ p0.toInt ≤ 3 then tgu (Γ (71, 4, 0)) p0.toInt.toNat 1 else Γ (71, 4, 0)) ∧ Γ (70, 30664, 0) = if 0 ≤ p0.toInt ∧ p0.toInt ≤ 3 then tm_cp (Γ (70, 30664, 0)) (Γ (40, 7666, 0)) (7666 * p0.toInt).toNat (7666 * p0.toInt + 7666).toNat 0 else Γ (70, 30664, 0) := ⟨(by rw [if_neg (by omega)]; rfl), (by rw [if_neg (by omega)]), (by rw [if_neg (by omega)])⟩
    exact W.iret (v := (-1)) hx hb hr (fun t ht hW => ⟨⟨_, (f, Γ), rfl, hpo9, by rw [ht]; exact hP, hI, hfr, hgr⟩, hS.F ht⟩) hS.2.2 dX12_image_13
set_option maxHeartbeats 4000000 in
set_option maxRecDepth 100000 in
theorem r_X12_back (l : Launch) (D : va_G) (cy : Nat → ClassId) (sz : Nat) (L : List Nat) (K : Nat → tk_K) (Γ : tk_G) (f : Nat → va_E) (o : Nat) (p0 : Int32) (ho : tp_r L K 39 (0) 0 o) : Met l yX12_back (tl_w yX12_back cX12_back 3 (some .int)) ({ frames := 1, cells := 0, slots := 0, locals := 25 }) (va_Pc [.ref o, .int p0] (tp_P D cy L K Γ f sz)) (va_Qi (fun (r : Int32) (u : (Nat → va_E) × tk_G) => r.toInt = (if (0 ≤ p0.toInt ∧ p0.toInt ≤ 3) ∧ ¬ Γ (71, 4, 0) p0.toInt.toNat = 0 then u.2 (40, 7666, 0) 1 else -1) ∧ u.2 (40, 7666, 0) = if (0 ≤ p0.toInt ∧ p0.toInt ≤ 3) ∧ ¬ Γ (71, 4, 0) p0.toInt.toNat = 0 then tm_cp (Γ (40, 7666, 0)) (Γ (70, 30664, 0)) 0 (7666 : Int).toNat (7666 * p0.toInt).toNat else Γ (40, 7666, 0)) (tp_BG D cy L K Γ f [40]) (tp_A L sz)) 0 0 (tp_A L sz) := by
  refine Met.ofW (cc := cX12_back) (maxL := 3) (ret := (some .int)) (by decide) rfl ?_
  intro p e s m args below meth c s₁ B hml hv
  obtain ⟨rfl, hsz, hP, hK, hL, hI, hN, hU⟩ := hv
  have hx := B.exec
  have hb := B.bytes
  have hr := B.returns
  have hta := tl_hta (atoms_spec (ws := tl_w yX12_back cX12_back 3 (some .int)) B.pre)
  have hown : s.vm.findClass RX12 = some m.cls := findClass_of_methodNamed B.named
  have hlocks := B.notSynchronized
  subst hsz
  have hI0 := hI
  generalize hAe : tp_A L s.heap.size = A
  have hA : ∀ q : Nat, s.heap.size ≤ q → A q := fun q h => by rw [← hAe]; exact Or.inr h
  have hAL : ∀ q ∈ L, A q := fun q h => by rw [← hAe]; exact Or.inl h
  have hAf : ∀ (H : Heap), s.heap.size ≤ H.size → ∀ q, tp_A L H.size q → A q := fun H h q hq => hq.elim (hAL q) (fun h2 => hA q (Nat.le_trans h h2))
  have hS : va_S A s.heap s.heap [] := va_S.rf
  have hD : va_D A (va_pl L f) := tp_D hL hAL
  have hfr : ∀ b, (K b).1 ∉ ([40] : List Nat) → f b = f b := fun _ _ => rfl
  have hgr : ∀ κ : tk_K, κ.1 ∉ ([40] : List Nat) → Γ κ = Γ κ := fun _ _ => rfl
  have hl := lv_entry ([.ref o, .int p0]) (n := 3) (Nat.le_of_ble_eq_true rfl)
  rw [lg_entry_eq]
  generalize (lg_sl ([.ref o, .int p0]) ++ List.replicate (3 - (lg_sl ([.ref o, .int p0])).length) Slot.unset).toArray = ls at hl ⊢
  have hl : lv_has ls 3 [(0, .ref o), (1, .int p0)] := hl
  refine lv_iload_n hx hb dX12_back_0 rfl (lv_at hl 1 rfl) ?_
  refine lv_i2l (v := p0.toInt64) hx hb dX12_back_1 (by first | rfl | decide) ?_
  refine lv_lconst (v := 0) hx hb dX12_back_2 (by decide) ?_
  refine lv_ldc2 (v := 3) hx hb hown (hta _ wk_221) dX12_back_3 ?_
  refine tl_si (tq_rS (As := [.long p0.toInt64, .long 0, .long 3]) (rest := []) ⟨hx, hb, hml, hown, hta⟩ (tp_P.pre hK hN hL hU hI hP) lk_X12_112 (r_X12_in l D cy s.heap.size L K Γ f p0.toInt64 0 3 ) rfl rfl ⟨Nat.le_of_ble_eq_true rfl, Nat.le_of_ble_eq_true rfl⟩ rfl hl.1 rfl (Nat.le_of_ble_eq_true rfl) dX12_back_6 ⟨Nat.le_of_ble_eq_true rfl, Nat.le_of_ble_eq_true rfl⟩) (fun r_2 hw_1 => ?_)
  simp only [Int32.toInt_toInt64] at hw_1
  have hw_1 : tl_E r_2 ((0 : Int) ≤ p0.toInt ∧ p0.toInt ≤ (3 : Int)) 1 0 := hw_1
  refine lv_if_eq (tgt := 21) hx hb dX12_back_9 (by decide) (fun c_3 => ?_) (fun c_3 => ?_)
  · have c_3 := hw_1.f c_3
    refine lv_iconst (v := (-1)) hx hb dX12_back_21 (by decide) ?_
    have hpo9 : ((-1) : Int32).toInt = (if (0 ≤ p0.toInt ∧ p0.toInt ≤ 3) ∧ ¬ Γ (71, 4, 0) p0.toInt.toNat = 0 then Γ (40, 7666, 0) 1 else -1) ∧ Γ (40, 7666, 0) = if (0 ≤ p0.toInt ∧ p0.toInt ≤ 3) ∧ ¬ Γ (71, 4, 0) p0.toInt.toNat = 0 then tm_cp (Γ (40, 7666, 0)) (Γ (70, 30664, 0)) 0 (7666 : Int).toNat (7666 * p0.toInt).toNat else Γ (40, 7666, 0) := ⟨(by rw [if_neg (by omega)]; rfl), (by rw [if_neg (by omega)])⟩
    exact W.iret (v := (-1)) hx hb hr (fun t ht hW => ⟨⟨_, (f, Γ), rfl, hpo9, by rw [ht]; exact hP, hI, hfr, hgr⟩, hS.F ht⟩) hS.2.2 dX12_back_22
  · have c_3 := hw_1.t c_3
    refine lv_aload_n hx hb dX12_back_12 rfl (lv_at hl 0 rfl) ?_
    obtain ⟨r_5, v_6, q_7, hf_4, hr_8, hv_9⟩ := (show tp_o_M L K 0 0 (Γ (39, 0, 0)) (f o) from hI0.at ho)
    refine tp_get (cy := cy) (ci := 12) (v := .ref (r_5 31)) (C := RX12) (T := TX12) (N := 49) hx hb hta inlX12 hown hK hP ho.1 hf_4 rfl 48 (by decide) (hta _ wk_181) (fun _ h9 => h9) rfl dX12_back_13 ?_
    refine lv_iload_n hx hb dX12_back_16 rfl (lv_at hl 1 rfl) ?_
    obtain ⟨g_27, hf_26, hg_28⟩ := (show tp_gz cy (4) (Γ (71, 4, 0)) (f (r_5 31)) from hI0.at (show tp_r L K 71 4 0 (r_5 31) from hr_8 31 (by decide)))
    have hn_29 : vp_in p0 (4) := tl_in (by omega) (by omega)
    refine tp_zald (cy := cy) hx hb hK hP (show tp_r L K 71 4 0 (r_5 31) from hr_8 31 (by decide)).1 hf_26 hn_29 dX12_back_17 ?_
    refine lv_topi (fun z_30 ez_30 => ?_)
    have iz_30 : z_30.toInt = Γ (71, 4, 0) p0.toInt.toNat := by rw [ez_30]; exact hg_28 _ (tp_pin hn_29)
    refine lv_if_ne (tgt := 23) hx hb dX12_back_18 (by decide) (fun c_31 => ?_) (fun c_31 => ?_)
    · have c_31 : ¬ z_30.toInt = (0 : Int) := tl_neq c_31
      refine lv_iconst (v := 0) hx hb dX12_back_23 (by decide) ?_
      refine lv_istore_n (lv' := [(2, .int 0), (0, .ref o), (1, .int p0)]) hx hb dX12_back_24 rfl hl (by decide) rfl (fun ls hl => ?_)
      refine tq_start hP hS (fun H locs hP hS => ?_)
      refine tl_ind (G := fun H locs ls => W p l e ((headSpec (tl_w yX12_back cX12_back 3 (some .int)) ({ frames := 1, cells := 0, slots := 0, locals := 25 })).room) s m #[.ref o, .int p0] below meth c H locs 0 0 (MQ below (va_Qi (fun (r : Int32) (u : (Nat → va_E) × tk_G) => r.toInt = (if (0 ≤ p0.toInt ∧ p0.toInt ≤ 3) ∧ ¬ Γ (71, 4, 0) p0.toInt.toNat = 0 then u.2 (40, 7666, 0) 1 else -1) ∧ u.2 (40, 7666, 0) = if (0 ≤ p0.toInt ∧ p0.toInt ≤ 3) ∧ ¬ Γ (71, 4, 0) p0.toInt.toNat = 0 then tm_cp (Γ (40, 7666, 0)) (Γ (70, 30664, 0)) 0 (7666 : Int).toNat (7666 * p0.toInt).toNat else Γ (40, 7666, 0)) (tp_BG D cy L K Γ f [40]) A) #[.ref o, .int p0] s 0 0 A) (F0 m 25 ls [])) (α := (Nat → va_E) × tk_G × Int32) (fun aq => (7666 - aq.2.2.toInt).toNat) (fun aq H locs ls => (0 ≤ aq.2.2.toInt) ∧ (aq.2.2.toInt ≤ 7666) ∧ (aq.2.1 (40, 7666, 0) = tm_cp (Γ (40, 7666, 0)) (Γ (70, 30664, 0)) 0 (aq.2.2.toInt).toNat (7666 * p0.toInt).toNat) ∧ va_P D vwCl (va_pl L aq.1) H ∧ tp_I cy L K aq.2.1 aq.1 ∧ (∀ b, (K b).1 ∉ ([40] : List Nat) → aq.1 b = f b) ∧ (∀ κ : tk_K, κ.1 ∉ ([40] : List Nat) → aq.2.1 κ = Γ κ) ∧ va_S A s.heap H locs ∧ lv_has ls 3 [(2, .int aq.2.2), (0, .ref o), (1, .int p0)]) ?_ (f, Γ, (0 : Int32)) H locs ls ⟨(show 0 ≤ (0 : Int) from (by omega)), (show (0 : Int) ≤ 7666 from (by omega)), (show Γ (40, 7666, 0) = tm_cp (Γ (40, 7666, 0)) (Γ (70, 30664, 0)) 0 ((0 : Int)).toNat (7666 * p0.toInt).toNat from (by rw [tm_cp0 (by omega)])), hP, hI, hfr, hgr, hS, lv_sub hl [0, 1, 2] rfl⟩
      rintro ⟨f_32, Γ_33, v2⟩ H locs ls ⟨h0, h1, hcp, hP, hI, hfr, hgr, hS, hl⟩ ih25
      have hgr : ∀ κ : tk_K, κ.1 ∉ ([40] : List Nat) → Γ_33 κ = Γ κ := hgr
      have hP : va_P D vwCl (va_pl L f_32) H := hP
      have hI : tp_I cy L K Γ_33 f_32 := hI
      have hfr : ∀ b, (K b).1 ∉ ([40] : List Nat) → f_32 b = f b := hfr
      have hD : va_D A (va_pl L f_32) := tp_D hL hAL
      have h0 : 0 ≤ v2.toInt := h0
      have h1 : v2.toInt ≤ 7666 := h1
      have hcp : Γ_33 (40, 7666, 0) = tm_cp (Γ (40, 7666, 0)) (Γ (70, 30664, 0)) 0 (v2.toInt).toNat (7666 * p0.toInt).toNat := hcp
      have hl : lv_has ls 3 [(2, .int v2), (0, .ref o), (1, .int p0)] := hl
      refine lv_iload_n hx hb dX12_back_25 rfl (lv_at hl 0 rfl) ?_
      refine lv_sipush (v := 7666) hx hb dX12_back_26 (by decide) ?_
      refine lv_icmp_ge (tgt := 56) hx hb dX12_back_29 (by decide) (fun c_34 => ?_) (fun c_34 => ?_)
      · have c_34 : (7666 : Int) ≤ v2.toInt := tl_le c_34
        refine lv_aload_n hx hb dX12_back_56 rfl (lv_at hl 1 rfl) ?_
        refine tp_get (cy := cy) (ci := 12) (v := .ref (r_5 0)) (C := RX12) (T := TX12) (N := 49) hx hb hta inlX12 hown hK hP ho.1 ((tp_un hfr ho (by decide)).trans hf_4) rfl 0 (by decide) (hta _ wk_149) (fun _ h9 => h9) rfl dX12_back_57 ?_
        refine lv_iconst (v := 1) hx hb dX12_back_60 (by decide) ?_
        obtain ⟨g_36, hf_35, hg_37⟩ := (show tp_gi cy (7666) (Γ_33 (40, 7666, 0)) (f_32 (r_5 0)) from hI.at (show tp_r L K 40 7666 0 (r_5 0) from hr_8 0 (by decide)))
        have hn_38 : vp_in 1 (7666) := tl_in (by decide) (by decide)
        refine tp_iald (cy := cy) hx hb hK hP (show tp_r L K 40 7666 0 (r_5 0) from hr_8 0 (by decide)).1 hf_35 hn_38 dX12_back_61 ?_
        refine lv_topi (fun z_39 ez_39 => ?_)
        have iz_39 : z_39.toInt = Γ_33 (40, 7666, 0) 1 := by rw [ez_39]; exact hg_37 _ (tp_pin hn_38)
        have hpo9 : (z_39 : Int32).toInt = (if (0 ≤ p0.toInt ∧ p0.toInt ≤ 3) ∧ ¬ Γ (71, 4, 0) p0.toInt.toNat = 0 then Γ_33 (40, 7666, 0) 1 else -1) ∧ Γ_33 (40, 7666, 0) = if (0 ≤ p0.toInt ∧ p0.toInt ≤ 3) ∧ ¬ Γ (71, 4, 0) p0.toInt.toNat = 0 then tm_cp (Γ (40, 7666, 0)) (Γ (70, 30664, 0)) 0 (7666 : Int).toNat (7666 * p0.toInt).toNat else Γ (40, 7666, 0) := ⟨(by rw [if_pos (by omega)]; exact iz_39), (by rw [if_pos (by omega), hcp, show v2.toInt = 7666 from by omega])⟩
        exact W.iret (v := z_39) hx hb hr (fun t ht hW => ⟨⟨_, (f_32, Γ_33), rfl, hpo9, by rw [ht]; exact hP, hI, hfr, hgr⟩, hS.F ht⟩) hS.2.2 dX12_back_62
      · have c_34 : v2.toInt < (7666 : Int) := tl_nle c_34
        refine lv_aload_n hx hb dX12_back_32 rfl (lv_at hl 1 rfl) ?_
        refine tp_get (cy := cy) (ci := 12) (v := .ref (r_5 0)) (C := RX12) (T := TX12) (N := 49) hx hb hta inlX12 hown hK hP ho.1 ((tp_un hfr ho (by decide)).trans hf_4) rfl 0 (by decide) (hta _ wk_149) (fun _ h9 => h9) rfl dX12_back_33 ?_
        refine lv_iload_n hx hb dX12_back_36 rfl (lv_at hl 0 rfl) ?_
        refine lv_aload_n hx hb dX12_back_37 rfl (lv_at hl 1 rfl) ?_
        refine tp_get (cy := cy) (ci := 12) (v := .ref (r_5 30)) (C := RX12) (T := TX12) (N := 49) hx hb hta inlX12 hown hK hP ho.1 ((tp_un hfr ho (by decide)).trans hf_4) rfl 47 (by decide) (hta _ wk_180) (fun _ h9 => h9) rfl dX12_back_38 ?_
        refine lv_sipush (v := 7666) hx hb dX12_back_41 (by decide) ?_
        refine lv_iload_n hx hb dX12_back_44 rfl (lv_at hl 2 rfl) ?_
        refine lv_imul hx hb dX12_back_45 ?_
        refine lv_topi (fun z_40 ez_40 => ?_)
        try have iz_40 : z_40.toInt = (7666 : Int) * p0.toInt := by rw [ez_40]; exact tl_mulN 7666 p0 rfl rfl (by omega) (by omega)
        refine lv_iload_n hx hb dX12_back_46 rfl (lv_at hl 0 rfl) ?_
        refine lv_iadd hx hb dX12_back_47 ?_
        refine lv_topi (fun z_41 ez_41 => ?_)
        try have iz_41 : z_41.toInt = z_40.toInt + v2.toInt := by rw [ez_41]; exact tl_addN z_40 v2 rfl rfl (by omega) (by omega)
        obtain ⟨g_43, hf_42, hg_44⟩ := (show tp_gi cy (30664) (Γ (70, 30664, 0)) (f (r_5 30)) from hI0.at (show tp_r L K 70 30664 0 (r_5 30) from hr_8 30 (by decide)))
        have hn_45 : vp_in z_41 (30664) := tl_in (by omega) (by omega)
        refine tp_iald (cy := cy) hx hb hK hP (show tp_r L K 70 30664 0 (r_5 30) from hr_8 30 (by decide)).1 ((tp_un hfr (show tp_r L K 70 30664 0 (r_5 30) from hr_8 30 (by decide)) (by decide)).trans hf_42) hn_45 dX12_back_48 ?_
        refine lv_topi (fun z_46 ez_46 => ?_)
        have iz_46 : z_46.toInt = Γ (70, 30664, 0) z_41.toInt.toNat := by rw [ez_46]; exact hg_44 _ (tp_pin hn_45)
        obtain ⟨g_48, hf_47, hg_49⟩ := (show tp_gi cy (7666) (Γ_33 (40, 7666, 0)) (f_32 (r_5 0)) from hI.at (show tp_r L K 40 7666 0 (r_5 0) from hr_8 0 (by decide)))
        have hn_50 : vp_in v2 (7666) := tl_in (by omega) (by omega)
        have hj_51 : v2.toNatClampNeg = v2.toInt.toNat := rfl
        have hv_52 : z_46.toInt = z_46.toInt := rfl
        obtain ⟨Γ_53, eΓ_53⟩ : ∃ y : tk_G, y = tg Γ_33 (40, 7666, 0) v2.toInt.toNat z_46.toInt := ⟨_, rfl⟩
        have hI9 : tp_I cy L K Γ_53 (va_up f_32 (r_5 0) (.inl (cy 0, 7666, .inl (upd g_48 v2.toNatClampNeg z_46)))) := by have q9 : tg Γ_33 (40, 7666, 0) v2.toInt.toNat z_46.toInt = tg Γ_33 (40, 7666, 0) v2.toNatClampNeg z_46.toInt := (by rw [hj_51, hv_52]); rw [eΓ_53, q9]; exact hI.setg hU rfl (show tp_r L K 40 7666 0 (r_5 0) from hr_8 0 (by decide)) (show tp_gi cy (7666) (tgu (Γ_33 (40, 7666, 0)) _ _) _ from ⟨_, rfl, tp_gi_upd hg_49⟩)
        have hfr9 : ∀ b, (K b).1 ∉ ([40] : List Nat) → va_up f_32 (r_5 0) (.inl (cy 0, 7666, .inl (upd g_48 v2.toNatClampNeg z_46))) b = f b := tp_fr hfr (show tp_r L K 40 7666 0 (r_5 0) from hr_8 0 (by decide)) (by decide)
        refine tp_iast (cy := cy) hx hb hK hP hD hS (show tp_r L K 40 7666 0 (r_5 0) from hr_8 0 (by decide)).1 hf_47 hn_50 dX12_back_49 (fun H locs hP hD hS => ?_)
        have hP : va_P D vwCl (va_pl L (va_up f_32 (r_5 0) (.inl (cy 0, 7666, .inl (upd g_48 v2.toNatClampNeg z_46))))) H := hP
        generalize hfe : va_up f_32 (r_5 0) (.inl (cy 0, 7666, .inl (upd g_48 v2.toNatClampNeg z_46))) = f_54 at hP hI9 hfr9
        have hD : va_D A (va_pl L f_54) := tp_D hL hAL
        have hf_55 : f_54 (r_5 0) = .inl (cy 0, 7666, .inl (upd g_48 v2.toNatClampNeg z_46)) := by rw [← hfe]; exact va_up_self _ _ _
        clear hfe
        have hI := hI9
        have hfr := hfr9
        clear hI9 hfr9
        have wsΓ_53 : Γ_53 (40, 7666, 0) v2.toInt.toNat = z_46.toInt := by rw [eΓ_53]; exact tg_s
        have hgr : ∀ κ : tk_K, κ.1 ∉ ([40] : List Nat) → Γ_53 κ = Γ κ := tg_fr hgr eΓ_53 (by decide)
        obtain ⟨z_56, ez_56⟩ : ∃ y : Int32, y = v2 + 1 := ⟨_, rfl⟩
        refine lv_iinc (v := z_56) (lv' := [(2, .int z_56), (0, .ref o), (1, .int p0)]) hx hb dX12_back_50 hl (k := 0) rfl (by rw [ez_56]; rfl) (by decide) rfl (fun ls hl => ?_)
        try have iz_56 : z_56.toInt = v2.toInt + 1 := by rw [ez_56]; exact tl_addL v2 1 (by decide) (by omega) (by omega)
        refine lv_goto (tgt := 25) hx hb dX12_back_53 (by decide) ?_
        exact ih25 (f_54, Γ_53, z_56) H locs ls (by show (7666 - z_56.toInt).toNat < (7666 - v2.toInt).toNat; omega) ⟨(show 0 ≤ z_56.toInt from (by omega)), (show z_56.toInt ≤ 7666 from (by omega)), (show Γ_53 (40, 7666, 0) = tm_cp (Γ (40, 7666, 0)) (Γ (70, 30664, 0)) 0 (z_56.toInt).toNat (7666 * p0.toInt).toNat from (by rw [eΓ_53, tg_f, hcp]; exact tm_cp1 (by omega) (by omega) (iz_46.trans (congrArg _ (by omega))))), hP, hI, hfr, hgr, hS, lv_sub hl [0, 1, 2] rfl⟩
    · have c_31 : z_30.toInt = (0 : Int) := tl_eq c_31
      refine lv_iconst (v := (-1)) hx hb dX12_back_21 (by decide) ?_
      have hpo9 : ((-1) : Int32).toInt = (if (0 ≤ p0.toInt ∧ p0.toInt ≤ 3) ∧ ¬ Γ (71, 4, 0) p0.toInt.toNat = 0 then Γ (40, 7666, 0) 1 else -1) ∧ Γ (40, 7666, 0) = if (0 ≤ p0.toInt ∧ p0.toInt ≤ 3) ∧ ¬ Γ (71, 4, 0) p0.toInt.toNat = 0 then tm_cp (Γ (40, 7666, 0)) (Γ (70, 30664, 0)) 0 (7666 : Int).toNat (7666 * p0.toInt).toNat else Γ (40, 7666, 0) := ⟨(by rw [if_neg (by omega)]; rfl), (by rw [if_neg (by omega)])⟩
      exact W.iret (v := (-1)) hx hb hr (fun t ht hW => ⟨⟨_, (f, Γ), rfl, hpo9, by rw [ht]; exact hP, hI, hfr, hgr⟩, hS.F ht⟩) hS.2.2 dX12_back_22
