theorem dX12_clock_0 : decode cX12_clock 0 = .ok (.iload_n 1, 1) := by decide +kernel
theorem dX12_clock_1 : decode cX12_clock 1 = .ok (.i2l, 1) := by decide +kernel
theorem dX12_clock_2 : decode cX12_clock 2 = .ok (.aload_n 0, 1) := by decide +kernel
theorem dX12_clock_3 : decode cX12_clock 3 = .ok (.getfield 7, 3) := by decide +kernel
theorem dX12_clock_6 : decode cX12_clock 6 = .ok (.iconst 0, 1) := by decide +kernel
theorem dX12_clock_7 : decode cX12_clock 7 = .ok (.iaload, 1) := by decide +kernel
theorem dX12_clock_8 : decode cX12_clock 8 = .ok (.i2l, 1) := by decide +kernel
theorem dX12_clock_9 : decode cX12_clock 9 = .ok (.ldc2_w 110, 3) := by decide +kernel
theorem dX12_clock_12 : decode cX12_clock 12 = .ok (.invokestatic 112, 3) := by decide +kernel
theorem dX12_clock_15 : decode cX12_clock 15 = .ok (.ifCond .ne 5, 3) := by decide +kernel
theorem dX12_clock_18 : decode cX12_clock 18 = .ok (.iconst 0, 1) := by decide +kernel
theorem dX12_clock_19 : decode cX12_clock 19 = .ok (.ireturn, 1) := by decide +kernel
theorem dX12_clock_20 : decode cX12_clock 20 = .ok (.aload_n 0, 1) := by decide +kernel
theorem dX12_clock_21 : decode cX12_clock 21 = .ok (.getfield 7, 3) := by decide +kernel
theorem dX12_clock_24 : decode cX12_clock 24 = .ok (.iconst 0, 1) := by decide +kernel
theorem dX12_clock_25 : decode cX12_clock 25 = .ok (.iload_n 1, 1) := by decide +kernel
theorem dX12_clock_26 : decode cX12_clock 26 = .ok (.iastore, 1) := by decide +kernel
theorem dX12_clock_27 : decode cX12_clock 27 = .ok (.iconst 1, 1) := by decide +kernel
theorem dX12_clock_28 : decode cX12_clock 28 = .ok (.ireturn, 1) := by decide +kernel
theorem wk_197 : Cond.constantLong RX12 110 (399) ∈ tl_L := List.mem_filter.mpr ⟨by decide +kernel, rfl⟩
theorem wk_198 : Cond.methodLink RX12 112 yX12_in ∈ tl_L := List.mem_filter.mpr ⟨by decide +kernel, rfl⟩
theorem wk_199 : Cond.static yX12_in ∈ tl_L := List.mem_filter.mpr ⟨by decide +kernel, rfl⟩
theorem wk_200 : Cond.code yX12_in cX12_in 6 (some .boolean) ∈ tl_L := List.mem_filter.mpr ⟨List.mem_of_getElem? (i := 1596) (by decide +kernel), rfl⟩
theorem lk_X12_112 : tl_kS RX12 112 yX12_in cX12_in 6 (some .boolean) 3 := ⟨wk_200, wk_198, wk_199, wk_5, ⟨by decide +kernel, by decide +kernel, by decide +kernel⟩⟩
theorem dX12_slip_0 : decode cX12_slip 0 = .ok (.aload_n 0, 1) := by decide +kernel
theorem dX12_slip_1 : decode cX12_slip 1 = .ok (.getfield 7, 3) := by decide +kernel
theorem dX12_slip_4 : decode cX12_slip 4 = .ok (.iconst 2, 1) := by decide +kernel
theorem dX12_slip_5 : decode cX12_slip 5 = .ok (.iaload, 1) := by decide +kernel
theorem dX12_slip_6 : decode cX12_slip 6 = .ok (.bipush 40, 2) := by decide +kernel
theorem dX12_slip_8 : decode cX12_slip 8 = .ok (.if_icmp .eq 49, 3) := by decide +kernel
theorem dX12_slip_11 : decode cX12_slip 11 = .ok (.iload_n 1, 1) := by decide +kernel
theorem dX12_slip_12 : decode cX12_slip 12 = .ok (.i2l, 1) := by decide +kernel
theorem dX12_slip_13 : decode cX12_slip 13 = .ok (.lconst 0, 1) := by decide +kernel
theorem dX12_slip_14 : decode cX12_slip 14 = .ok (.ldc2_w 116, 3) := by decide +kernel
theorem dX12_slip_17 : decode cX12_slip 17 = .ok (.invokestatic 112, 3) := by decide +kernel
theorem dX12_slip_20 : decode cX12_slip 20 = .ok (.ifCond .eq 37, 3) := by decide +kernel
theorem dX12_slip_23 : decode cX12_slip 23 = .ok (.iload_n 2, 1) := by decide +kernel
theorem dX12_slip_24 : decode cX12_slip 24 = .ok (.invokestatic 124, 3) := by decide +kernel
theorem dX12_slip_27 : decode cX12_slip 27 = .ok (.ifCond .eq 30, 3) := by decide +kernel
theorem dX12_slip_30 : decode cX12_slip 30 = .ok (.iload_n 3, 1) := by decide +kernel
theorem dX12_slip_31 : decode cX12_slip 31 = .ok (.invokestatic 124, 3) := by decide +kernel
theorem dX12_slip_34 : decode cX12_slip 34 = .ok (.ifCond .eq 23, 3) := by decide +kernel
theorem dX12_slip_37 : decode cX12_slip 37 = .ok (.iload_n 3, 1) := by decide +kernel
theorem dX12_slip_38 : decode cX12_slip 38 = .ok (.iload_n 2, 1) := by decide +kernel
theorem dX12_slip_39 : decode cX12_slip 39 = .ok (.if_icmp .lt 18, 3) := by decide +kernel
theorem dX12_slip_42 : decode cX12_slip 42 = .ok (.iload 4, 2) := by decide +kernel
theorem dX12_slip_44 : decode cX12_slip 44 = .ok (.i2l, 1) := by decide +kernel
theorem dX12_slip_45 : decode cX12_slip 45 = .ok (.ldc2_w 139, 3) := by decide +kernel
theorem dX12_slip_48 : decode cX12_slip 48 = .ok (.ldc2_w 141, 3) := by decide +kernel
theorem dX12_slip_51 : decode cX12_slip 51 = .ok (.invokestatic 112, 3) := by decide +kernel
theorem dX12_slip_54 : decode cX12_slip 54 = .ok (.ifCond .ne 5, 3) := by decide +kernel
theorem dX12_slip_57 : decode cX12_slip 57 = .ok (.iconst (-1), 1) := by decide +kernel
theorem dX12_slip_58 : decode cX12_slip 58 = .ok (.ireturn, 1) := by decide +kernel
theorem dX12_slip_59 : decode cX12_slip 59 = .ok (.bipush 81, 2) := by decide +kernel
theorem dX12_slip_61 : decode cX12_slip 61 = .ok (.iconst 4, 1) := by decide +kernel
theorem dX12_slip_62 : decode cX12_slip 62 = .ok (.aload_n 0, 1) := by decide +kernel
theorem dX12_slip_63 : decode cX12_slip 63 = .ok (.getfield 7, 3) := by decide +kernel
theorem dX12_slip_66 : decode cX12_slip 66 = .ok (.iconst 2, 1) := by decide +kernel
theorem dX12_slip_67 : decode cX12_slip 67 = .ok (.iaload, 1) := by decide +kernel
theorem dX12_slip_68 : decode cX12_slip 68 = .ok (.imul, 1) := by decide +kernel
theorem dX12_slip_69 : decode cX12_slip 69 = .ok (.iadd, 1) := by decide +kernel
theorem dX12_slip_70 : decode cX12_slip 70 = .ok (.istore 5, 2) := by decide +kernel
theorem dX12_slip_72 : decode cX12_slip 72 = .ok (.aload_n 0, 1) := by decide +kernel
theorem dX12_slip_73 : decode cX12_slip 73 = .ok (.getfield 7, 3) := by decide +kernel
theorem dX12_slip_76 : decode cX12_slip 76 = .ok (.iload 5, 2) := by decide +kernel
theorem dX12_slip_78 : decode cX12_slip 78 = .ok (.iload_n 1, 1) := by decide +kernel
theorem dX12_slip_79 : decode cX12_slip 79 = .ok (.iastore, 1) := by decide +kernel
theorem dX12_slip_80 : decode cX12_slip 80 = .ok (.aload_n 0, 1) := by decide +kernel
theorem dX12_slip_81 : decode cX12_slip 81 = .ok (.getfield 7, 3) := by decide +kernel
theorem dX12_slip_84 : decode cX12_slip 84 = .ok (.iload 5, 2) := by decide +kernel
theorem dX12_slip_86 : decode cX12_slip 86 = .ok (.iconst 1, 1) := by decide +kernel
theorem dX12_slip_87 : decode cX12_slip 87 = .ok (.iadd, 1) := by decide +kernel
theorem dX12_slip_88 : decode cX12_slip 88 = .ok (.iload_n 2, 1) := by decide +kernel
theorem dX12_slip_89 : decode cX12_slip 89 = .ok (.iastore, 1) := by decide +kernel
theorem dX12_slip_90 : decode cX12_slip 90 = .ok (.aload_n 0, 1) := by decide +kernel
theorem dX12_slip_91 : decode cX12_slip 91 = .ok (.getfield 7, 3) := by decide +kernel
theorem dX12_slip_94 : decode cX12_slip 94 = .ok (.iload 5, 2) := by decide +kernel
theorem dX12_slip_96 : decode cX12_slip 96 = .ok (.iconst 2, 1) := by decide +kernel
theorem dX12_slip_97 : decode cX12_slip 97 = .ok (.iadd, 1) := by decide +kernel
theorem dX12_slip_98 : decode cX12_slip 98 = .ok (.iload_n 3, 1) := by decide +kernel
theorem dX12_slip_99 : decode cX12_slip 99 = .ok (.iastore, 1) := by decide +kernel
theorem dX12_slip_100 : decode cX12_slip 100 = .ok (.aload_n 0, 1) := by decide +kernel
theorem dX12_slip_101 : decode cX12_slip 101 = .ok (.getfield 7, 3) := by decide +kernel
theorem dX12_slip_104 : decode cX12_slip 104 = .ok (.iload 5, 2) := by decide +kernel
theorem dX12_slip_106 : decode cX12_slip 106 = .ok (.iconst 3, 1) := by decide +kernel
theorem dX12_slip_107 : decode cX12_slip 107 = .ok (.iadd, 1) := by decide +kernel
theorem dX12_slip_108 : decode cX12_slip 108 = .ok (.iload 4, 2) := by decide +kernel
theorem dX12_slip_110 : decode cX12_slip 110 = .ok (.iastore, 1) := by decide +kernel
theorem dX12_slip_111 : decode cX12_slip 111 = .ok (.aload_n 0, 1) := by decide +kernel
theorem dX12_slip_112 : decode cX12_slip 112 = .ok (.getfield 7, 3) := by decide +kernel
theorem dX12_slip_115 : decode cX12_slip 115 = .ok (.iconst 2, 1) := by decide +kernel
theorem dX12_slip_116 : decode cX12_slip 116 = .ok (.dup2, 1) := by decide +kernel
theorem dX12_slip_117 : decode cX12_slip 117 = .ok (.iaload, 1) := by decide +kernel
theorem dX12_slip_118 : decode cX12_slip 118 = .ok (.iconst 1, 1) := by decide +kernel
theorem dX12_slip_119 : decode cX12_slip 119 = .ok (.iadd, 1) := by decide +kernel
theorem dX12_slip_120 : decode cX12_slip 120 = .ok (.iastore, 1) := by decide +kernel
theorem dX12_slip_121 : decode cX12_slip 121 = .ok (.aload_n 0, 1) := by decide +kernel
theorem dX12_slip_122 : decode cX12_slip 122 = .ok (.getfield 7, 3) := by decide +kernel
theorem dX12_slip_125 : decode cX12_slip 125 = .ok (.iconst 2, 1) := by decide +kernel
theorem dX12_slip_126 : decode cX12_slip 126 = .ok (.iaload, 1) := by decide +kernel
theorem dX12_slip_127 : decode cX12_slip 127 = .ok (.iconst 1, 1) := by decide +kernel
theorem dX12_slip_128 : decode cX12_slip 128 = .ok (.isub, 1) := by decide +kernel
theorem dX12_slip_129 : decode cX12_slip 129 = .ok (.ireturn, 1) := by decide +kernel
theorem wk_221 : Cond.constantLong RX12 116 (3) ∈ tl_L := List.mem_filter.mpr ⟨by decide +kernel, rfl⟩
theorem wk_253 : Cond.methodLink RX12 124 yX12_isColour ∈ tl_L := List.mem_filter.mpr ⟨by decide +kernel, rfl⟩
theorem wk_254 : Cond.static yX12_isColour ∈ tl_L := List.mem_filter.mpr ⟨by decide +kernel, rfl⟩
theorem wk_255 : Cond.code yX12_isColour cX12_isColour 1 (some .boolean) ∈ tl_L := List.mem_filter.mpr ⟨List.mem_of_getElem? (i := 1613) (by decide +kernel), rfl⟩
theorem wk_301 : Cond.constantLong RX12 139 (-9999) ∈ tl_L := List.mem_filter.mpr ⟨by decide +kernel, rfl⟩
theorem wk_302 : Cond.constantLong RX12 141 (9999) ∈ tl_L := List.mem_filter.mpr ⟨by decide +kernel, rfl⟩
theorem lk_X12_124 : tl_kS RX12 124 yX12_isColour cX12_isColour 1 (some .boolean) 1 := ⟨wk_255, wk_253, wk_254, wk_5, ⟨by decide +kernel, by decide +kernel, by decide +kernel⟩⟩
theorem dX12_candidate_0 : decode cX12_candidate 0 = .ok (.aload_n 0, 1) := by decide +kernel
theorem dX12_candidate_1 : decode cX12_candidate 1 = .ok (.getfield 7, 3) := by decide +kernel
theorem dX12_candidate_4 : decode cX12_candidate 4 = .ok (.iconst 4, 1) := by decide +kernel
theorem dX12_candidate_5 : decode cX12_candidate 5 = .ok (.iaload, 1) := by decide +kernel
theorem dX12_candidate_6 : decode cX12_candidate 6 = .ok (.bipush 10, 2) := by decide +kernel
theorem dX12_candidate_8 : decode cX12_candidate 8 = .ok (.if_icmp .eq 27, 3) := by decide +kernel
theorem dX12_candidate_11 : decode cX12_candidate 11 = .ok (.iload_n 1, 1) := by decide +kernel
theorem dX12_candidate_12 : decode cX12_candidate 12 = .ok (.i2l, 1) := by decide +kernel
theorem dX12_candidate_13 : decode cX12_candidate 13 = .ok (.lconst 0, 1) := by decide +kernel
theorem dX12_candidate_14 : decode cX12_candidate 14 = .ok (.ldc2_w 116, 3) := by decide +kernel
theorem dX12_candidate_17 : decode cX12_candidate 17 = .ok (.invokestatic 112, 3) := by decide +kernel
theorem dX12_candidate_20 : decode cX12_candidate 20 = .ok (.ifCond .eq 15, 3) := by decide +kernel
theorem dX12_candidate_23 : decode cX12_candidate 23 = .ok (.iload_n 2, 1) := by decide +kernel
theorem dX12_candidate_24 : decode cX12_candidate 24 = .ok (.i2l, 1) := by decide +kernel
theorem dX12_candidate_25 : decode cX12_candidate 25 = .ok (.lconst 1, 1) := by decide +kernel
theorem dX12_candidate_26 : decode cX12_candidate 26 = .ok (.ldc2_w 471, 3) := by decide +kernel
theorem dX12_candidate_29 : decode cX12_candidate 29 = .ok (.invokestatic 112, 3) := by decide +kernel
theorem dX12_candidate_32 : decode cX12_candidate 32 = .ok (.ifCond .ne 5, 3) := by decide +kernel
theorem dX12_candidate_35 : decode cX12_candidate 35 = .ok (.iconst (-1), 1) := by decide +kernel
theorem dX12_candidate_36 : decode cX12_candidate 36 = .ok (.ireturn, 1) := by decide +kernel
theorem dX12_candidate_37 : decode cX12_candidate 37 = .ok (.sipush 421, 3) := by decide +kernel
theorem dX12_candidate_40 : decode cX12_candidate 40 = .ok (.iconst 2, 1) := by decide +kernel
theorem dX12_candidate_41 : decode cX12_candidate 41 = .ok (.aload_n 0, 1) := by decide +kernel
theorem dX12_candidate_42 : decode cX12_candidate 42 = .ok (.getfield 7, 3) := by decide +kernel
theorem dX12_candidate_45 : decode cX12_candidate 45 = .ok (.iconst 4, 1) := by decide +kernel
theorem dX12_candidate_46 : decode cX12_candidate 46 = .ok (.iaload, 1) := by decide +kernel
theorem dX12_candidate_47 : decode cX12_candidate 47 = .ok (.imul, 1) := by decide +kernel
theorem dX12_candidate_48 : decode cX12_candidate 48 = .ok (.iadd, 1) := by decide +kernel
theorem dX12_candidate_49 : decode cX12_candidate 49 = .ok (.istore_n 3, 1) := by decide +kernel
theorem dX12_candidate_50 : decode cX12_candidate 50 = .ok (.aload_n 0, 1) := by decide +kernel
theorem dX12_candidate_51 : decode cX12_candidate 51 = .ok (.getfield 7, 3) := by decide +kernel
theorem dX12_candidate_54 : decode cX12_candidate 54 = .ok (.iload_n 3, 1) := by decide +kernel
theorem dX12_candidate_55 : decode cX12_candidate 55 = .ok (.iload_n 1, 1) := by decide +kernel
theorem dX12_candidate_56 : decode cX12_candidate 56 = .ok (.iastore, 1) := by decide +kernel
theorem dX12_candidate_57 : decode cX12_candidate 57 = .ok (.aload_n 0, 1) := by decide +kernel
theorem dX12_candidate_58 : decode cX12_candidate 58 = .ok (.getfield 7, 3) := by decide +kernel
theorem dX12_candidate_61 : decode cX12_candidate 61 = .ok (.iload_n 3, 1) := by decide +kernel
theorem dX12_candidate_62 : decode cX12_candidate 62 = .ok (.iconst 1, 1) := by decide +kernel
theorem dX12_candidate_63 : decode cX12_candidate 63 = .ok (.iadd, 1) := by decide +kernel
theorem dX12_candidate_64 : decode cX12_candidate 64 = .ok (.iload_n 2, 1) := by decide +kernel
theorem dX12_candidate_65 : decode cX12_candidate 65 = .ok (.iastore, 1) := by decide +kernel
theorem dX12_candidate_66 : decode cX12_candidate 66 = .ok (.aload_n 0, 1) := by decide +kernel
theorem dX12_candidate_67 : decode cX12_candidate 67 = .ok (.getfield 7, 3) := by decide +kernel
theorem dX12_candidate_70 : decode cX12_candidate 70 = .ok (.iconst 4, 1) := by decide +kernel
theorem dX12_candidate_71 : decode cX12_candidate 71 = .ok (.dup2, 1) := by decide +kernel
theorem dX12_candidate_72 : decode cX12_candidate 72 = .ok (.iaload, 1) := by decide +kernel
theorem dX12_candidate_73 : decode cX12_candidate 73 = .ok (.iconst 1, 1) := by decide +kernel
theorem dX12_candidate_74 : decode cX12_candidate 74 = .ok (.iadd, 1) := by decide +kernel
theorem dX12_candidate_75 : decode cX12_candidate 75 = .ok (.iastore, 1) := by decide +kernel
theorem dX12_candidate_76 : decode cX12_candidate 76 = .ok (.aload_n 0, 1) := by decide +kernel
theorem dX12_candidate_77 : decode cX12_candidate 77 = .ok (.getfield 7, 3) := by decide +kernel
theorem dX12_candidate_80 : decode cX12_candidate 80 = .ok (.iconst 4, 1) := by decide +kernel
theorem dX12_candidate_81 : decode cX12_candidate 81 = .ok (.iaload, 1) := by decide +kernel
theorem dX12_candidate_82 : decode cX12_candidate 82 = .ok (.iconst 1, 1) := by decide +kernel
theorem dX12_candidate_83 : decode cX12_candidate 83 = .ok (.isub, 1) := by decide +kernel
theorem dX12_candidate_84 : decode cX12_candidate 84 = .ok (.ireturn, 1) := by decide +kernel
theorem wk_1077 : Cond.constantLong RX12 471 (99) ∈ tl_L := List.mem_filter.mpr ⟨by decide +kernel, rfl⟩
theorem dX12_house_0 : decode cX12_house 0 = .ok (.aload_n 0, 1) := by decide +kernel
theorem dX12_house_1 : decode cX12_house 1 = .ok (.getfield 7, 3) := by decide +kernel
theorem dX12_house_4 : decode cX12_house 4 = .ok (.sipush 7665, 3) := by decide +kernel
theorem dX12_house_7 : decode cX12_house 7 = .ok (.iaload, 1) := by decide +kernel
theorem dX12_house_8 : decode cX12_house 8 = .ok (.bipush 8, 2) := by decide +kernel
theorem dX12_house_10 : decode cX12_house 10 = .ok (.if_icmp .eq 38, 3) := by decide +kernel
theorem dX12_house_13 : decode cX12_house 13 = .ok (.aload_n 0, 1) := by decide +kernel
theorem dX12_house_14 : decode cX12_house 14 = .ok (.iconst 1, 1) := by decide +kernel
theorem dX12_house_15 : decode cX12_house 15 = .ok (.iload_n 1, 1) := by decide +kernel
theorem dX12_house_16 : decode cX12_house 16 = .ok (.invokevirtual 382, 3) := by decide +kernel
theorem dX12_house_19 : decode cX12_house 19 = .ok (.ifCond .eq 29, 3) := by decide +kernel
theorem dX12_house_22 : decode cX12_house 22 = .ok (.iload_n 2, 1) := by decide +kernel
theorem dX12_house_23 : decode cX12_house 23 = .ok (.i2l, 1) := by decide +kernel
theorem dX12_house_24 : decode cX12_house 24 = .ok (.ldc2_w 473, 3) := by decide +kernel
theorem dX12_house_27 : decode cX12_house 27 = .ok (.ldc2_w 475, 3) := by decide +kernel
theorem dX12_house_30 : decode cX12_house 30 = .ok (.invokestatic 112, 3) := by decide +kernel
theorem dX12_house_33 : decode cX12_house 33 = .ok (.ifCond .eq 15, 3) := by decide +kernel
theorem dX12_house_36 : decode cX12_house 36 = .ok (.iload_n 3, 1) := by decide +kernel
theorem dX12_house_37 : decode cX12_house 37 = .ok (.i2l, 1) := by decide +kernel
theorem dX12_house_38 : decode cX12_house 38 = .ok (.lconst 1, 1) := by decide +kernel
theorem dX12_house_39 : decode cX12_house 39 = .ok (.ldc2_w 494, 3) := by decide +kernel
theorem dX12_house_42 : decode cX12_house 42 = .ok (.invokestatic 112, 3) := by decide +kernel
theorem dX12_house_45 : decode cX12_house 45 = .ok (.ifCond .ne 5, 3) := by decide +kernel
theorem dX12_house_48 : decode cX12_house 48 = .ok (.iconst (-1), 1) := by decide +kernel
theorem dX12_house_49 : decode cX12_house 49 = .ok (.ireturn, 1) := by decide +kernel
theorem dX12_house_50 : decode cX12_house 50 = .ok (.sipush 7641, 3) := by decide +kernel
theorem dX12_house_53 : decode cX12_house 53 = .ok (.iconst 3, 1) := by decide +kernel
theorem dX12_house_54 : decode cX12_house 54 = .ok (.aload_n 0, 1) := by decide +kernel
theorem dX12_house_55 : decode cX12_house 55 = .ok (.getfield 7, 3) := by decide +kernel
theorem dX12_house_58 : decode cX12_house 58 = .ok (.sipush 7665, 3) := by decide +kernel
theorem dX12_house_61 : decode cX12_house 61 = .ok (.iaload, 1) := by decide +kernel
theorem dX12_house_62 : decode cX12_house 62 = .ok (.imul, 1) := by decide +kernel
theorem dX12_house_63 : decode cX12_house 63 = .ok (.iadd, 1) := by decide +kernel
theorem dX12_house_64 : decode cX12_house 64 = .ok (.istore 4, 2) := by decide +kernel
theorem dX12_house_66 : decode cX12_house 66 = .ok (.aload_n 0, 1) := by decide +kernel
theorem dX12_house_67 : decode cX12_house 67 = .ok (.getfield 7, 3) := by decide +kernel
theorem dX12_house_70 : decode cX12_house 70 = .ok (.iload 4, 2) := by decide +kernel
theorem dX12_house_72 : decode cX12_house 72 = .ok (.iload_n 1, 1) := by decide +kernel
theorem dX12_house_73 : decode cX12_house 73 = .ok (.iastore, 1) := by decide +kernel
theorem dX12_house_74 : decode cX12_house 74 = .ok (.aload_n 0, 1) := by decide +kernel
theorem dX12_house_75 : decode cX12_house 75 = .ok (.getfield 7, 3) := by decide +kernel
theorem dX12_house_78 : decode cX12_house 78 = .ok (.iload 4, 2) := by decide +kernel
theorem dX12_house_80 : decode cX12_house 80 = .ok (.iconst 1, 1) := by decide +kernel
theorem dX12_house_81 : decode cX12_house 81 = .ok (.iadd, 1) := by decide +kernel
theorem dX12_house_82 : decode cX12_house 82 = .ok (.iload_n 2, 1) := by decide +kernel
theorem dX12_house_83 : decode cX12_house 83 = .ok (.iastore, 1) := by decide +kernel
theorem dX12_house_84 : decode cX12_house 84 = .ok (.aload_n 0, 1) := by decide +kernel
theorem dX12_house_85 : decode cX12_house 85 = .ok (.getfield 7, 3) := by decide +kernel
theorem dX12_house_88 : decode cX12_house 88 = .ok (.iload 4, 2) := by decide +kernel
theorem dX12_house_90 : decode cX12_house 90 = .ok (.iconst 2, 1) := by decide +kernel
theorem dX12_house_91 : decode cX12_house 91 = .ok (.iadd, 1) := by decide +kernel
theorem dX12_house_92 : decode cX12_house 92 = .ok (.iload_n 3, 1) := by decide +kernel
theorem dX12_house_93 : decode cX12_house 93 = .ok (.iastore, 1) := by decide +kernel
theorem dX12_house_94 : decode cX12_house 94 = .ok (.aload_n 0, 1) := by decide +kernel
theorem dX12_house_95 : decode cX12_house 95 = .ok (.getfield 7, 3) := by decide +kernel
theorem dX12_house_98 : decode cX12_house 98 = .ok (.sipush 7665, 3) := by decide +kernel
theorem dX12_house_101 : decode cX12_house 101 = .ok (.dup2, 1) := by decide +kernel
theorem dX12_house_102 : decode cX12_house 102 = .ok (.iaload, 1) := by decide +kernel
theorem dX12_house_103 : decode cX12_house 103 = .ok (.iconst 1, 1) := by decide +kernel
theorem dX12_house_104 : decode cX12_house 104 = .ok (.iadd, 1) := by decide +kernel
theorem dX12_house_105 : decode cX12_house 105 = .ok (.iastore, 1) := by decide +kernel
theorem dX12_house_106 : decode cX12_house 106 = .ok (.aload_n 0, 1) := by decide +kernel
theorem dX12_house_107 : decode cX12_house 107 = .ok (.getfield 7, 3) := by decide +kernel
theorem dX12_house_110 : decode cX12_house 110 = .ok (.sipush 7665, 3) := by decide +kernel
theorem dX12_house_113 : decode cX12_house 113 = .ok (.iaload, 1) := by decide +kernel
theorem dX12_house_114 : decode cX12_house 114 = .ok (.iconst 1, 1) := by decide +kernel
theorem dX12_house_115 : decode cX12_house 115 = .ok (.isub, 1) := by decide +kernel
theorem dX12_house_116 : decode cX12_house 116 = .ok (.ireturn, 1) := by decide +kernel
theorem wk_1091 : Cond.constantLong RX12 473 (-999999) ∈ tl_L := List.mem_filter.mpr ⟨by decide +kernel, rfl⟩
theorem wk_1092 : Cond.constantLong RX12 475 (999999) ∈ tl_L := List.mem_filter.mpr ⟨by decide +kernel, rfl⟩
theorem wk_1173 : Cond.constantLong RX12 494 (15) ∈ tl_L := List.mem_filter.mpr ⟨by decide +kernel, rfl⟩
theorem dX12_anew_0 : decode cX12_anew 0 = .ok (.iload_n 1, 1) := by decide +kernel
theorem dX12_anew_1 : decode cX12_anew 1 = .ok (.i2l, 1) := by decide +kernel
theorem dX12_anew_2 : decode cX12_anew 2 = .ok (.lconst 0, 1) := by decide +kernel
theorem dX12_anew_3 : decode cX12_anew 3 = .ok (.aload_n 0, 1) := by decide +kernel
theorem dX12_anew_4 : decode cX12_anew 4 = .ok (.getfield 7, 3) := by decide +kernel
theorem dX12_anew_7 : decode cX12_anew 7 = .ok (.iconst 2, 1) := by decide +kernel
theorem dX12_anew_8 : decode cX12_anew 8 = .ok (.iaload, 1) := by decide +kernel
theorem dX12_anew_9 : decode cX12_anew 9 = .ok (.iconst 1, 1) := by decide +kernel
theorem dX12_anew_10 : decode cX12_anew 10 = .ok (.isub, 1) := by decide +kernel
theorem dX12_anew_11 : decode cX12_anew 11 = .ok (.i2l, 1) := by decide +kernel
theorem dX12_anew_12 : decode cX12_anew 12 = .ok (.invokestatic 112, 3) := by decide +kernel
theorem dX12_anew_15 : decode cX12_anew 15 = .ok (.ifCond .eq 17, 3) := by decide +kernel
theorem dX12_anew_18 : decode cX12_anew 18 = .ok (.iload_n 2, 1) := by decide +kernel
theorem dX12_anew_19 : decode cX12_anew 19 = .ok (.i2l, 1) := by decide +kernel
theorem dX12_anew_20 : decode cX12_anew 20 = .ok (.ldc2_w 139, 3) := by decide +kernel
theorem dX12_anew_23 : decode cX12_anew 23 = .ok (.ldc2_w 141, 3) := by decide +kernel
theorem dX12_anew_26 : decode cX12_anew 26 = .ok (.invokestatic 112, 3) := by decide +kernel
theorem dX12_anew_29 : decode cX12_anew 29 = .ok (.ifCond .ne 6, 3) := by decide +kernel
theorem dX12_anew_32 : decode cX12_anew 32 = .ok (.ldc 131, 2) := by decide +kernel
theorem dX12_anew_34 : decode cX12_anew 34 = .ok (.ireturn, 1) := by decide +kernel
theorem dX12_anew_35 : decode cX12_anew 35 = .ok (.aload_n 0, 1) := by decide +kernel
theorem dX12_anew_36 : decode cX12_anew 36 = .ok (.getfield 7, 3) := by decide +kernel
theorem dX12_anew_39 : decode cX12_anew 39 = .ok (.bipush 81, 2) := by decide +kernel
theorem dX12_anew_41 : decode cX12_anew 41 = .ok (.iconst 4, 1) := by decide +kernel
theorem dX12_anew_42 : decode cX12_anew 42 = .ok (.iload_n 1, 1) := by decide +kernel
theorem dX12_anew_43 : decode cX12_anew 43 = .ok (.imul, 1) := by decide +kernel
theorem dX12_anew_44 : decode cX12_anew 44 = .ok (.iadd, 1) := by decide +kernel
theorem dX12_anew_45 : decode cX12_anew 45 = .ok (.iconst 3, 1) := by decide +kernel
theorem dX12_anew_46 : decode cX12_anew 46 = .ok (.iadd, 1) := by decide +kernel
theorem dX12_anew_47 : decode cX12_anew 47 = .ok (.iaload, 1) := by decide +kernel
theorem dX12_anew_48 : decode cX12_anew 48 = .ok (.istore_n 3, 1) := by decide +kernel
theorem dX12_anew_49 : decode cX12_anew 49 = .ok (.aload_n 0, 1) := by decide +kernel
theorem dX12_anew_50 : decode cX12_anew 50 = .ok (.getfield 7, 3) := by decide +kernel
theorem dX12_anew_53 : decode cX12_anew 53 = .ok (.bipush 81, 2) := by decide +kernel
theorem dX12_anew_55 : decode cX12_anew 55 = .ok (.iconst 4, 1) := by decide +kernel
theorem dX12_anew_56 : decode cX12_anew 56 = .ok (.iload_n 1, 1) := by decide +kernel
theorem dX12_anew_57 : decode cX12_anew 57 = .ok (.imul, 1) := by decide +kernel
theorem dX12_anew_58 : decode cX12_anew 58 = .ok (.iadd, 1) := by decide +kernel
theorem dX12_anew_59 : decode cX12_anew 59 = .ok (.iconst 3, 1) := by decide +kernel
theorem dX12_anew_60 : decode cX12_anew 60 = .ok (.iadd, 1) := by decide +kernel
theorem dX12_anew_61 : decode cX12_anew 61 = .ok (.iload_n 2, 1) := by decide +kernel
theorem dX12_anew_62 : decode cX12_anew 62 = .ok (.iastore, 1) := by decide +kernel
theorem dX12_anew_63 : decode cX12_anew 63 = .ok (.iload_n 3, 1) := by decide +kernel
theorem dX12_anew_64 : decode cX12_anew 64 = .ok (.ireturn, 1) := by decide +kernel
theorem wk_248 : Cond.constant RX12 131 (-2000000) ∈ tl_L := List.mem_filter.mpr ⟨by decide +kernel, rfl⟩
theorem dX12_told_0 : decode cX12_told 0 = .ok (.iload_n 1, 1) := by decide +kernel
theorem dX12_told_1 : decode cX12_told 1 = .ok (.i2l, 1) := by decide +kernel
theorem dX12_told_2 : decode cX12_told 2 = .ok (.lconst 0, 1) := by decide +kernel
theorem dX12_told_3 : decode cX12_told 3 = .ok (.ldc2_w 116, 3) := by decide +kernel
theorem dX12_told_6 : decode cX12_told 6 = .ok (.invokestatic 112, 3) := by decide +kernel
theorem dX12_told_9 : decode cX12_told 9 = .ok (.ifCond .eq 15, 3) := by decide +kernel
theorem dX12_told_12 : decode cX12_told 12 = .ok (.iload_n 2, 1) := by decide +kernel
theorem dX12_told_13 : decode cX12_told 13 = .ok (.i2l, 1) := by decide +kernel
theorem dX12_told_14 : decode cX12_told 14 = .ok (.lconst 0, 1) := by decide +kernel
theorem dX12_told_15 : decode cX12_told 15 = .ok (.ldc2_w 141, 3) := by decide +kernel
theorem dX12_told_18 : decode cX12_told 18 = .ok (.invokestatic 112, 3) := by decide +kernel
theorem dX12_told_21 : decode cX12_told 21 = .ok (.ifCond .ne 5, 3) := by decide +kernel
theorem dX12_told_24 : decode cX12_told 24 = .ok (.iconst (-1), 1) := by decide +kernel
theorem dX12_told_25 : decode cX12_told 25 = .ok (.ireturn, 1) := by decide +kernel
theorem dX12_told_26 : decode cX12_told 26 = .ok (.aload_n 0, 1) := by decide +kernel
theorem dX12_told_27 : decode cX12_told 27 = .ok (.getfield 7, 3) := by decide +kernel
theorem dX12_told_30 : decode cX12_told 30 = .ok (.iconst 5, 1) := by decide +kernel
theorem dX12_told_31 : decode cX12_told 31 = .ok (.iload_n 1, 1) := by decide +kernel
theorem dX12_told_32 : decode cX12_told 32 = .ok (.iadd, 1) := by decide +kernel
theorem dX12_told_33 : decode cX12_told 33 = .ok (.iaload, 1) := by decide +kernel
theorem dX12_told_34 : decode cX12_told 34 = .ok (.istore_n 3, 1) := by decide +kernel
theorem dX12_told_35 : decode cX12_told 35 = .ok (.aload_n 0, 1) := by decide +kernel
theorem dX12_told_36 : decode cX12_told 36 = .ok (.getfield 7, 3) := by decide +kernel
theorem dX12_told_39 : decode cX12_told 39 = .ok (.iconst 5, 1) := by decide +kernel
theorem dX12_told_40 : decode cX12_told 40 = .ok (.iload_n 1, 1) := by decide +kernel
theorem dX12_told_41 : decode cX12_told 41 = .ok (.iadd, 1) := by decide +kernel
theorem dX12_told_42 : decode cX12_told 42 = .ok (.iload_n 2, 1) := by decide +kernel
theorem dX12_told_43 : decode cX12_told 43 = .ok (.iastore, 1) := by decide +kernel
theorem dX12_told_44 : decode cX12_told 44 = .ok (.iload_n 3, 1) := by decide +kernel
theorem dX12_told_45 : decode cX12_told 45 = .ok (.ireturn, 1) := by decide +kernel
theorem dX12_raw_0 : decode cX12_raw 0 = .ok (.aload_n 0, 1) := by decide +kernel
theorem dX12_raw_1 : decode cX12_raw 1 = .ok (.iload_n 1, 1) := by decide +kernel
theorem dX12_raw_2 : decode cX12_raw 2 = .ok (.invokevirtual 120, 3) := by decide +kernel
theorem dX12_raw_5 : decode cX12_raw 5 = .ok (.ifCond .eq 30, 3) := by decide +kernel
theorem dX12_raw_8 : decode cX12_raw 8 = .ok (.iload_n 2, 1) := by decide +kernel
theorem dX12_raw_9 : decode cX12_raw 9 = .ok (.invokestatic 124, 3) := by decide +kernel
theorem dX12_raw_12 : decode cX12_raw 12 = .ok (.ifCond .eq 23, 3) := by decide +kernel
theorem dX12_raw_15 : decode cX12_raw 15 = .ok (.iload_n 3, 1) := by decide +kernel
theorem dX12_raw_16 : decode cX12_raw 16 = .ok (.ldc 109, 2) := by decide +kernel
theorem dX12_raw_18 : decode cX12_raw 18 = .ok (.if_icmp .eq 20, 3) := by decide +kernel
theorem dX12_raw_21 : decode cX12_raw 21 = .ok (.iload_n 3, 1) := by decide +kernel
theorem dX12_raw_22 : decode cX12_raw 22 = .ok (.i2l, 1) := by decide +kernel
theorem dX12_raw_23 : decode cX12_raw 23 = .ok (.ldc2_w 127, 3) := by decide +kernel
theorem dX12_raw_26 : decode cX12_raw 26 = .ok (.ldc2_w 129, 3) := by decide +kernel
theorem dX12_raw_29 : decode cX12_raw 29 = .ok (.invokestatic 112, 3) := by decide +kernel
theorem dX12_raw_32 : decode cX12_raw 32 = .ok (.ifCond .ne 6, 3) := by decide +kernel
theorem dX12_raw_35 : decode cX12_raw 35 = .ok (.ldc 131, 2) := by decide +kernel
theorem dX12_raw_37 : decode cX12_raw 37 = .ok (.ireturn, 1) := by decide +kernel
theorem dX12_raw_38 : decode cX12_raw 38 = .ok (.aload_n 0, 1) := by decide +kernel
theorem dX12_raw_39 : decode cX12_raw 39 = .ok (.getfield 7, 3) := by decide +kernel
theorem dX12_raw_42 : decode cX12_raw 42 = .ok (.sipush 441, 3) := by decide +kernel
theorem dX12_raw_45 : decode cX12_raw 45 = .ok (.sipush 300, 3) := by decide +kernel
theorem dX12_raw_48 : decode cX12_raw 48 = .ok (.iload_n 1, 1) := by decide +kernel
theorem dX12_raw_49 : decode cX12_raw 49 = .ok (.imul, 1) := by decide +kernel
theorem dX12_raw_50 : decode cX12_raw 50 = .ok (.iadd, 1) := by decide +kernel
theorem dX12_raw_51 : decode cX12_raw 51 = .ok (.iload_n 2, 1) := by decide +kernel
theorem dX12_raw_52 : decode cX12_raw 52 = .ok (.iadd, 1) := by decide +kernel
theorem dX12_raw_53 : decode cX12_raw 53 = .ok (.iaload, 1) := by decide +kernel
theorem dX12_raw_54 : decode cX12_raw 54 = .ok (.istore 4, 2) := by decide +kernel
theorem dX12_raw_56 : decode cX12_raw 56 = .ok (.aload_n 0, 1) := by decide +kernel
theorem dX12_raw_57 : decode cX12_raw 57 = .ok (.getfield 7, 3) := by decide +kernel
theorem dX12_raw_60 : decode cX12_raw 60 = .ok (.sipush 441, 3) := by decide +kernel
theorem dX12_raw_63 : decode cX12_raw 63 = .ok (.sipush 300, 3) := by decide +kernel
theorem dX12_raw_66 : decode cX12_raw 66 = .ok (.iload_n 1, 1) := by decide +kernel
theorem dX12_raw_67 : decode cX12_raw 67 = .ok (.imul, 1) := by decide +kernel
theorem dX12_raw_68 : decode cX12_raw 68 = .ok (.iadd, 1) := by decide +kernel
theorem dX12_raw_69 : decode cX12_raw 69 = .ok (.iload_n 2, 1) := by decide +kernel
theorem dX12_raw_70 : decode cX12_raw 70 = .ok (.iadd, 1) := by decide +kernel
theorem dX12_raw_71 : decode cX12_raw 71 = .ok (.iload_n 3, 1) := by decide +kernel
theorem dX12_raw_72 : decode cX12_raw 72 = .ok (.iastore, 1) := by decide +kernel
theorem dX12_raw_73 : decode cX12_raw 73 = .ok (.iload 4, 2) := by decide +kernel
theorem dX12_raw_75 : decode cX12_raw 75 = .ok (.ireturn, 1) := by decide +kernel
theorem wk_182 : Cond.constant RX12 109 (-1000000) ∈ tl_L := List.mem_filter.mpr ⟨by decide +kernel, rfl⟩
theorem wk_246 : Cond.constantLong RX12 127 (-100000) ∈ tl_L := List.mem_filter.mpr ⟨by decide +kernel, rfl⟩
theorem wk_247 : Cond.constantLong RX12 129 (100000) ∈ tl_L := List.mem_filter.mpr ⟨by decide +kernel, rfl⟩
theorem dX12_row_0 : decode cX12_row 0 = .ok (.aload_n 0, 1) := by decide +kernel
theorem dX12_row_1 : decode cX12_row 1 = .ok (.getfield 7, 3) := by decide +kernel
theorem dX12_row_4 : decode cX12_row 4 = .ok (.iconst 1, 1) := by decide +kernel
theorem dX12_row_5 : decode cX12_row 5 = .ok (.iaload, 1) := by decide +kernel
theorem dX12_row_6 : decode cX12_row 6 = .ok (.bipush 24, 2) := by decide +kernel
theorem dX12_row_8 : decode cX12_row 8 = .ok (.if_icmp .eq 27, 3) := by decide +kernel
theorem dX12_row_11 : decode cX12_row 11 = .ok (.iload_n 1, 1) := by decide +kernel
theorem dX12_row_12 : decode cX12_row 12 = .ok (.i2l, 1) := by decide +kernel
theorem dX12_row_13 : decode cX12_row 13 = .ok (.lconst 0, 1) := by decide +kernel
theorem dX12_row_14 : decode cX12_row 14 = .ok (.ldc2_w 116, 3) := by decide +kernel
theorem dX12_row_17 : decode cX12_row 17 = .ok (.invokestatic 112, 3) := by decide +kernel
theorem dX12_row_20 : decode cX12_row 20 = .ok (.ifCond .eq 15, 3) := by decide +kernel
theorem dX12_row_23 : decode cX12_row 23 = .ok (.iload_n 2, 1) := by decide +kernel
theorem dX12_row_24 : decode cX12_row 24 = .ok (.i2l, 1) := by decide +kernel
theorem dX12_row_25 : decode cX12_row 25 = .ok (.lconst 0, 1) := by decide +kernel
theorem dX12_row_26 : decode cX12_row 26 = .ok (.ldc2_w 118, 3) := by decide +kernel
theorem dX12_row_29 : decode cX12_row 29 = .ok (.invokestatic 112, 3) := by decide +kernel
theorem dX12_row_32 : decode cX12_row 32 = .ok (.ifCond .ne 5, 3) := by decide +kernel
theorem dX12_row_35 : decode cX12_row 35 = .ok (.iconst (-1), 1) := by decide +kernel
theorem dX12_row_36 : decode cX12_row 36 = .ok (.ireturn, 1) := by decide +kernel
theorem dX12_row_37 : decode cX12_row 37 = .ok (.aload_n 0, 1) := by decide +kernel
theorem dX12_row_38 : decode cX12_row 38 = .ok (.getfield 7, 3) := by decide +kernel
theorem dX12_row_41 : decode cX12_row 41 = .ok (.iconst 1, 1) := by decide +kernel
theorem dX12_row_42 : decode cX12_row 42 = .ok (.iaload, 1) := by decide +kernel
theorem dX12_row_43 : decode cX12_row 43 = .ok (.istore_n 3, 1) := by decide +kernel
theorem dX12_row_44 : decode cX12_row 44 = .ok (.aload_n 0, 1) := by decide +kernel
theorem dX12_row_45 : decode cX12_row 45 = .ok (.getfield 7, 3) := by decide +kernel
theorem dX12_row_48 : decode cX12_row 48 = .ok (.bipush 9, 2) := by decide +kernel
theorem dX12_row_50 : decode cX12_row 50 = .ok (.iconst 3, 1) := by decide +kernel
theorem dX12_row_51 : decode cX12_row 51 = .ok (.iload_n 3, 1) := by decide +kernel
theorem dX12_row_52 : decode cX12_row 52 = .ok (.imul, 1) := by decide +kernel
theorem dX12_row_53 : decode cX12_row 53 = .ok (.iadd, 1) := by decide +kernel
theorem dX12_row_54 : decode cX12_row 54 = .ok (.iload_n 1, 1) := by decide +kernel
theorem dX12_row_55 : decode cX12_row 55 = .ok (.iastore, 1) := by decide +kernel
theorem dX12_row_56 : decode cX12_row 56 = .ok (.aload_n 0, 1) := by decide +kernel
theorem dX12_row_57 : decode cX12_row 57 = .ok (.getfield 7, 3) := by decide +kernel
theorem dX12_row_60 : decode cX12_row 60 = .ok (.bipush 9, 2) := by decide +kernel
theorem dX12_row_62 : decode cX12_row 62 = .ok (.iconst 3, 1) := by decide +kernel
theorem dX12_row_63 : decode cX12_row 63 = .ok (.iload_n 3, 1) := by decide +kernel
theorem dX12_row_64 : decode cX12_row 64 = .ok (.imul, 1) := by decide +kernel
theorem dX12_row_65 : decode cX12_row 65 = .ok (.iadd, 1) := by decide +kernel
theorem dX12_row_66 : decode cX12_row 66 = .ok (.iconst 1, 1) := by decide +kernel
theorem dX12_row_67 : decode cX12_row 67 = .ok (.iadd, 1) := by decide +kernel
theorem dX12_row_68 : decode cX12_row 68 = .ok (.iload_n 2, 1) := by decide +kernel
theorem dX12_row_69 : decode cX12_row 69 = .ok (.iastore, 1) := by decide +kernel
theorem dX12_row_70 : decode cX12_row 70 = .ok (.aload_n 0, 1) := by decide +kernel
theorem dX12_row_71 : decode cX12_row 71 = .ok (.getfield 7, 3) := by decide +kernel
theorem dX12_row_74 : decode cX12_row 74 = .ok (.bipush 9, 2) := by decide +kernel
theorem dX12_row_76 : decode cX12_row 76 = .ok (.iconst 3, 1) := by decide +kernel
theorem dX12_row_77 : decode cX12_row 77 = .ok (.iload_n 3, 1) := by decide +kernel
theorem dX12_row_78 : decode cX12_row 78 = .ok (.imul, 1) := by decide +kernel
theorem dX12_row_79 : decode cX12_row 79 = .ok (.iadd, 1) := by decide +kernel
theorem dX12_row_80 : decode cX12_row 80 = .ok (.iconst 2, 1) := by decide +kernel
theorem dX12_row_81 : decode cX12_row 81 = .ok (.iadd, 1) := by decide +kernel
theorem dX12_row_82 : decode cX12_row 82 = .ok (.aload_n 0, 1) := by decide +kernel
theorem dX12_row_83 : decode cX12_row 83 = .ok (.getfield 7, 3) := by decide +kernel
theorem dX12_row_86 : decode cX12_row 86 = .ok (.iconst 0, 1) := by decide +kernel
theorem dX12_row_87 : decode cX12_row 87 = .ok (.iaload, 1) := by decide +kernel
theorem dX12_row_88 : decode cX12_row 88 = .ok (.iastore, 1) := by decide +kernel
theorem dX12_row_89 : decode cX12_row 89 = .ok (.iconst 0, 1) := by decide +kernel
theorem dX12_row_90 : decode cX12_row 90 = .ok (.istore 4, 2) := by decide +kernel
theorem dX12_row_92 : decode cX12_row 92 = .ok (.iload 4, 2) := by decide +kernel
theorem dX12_row_94 : decode cX12_row 94 = .ok (.sipush 300, 3) := by decide +kernel
theorem dX12_row_97 : decode cX12_row 97 = .ok (.if_icmp .ge 28, 3) := by decide +kernel
theorem dX12_row_100 : decode cX12_row 100 = .ok (.aload_n 0, 1) := by decide +kernel
theorem dX12_row_101 : decode cX12_row 101 = .ok (.getfield 7, 3) := by decide +kernel
theorem dX12_row_104 : decode cX12_row 104 = .ok (.sipush 441, 3) := by decide +kernel
theorem dX12_row_107 : decode cX12_row 107 = .ok (.sipush 300, 3) := by decide +kernel
theorem dX12_row_110 : decode cX12_row 110 = .ok (.iload_n 3, 1) := by decide +kernel
theorem dX12_row_111 : decode cX12_row 111 = .ok (.imul, 1) := by decide +kernel
theorem dX12_row_112 : decode cX12_row 112 = .ok (.iadd, 1) := by decide +kernel
theorem dX12_row_113 : decode cX12_row 113 = .ok (.iload 4, 2) := by decide +kernel
theorem dX12_row_115 : decode cX12_row 115 = .ok (.iadd, 1) := by decide +kernel
theorem dX12_row_116 : decode cX12_row 116 = .ok (.ldc 109, 2) := by decide +kernel
theorem dX12_row_118 : decode cX12_row 118 = .ok (.iastore, 1) := by decide +kernel
theorem dX12_row_119 : decode cX12_row 119 = .ok (.iinc 4 1, 3) := by decide +kernel
theorem dX12_row_122 : decode cX12_row 122 = .ok (.goto (-30), 3) := by decide +kernel
theorem dX12_row_125 : decode cX12_row 125 = .ok (.aload_n 0, 1) := by decide +kernel
theorem dX12_row_126 : decode cX12_row 126 = .ok (.getfield 7, 3) := by decide +kernel
theorem dX12_row_129 : decode cX12_row 129 = .ok (.iconst 1, 1) := by decide +kernel
theorem dX12_row_130 : decode cX12_row 130 = .ok (.dup2, 1) := by decide +kernel
theorem dX12_row_131 : decode cX12_row 131 = .ok (.iaload, 1) := by decide +kernel
theorem dX12_row_132 : decode cX12_row 132 = .ok (.iconst 1, 1) := by decide +kernel
theorem dX12_row_133 : decode cX12_row 133 = .ok (.iadd, 1) := by decide +kernel
theorem dX12_row_134 : decode cX12_row 134 = .ok (.iastore, 1) := by decide +kernel
theorem dX12_row_135 : decode cX12_row 135 = .ok (.iload_n 3, 1) := by decide +kernel
theorem dX12_row_136 : decode cX12_row 136 = .ok (.ireturn, 1) := by decide +kernel
theorem wk_222 : Cond.constantLong RX12 118 (999) ∈ tl_L := List.mem_filter.mpr ⟨by decide +kernel, rfl⟩
theorem dX12_image_0 : decode cX12_image 0 = .ok (.iload_n 1, 1) := by decide +kernel
theorem dX12_image_1 : decode cX12_image 1 = .ok (.i2l, 1) := by decide +kernel
theorem dX12_image_2 : decode cX12_image 2 = .ok (.lconst 0, 1) := by decide +kernel
theorem dX12_image_3 : decode cX12_image 3 = .ok (.ldc2_w 116, 3) := by decide +kernel
theorem dX12_image_6 : decode cX12_image 6 = .ok (.invokestatic 112, 3) := by decide +kernel
theorem dX12_image_9 : decode cX12_image 9 = .ok (.ifCond .ne 5, 3) := by decide +kernel
theorem dX12_image_12 : decode cX12_image 12 = .ok (.iconst (-1), 1) := by decide +kernel
theorem dX12_image_13 : decode cX12_image 13 = .ok (.ireturn, 1) := by decide +kernel
theorem dX12_image_14 : decode cX12_image 14 = .ok (.aload_n 0, 1) := by decide +kernel
theorem dX12_image_15 : decode cX12_image 15 = .ok (.getfield 106, 3) := by decide +kernel
theorem dX12_image_18 : decode cX12_image 18 = .ok (.iload_n 1, 1) := by decide +kernel
theorem dX12_image_19 : decode cX12_image 19 = .ok (.iconst 1, 1) := by decide +kernel
theorem dX12_image_20 : decode cX12_image 20 = .ok (.bastore, 1) := by decide +kernel
theorem dX12_image_21 : decode cX12_image 21 = .ok (.iconst 0, 1) := by decide +kernel
theorem dX12_image_22 : decode cX12_image 22 = .ok (.istore_n 2, 1) := by decide +kernel
theorem dX12_image_23 : decode cX12_image 23 = .ok (.iload_n 2, 1) := by decide +kernel
theorem dX12_image_24 : decode cX12_image 24 = .ok (.sipush 7666, 3) := by decide +kernel
theorem dX12_image_27 : decode cX12_image 27 = .ok (.if_icmp .ge 27, 3) := by decide +kernel
theorem dX12_image_30 : decode cX12_image 30 = .ok (.aload_n 0, 1) := by decide +kernel
theorem dX12_image_31 : decode cX12_image 31 = .ok (.getfield 103, 3) := by decide +kernel
theorem dX12_image_34 : decode cX12_image 34 = .ok (.sipush 7666, 3) := by decide +kernel
theorem dX12_image_37 : decode cX12_image 37 = .ok (.iload_n 1, 1) := by decide +kernel
theorem dX12_image_38 : decode cX12_image 38 = .ok (.imul, 1) := by decide +kernel
theorem dX12_image_39 : decode cX12_image 39 = .ok (.iload_n 2, 1) := by decide +kernel
theorem dX12_image_40 : decode cX12_image 40 = .ok (.iadd, 1) := by decide +kernel
theorem dX12_image_41 : decode cX12_image 41 = .ok (.aload_n 0, 1) := by decide +kernel
theorem dX12_image_42 : decode cX12_image 42 = .ok (.getfield 7, 3) := by decide +kernel
theorem dX12_image_45 : decode cX12_image 45 = .ok (.iload_n 2, 1) := by decide +kernel
theorem dX12_image_46 : decode cX12_image 46 = .ok (.iaload, 1) := by decide +kernel
theorem dX12_image_47 : decode cX12_image 47 = .ok (.iastore, 1) := by decide +kernel
theorem dX12_image_48 : decode cX12_image 48 = .ok (.iinc 2 1, 3) := by decide +kernel
theorem dX12_image_51 : decode cX12_image 51 = .ok (.goto (-28), 3) := by decide +kernel
theorem dX12_image_54 : decode cX12_image 54 = .ok (.aload_n 0, 1) := by decide +kernel
theorem dX12_image_55 : decode cX12_image 55 = .ok (.getfield 7, 3) := by decide +kernel
theorem dX12_image_58 : decode cX12_image 58 = .ok (.iconst 1, 1) := by decide +kernel
theorem dX12_image_59 : decode cX12_image 59 = .ok (.iaload, 1) := by decide +kernel
theorem dX12_image_60 : decode cX12_image 60 = .ok (.ireturn, 1) := by decide +kernel
theorem wk_180 : Cond.fieldLink RX12 103 "ThinLineModel" "images" "[I" ∈ tl_L := List.mem_filter.mpr ⟨by decide +kernel, rfl⟩
theorem wk_181 : Cond.fieldLink RX12 106 "ThinLineModel" "isMade" "[Z" ∈ tl_L := List.mem_filter.mpr ⟨by decide +kernel, rfl⟩
theorem dX12_back_0 : decode cX12_back 0 = .ok (.iload_n 1, 1) := by decide +kernel
theorem dX12_back_1 : decode cX12_back 1 = .ok (.i2l, 1) := by decide +kernel
theorem dX12_back_2 : decode cX12_back 2 = .ok (.lconst 0, 1) := by decide +kernel
theorem dX12_back_3 : decode cX12_back 3 = .ok (.ldc2_w 116, 3) := by decide +kernel
theorem dX12_back_6 : decode cX12_back 6 = .ok (.invokestatic 112, 3) := by decide +kernel
theorem dX12_back_9 : decode cX12_back 9 = .ok (.ifCond .eq 12, 3) := by decide +kernel
theorem dX12_back_12 : decode cX12_back 12 = .ok (.aload_n 0, 1) := by decide +kernel
theorem dX12_back_13 : decode cX12_back 13 = .ok (.getfield 106, 3) := by decide +kernel
theorem dX12_back_16 : decode cX12_back 16 = .ok (.iload_n 1, 1) := by decide +kernel
theorem dX12_back_17 : decode cX12_back 17 = .ok (.baload, 1) := by decide +kernel
theorem dX12_back_18 : decode cX12_back 18 = .ok (.ifCond .ne 5, 3) := by decide +kernel
theorem dX12_back_21 : decode cX12_back 21 = .ok (.iconst (-1), 1) := by decide +kernel
theorem dX12_back_22 : decode cX12_back 22 = .ok (.ireturn, 1) := by decide +kernel
theorem dX12_back_23 : decode cX12_back 23 = .ok (.iconst 0, 1) := by decide +kernel
theorem dX12_back_24 : decode cX12_back 24 = .ok (.istore_n 2, 1) := by decide +kernel
theorem dX12_back_25 : decode cX12_back 25 = .ok (.iload_n 2, 1) := by decide +kernel
theorem dX12_back_26 : decode cX12_back 26 = .ok (.sipush 7666, 3) := by decide +kernel
theorem dX12_back_29 : decode cX12_back 29 = .ok (.if_icmp .ge 27, 3) := by decide +kernel
theorem dX12_back_32 : decode cX12_back 32 = .ok (.aload_n 0, 1) := by decide +kernel
theorem dX12_back_33 : decode cX12_back 33 = .ok (.getfield 7, 3) := by decide +kernel
theorem dX12_back_36 : decode cX12_back 36 = .ok (.iload_n 2, 1) := by decide +kernel
theorem dX12_back_37 : decode cX12_back 37 = .ok (.aload_n 0, 1) := by decide +kernel
theorem dX12_back_38 : decode cX12_back 38 = .ok (.getfield 103, 3) := by decide +kernel
theorem dX12_back_41 : decode cX12_back 41 = .ok (.sipush 7666, 3) := by decide +kernel
theorem dX12_back_44 : decode cX12_back 44 = .ok (.iload_n 1, 1) := by decide +kernel
theorem dX12_back_45 : decode cX12_back 45 = .ok (.imul, 1) := by decide +kernel
theorem dX12_back_46 : decode cX12_back 46 = .ok (.iload_n 2, 1) := by decide +kernel
theorem dX12_back_47 : decode cX12_back 47 = .ok (.iadd, 1) := by decide +kernel
theorem dX12_back_48 : decode cX12_back 48 = .ok (.iaload, 1) := by decide +kernel
theorem dX12_back_49 : decode cX12_back 49 = .ok (.iastore, 1) := by decide +kernel
theorem dX12_back_50 : decode cX12_back 50 = .ok (.iinc 2 1, 3) := by decide +kernel
theorem dX12_back_53 : decode cX12_back 53 = .ok (.goto (-28), 3) := by decide +kernel
theorem dX12_back_56 : decode cX12_back 56 = .ok (.aload_n 0, 1) := by decide +kernel
theorem dX12_back_57 : decode cX12_back 57 = .ok (.getfield 7, 3) := by decide +kernel
theorem dX12_back_60 : decode cX12_back 60 = .ok (.iconst 1, 1) := by decide +kernel
theorem dX12_back_61 : decode cX12_back 61 = .ok (.iaload, 1) := by decide +kernel
theorem dX12_back_62 : decode cX12_back 62 = .ok (.ireturn, 1) := by decide +kernel
theorem tg_f {Γ : tk_G} {κ : tk_K} {j : Nat} {v : Int} : tg Γ κ j v κ = tgu (Γ κ) j v := by rw [tg_c, tgc_s]
def tm_fill (σ : Nat → Int) (a b : Nat) (v : Int) : Nat → Int := fun i => if a ≤ i ∧ i < b then v else σ i
theorem tm_fill0 {σ : Nat → Int} {a b : Nat} {v : Int} (h : b ≤ a) : tm_fill σ a b v = σ := by
  funext i; exact if_neg (by omega)
theorem tm_fill1 {σ : Nat → Int} {a b c : Nat} {v : Int} (h : a ≤ b) (hc : c = b + 1) : tgu (tm_fill σ a b v) b v = tm_fill σ a c v := by
  funext i
  unfold tgu tm_fill
  by_cases e : i = b
  · rw [if_pos e, if_pos (by omega)]
  · rw [if_neg e]
    by_cases q : a ≤ i ∧ i < b
    · rw [if_pos q, if_pos (by omega)]
    · rw [if_neg q, if_neg (by omega)]
def tm_cp (σ τ : Nat → Int) (a b d : Nat) : Nat → Int := fun i => if a ≤ i ∧ i < b then τ (i + d - a) else σ i
theorem tm_cp0 {σ τ : Nat → Int} {a b d : Nat} (h : b ≤ a) : tm_cp σ τ a b d = σ := by
  funext i; exact if_neg (by omega)
theorem tm_cp1 {σ τ : Nat → Int} {a b c d : Nat} {v : Int} (h : a ≤ b) (hc : c = b + 1) (hv : v = τ (b + d - a)) : tgu (tm_cp σ τ a b d) b v = tm_cp σ τ a c d := by
  funext i
  unfold tgu tm_cp
  by_cases e : i = b
  · rw [if_pos e, if_pos (by omega), e]; exact hv
  · rw [if_neg e]
    by_cases q : a ≤ i ∧ i < b
    · rw [if_pos q, if_pos (by omega)]
    · rw [if_neg q, if_neg (by omega)]
set_option maxHeartbeats 4000000 in
set_option maxRecDepth 100000 in
theorem r_X12_clock (l : Launch) (D : va_G) (cy : Nat → ClassId) (sz : Nat) (L : List Nat) (K : Nat → tk_K) (Γ : tk_G) (f : Nat → va_E) (o : Nat) (p0 : Int32) (ho : tp_r L K 39 (0) 0 o) : Met l yX12_clock (tl_w yX12_clock cX12_clock 2 (some .boolean)) ({ frames := 1, cells := 0, slots := 0, locals := 25 }) (va_Pc [.ref o, .int p0] (tp_P D cy L K Γ f sz)) (va_Qi (fun (r : Int32) (u : (Nat → va_E) × tk_G) => tl_E r (Γ (40, 7666, 0) 0 ≤ p0.toInt ∧ p0.toInt ≤ 399) 1 0 ∧ u.2 (40, 7666, 0) = if Γ (40, 7666, 0) 0 ≤ p0.toInt ∧ p0.toInt ≤ 399 then tgu (Γ (40, 7666, 0)) 0 p0.toInt else Γ (40, 7666, 0)) (tp_BG D cy L K Γ f [40]) (tp_A L sz)) 0 0 (tp_A L sz) := by
  refine Met.ofW (cc := cX12_clock) (maxL := 2) (ret := (some .boolean)) (by decide) rfl ?_
  intro p e s m args below meth c s₁ B hml hv
  obtain ⟨rfl, hsz, hP, hK, hL, hI, hN, hU⟩ := hv
  have hx := B.exec
  have hb := B.bytes
  have hr := B.returns
  have hta := tl_hta (atoms_spec (ws := tl_w yX12_clock cX12_clock 2 (some .boolean)) B.pre)
  have hown : s.vm.findClass RX12 = some m.cls := findClass_of_methodNamed B.named
  have hlocks := B.notSynchronized
  subst hsz
  have hI0 := hI
  generalize hAe : tp_A L s.heap.size = A
  have hA : ∀ q : Nat, s.heap.size ≤ q → A q := fun q h => by rw [← hAe]; exact Or.inr h
  have hAL : ∀ q ∈ L, A q := fun q h => by rw [← hAe]; exact Or.inl h
  have hAf : ∀ (H : Heap), s.heap.size ≤ H.size → ∀ q, tp_A L H.size q → A q := fun H h q hq => hq.elim (hAL q) (fun h2 => hA q (Nat.le_trans h h2))
  have hS : va_S A s.heap s.heap [] := va_S.rf
  have hD : va_D A (va_pl L f) := tp_D hL hAL
  have hfr : ∀ b, (K b).1 ∉ ([40] : List Nat) → f b = f b := fun _ _ => rfl
  have hgr : ∀ κ : tk_K, κ.1 ∉ ([40] : List Nat) → Γ κ = Γ κ := fun _ _ => rfl
  have hl := lv_entry ([.ref o, .int p0]) (n := 2) (Nat.le_of_ble_eq_true rfl)
  rw [lg_entry_eq]
  generalize (lg_sl ([.ref o, .int p0]) ++ List.replicate (2 - (lg_sl ([.ref o, .int p0])).length) Slot.unset).toArray = ls at hl ⊢
  have hl : lv_has ls 2 [(0, .ref o), (1, .int p0)] := hl
  refine lv_iload_n hx hb dX12_clock_0 rfl (lv_at hl 1 rfl) ?_
  refine lv_i2l (v := p0.toInt64) hx hb dX12_clock_1 (by first | rfl | decide) ?_
  refine lv_aload_n hx hb dX12_clock_2 rfl (lv_at hl 0 rfl) ?_
  obtain ⟨x_2, x_3, x_4, x_5, x_6, x_7, x_8, x_9, x_10, x_11, x_12, x_13, x_14, x_15, x_16, x_17, x_18, x_19, x_20, x_21, x_22, x_23, x_24, x_25, x_26, x_27, x_28, x_29, x_30, x_31, x_32, x_33, x_34, x_35, x_36, x_37, x_38, x_39, x_40, x_41, x_42, x_43, x_44, x_45, x_46, x_47, x_48, x_49, x_50, hf_1, hx_2, hx_3, hx_4, hx_5, hx_6, hx_7, hx_8, hx_9, hx_10, hx_11, hx_12, hx_13, hx_14, hx_15, hx_16, hx_17, hx_18, hx_19, hx_20, hx_21, hx_22, hx_23, hx_24, hx_25, hx_26, hx_27, hx_28, hx_29, hx_30, hx_32, hx_33, hx_34, hx_35, hx_36, hx_37, hx_38, hx_39, hx_40, hx_41, hx_42, hx_43, hx_44, hx_45, hx_46, hx_47, hx_48, hx_49, hx_50⟩ := (show tp_o_M L K (0) 0 (Γ (39, 0, 0)) (f o) from hI0.at ho)
  refine tp_get (cy := cy) (ci := 12) (v := .ref x_2) (C := RX12) (T := TX12) (N := 49) hx hb hta inlX12 hown hK hP ho.1 hf_1 rfl 0 (by decide) (hta _ wk_149) (fun _ h9 => h9) rfl dX12_clock_3 ?_
  refine lv_iconst (v := 0) hx hb dX12_clock_6 (by decide) ?_
  obtain ⟨g_52, hf_51, hg_53⟩ := (show tp_gi cy (7666) (Γ (40, 7666, 0)) (f x_2) from hI.at hx_2)
  have hn_54 : vp_in 0 (7666) := tl_in (by decide) (by decide)
  refine tp_iald (cy := cy) hx hb hK hP hx_2.1 hf_51 hn_54 dX12_clock_7 ?_
  refine lv_topi (fun z_55 ez_55 => ?_)
  have iz_55 : z_55.toInt = Γ (40, 7666, 0) 0 := by rw [ez_55]; exact hg_53 _ (tp_pin hn_54)
  refine lv_i2l (v := z_55.toInt64) hx hb dX12_clock_8 (by first | rfl | decide) ?_
  refine lv_ldc2 (v := 399) hx hb hown (hta _ wk_197) dX12_clock_9 ?_
  refine tl_si (tq_rS (As := [.long p0.toInt64, .long z_55.toInt64, .long 399]) (rest := []) ⟨hx, hb, hml, hown, hta⟩ (tp_P.pre hK hN hL hU hI hP) lk_X12_112 (r_X12_in l D cy s.heap.size L K Γ f p0.toInt64 z_55.toInt64 399 ) rfl rfl ⟨Nat.le_of_ble_eq_true rfl, Nat.le_of_ble_eq_true rfl⟩ rfl hl.1 rfl (Nat.le_of_ble_eq_true rfl) dX12_clock_12 ⟨Nat.le_of_ble_eq_true rfl, Nat.le_of_ble_eq_true rfl⟩) (fun r_57 hw_56 => ?_)
  simp only [Int32.toInt_toInt64] at hw_56
  have hw_56 : tl_E r_57 (z_55.toInt ≤ p0.toInt ∧ p0.toInt ≤ (399 : Int)) 1 0 := hw_56
  refine lv_if_ne (tgt := 20) hx hb dX12_clock_15 (by decide) (fun c_58 => ?_) (fun c_58 => ?_)
  · have c_58 := hw_56.t c_58
    refine lv_aload_n hx hb dX12_clock_20 rfl (lv_at hl 0 rfl) ?_
    refine tp_get (cy := cy) (ci := 12) (v := .ref x_2) (C := RX12) (T := TX12) (N := 49) hx hb hta inlX12 hown hK hP ho.1 hf_1 rfl 0 (by decide) (hta _ wk_149) (fun _ h9 => h9) rfl dX12_clock_21 ?_
    refine lv_iconst (v := 0) hx hb dX12_clock_24 (by decide) ?_
    refine lv_iload_n hx hb dX12_clock_25 rfl (lv_at hl 1 rfl) ?_
    have hn_59 : vp_in 0 (7666) := tl_in (by decide) (by decide)
    have hj_60 : (0 : Int32).toNatClampNeg = 0 := by decide
    have hv_61 : p0.toInt = p0.toInt := rfl
    obtain ⟨Γ_62, eΓ_62⟩ : ∃ y : tk_G, y = tg Γ (40, 7666, 0) 0 p0.toInt := ⟨_, rfl⟩
    have hI9 : tp_I cy L K Γ_62 (va_up f x_2 (.inl (cy 0, 7666, .inl (upd g_52 (0 : Int32).toNatClampNeg p0)))) := by rw [eΓ_62, ← hj_60, ← hv_61]; exact hI.setg hU rfl hx_2 (show tp_gi cy (7666) (tgu (Γ (40, 7666, 0)) _ _) _ from ⟨_, rfl, tp_gi_upd hg_53⟩)
    have hfr9 : ∀ b, (K b).1 ∉ ([40] : List Nat) → va_up f x_2 (.inl (cy 0, 7666, .inl (upd g_52 (0 : Int32).toNatClampNeg p0))) b = f b := tp_fr hfr hx_2 (by decide)
    refine tp_iast (cy := cy) hx hb hK hP hD hS hx_2.1 hf_51 hn_59 dX12_clock_26 (fun H locs hP hD hS => ?_)
    have hP : va_P D vwCl (va_pl L (va_up f x_2 (.inl (cy 0, 7666, .inl (upd g_52 (0 : Int32).toNatClampNeg p0))))) H := hP
    generalize hfe : va_up f x_2 (.inl (cy 0, 7666, .inl (upd g_52 (0 : Int32).toNatClampNeg p0))) = f_63 at hP hI9 hfr9
    have hD : va_D A (va_pl L f_63) := tp_D hL hAL
    have hf_64 : f_63 x_2 = .inl (cy 0, 7666, .inl (upd g_52 (0 : Int32).toNatClampNeg p0)) := by rw [← hfe]; exact va_up_self _ _ _
    clear hfe
    have hI := hI9
    have hfr := hfr9
    clear hI9 hfr9
    have wsΓ_62 : Γ_62 (40, 7666, 0) 0 = p0.toInt := by rw [eΓ_62]; exact tg_s
    have hgr : ∀ κ : tk_K, κ.1 ∉ ([40] : List Nat) → Γ_62 κ = Γ κ := tg_fr hgr eΓ_62 (by decide)
    refine lv_iconst (v := 1) hx hb dX12_clock_27 (by decide) ?_
    exact W.zret (ty := .boolean) (v := 1) hx hb hr rfl (fun t ht hW => ⟨⟨_, (f_63, Γ_62), rfl, ⟨(Or.inl ⟨by omega, rfl⟩), (by rw [if_pos (by omega), eΓ_62, tg_f])⟩, by rw [ht]; exact hP, hI, hfr, hgr⟩, hS.F ht⟩) hS.2.2 dX12_clock_28
  · have c_58 := hw_56.f c_58
    refine lv_iconst (v := 0) hx hb dX12_clock_18 (by decide) ?_
    exact W.zret (ty := .boolean) (v := 0) hx hb hr rfl (fun t ht hW => ⟨⟨_, (f, Γ), rfl, ⟨(Or.inr ⟨by omega, rfl⟩), (by rw [if_neg (by omega)])⟩, by rw [ht]; exact hP, hI, hfr, hgr⟩, hS.F ht⟩) hS.2.2 dX12_clock_19
set_option maxHeartbeats 4000000 in
set_option maxRecDepth 100000 in
theorem r_X12_slip (l : Launch) (D : va_G) (cy : Nat → ClassId) (sz : Nat) (L : List Nat) (K : Nat → tk_K) (Γ : tk_G) (f : Nat → va_E) (o : Nat) (p0 : Int32) (p1 : Int32) (p2 : Int32) (p3 : Int32) (ho : tp_r L K 39 (0) 0 o) (hs : (0 ≤ Γ (40, 7666, 0) 1 ∧ Γ (40, 7666, 0) 1 ≤ 24) ∧ (0 ≤ Γ (40, 7666, 0) 2 ∧ Γ (40, 7666, 0) 2 ≤ 40) ∧ (0 ≤ Γ (40, 7666, 0) 3 ∧ Γ (40, 7666, 0) 3 ≤ 60) ∧ (0 ≤ Γ (40, 7666, 0) 4 ∧ Γ (40, 7666, 0) 4 ≤ 10) ∧ (0 ≤ Γ (40, 7666, 0) 7665 ∧ Γ (40, 7666, 0) 7665 ≤ 8)) : Met l yX12_slip (tl_w yX12_slip cX12_slip 6 (some .int)) ({ frames := 1, cells := 0, slots := 0, locals := 25 }) (va_Pc [.ref o, .int p0, .int p1, .int p2, .int p3] (tp_P D cy L K Γ f sz)) (va_Qi (fun (r : Int32) (u : (Nat → va_E) × tk_G) => r.toInt = (if ¬ Γ (40, 7666, 0) 2 = 40 ∧ (0 ≤ p0.toInt ∧ p0.toInt ≤ 3) ∧ (0 ≤ p1.toInt ∧ p1.toInt ≤ 299) ∧ (0 ≤ p2.toInt ∧ p2.toInt ≤ 299) ∧ p1.toInt ≤ p2.toInt ∧ -9999 ≤ p3.toInt ∧ p3.toInt ≤ 9999 then Γ (40, 7666, 0) 2 else -1) ∧ u.2 (40, 7666, 0) = if ¬ Γ (40, 7666, 0) 2 = 40 ∧ (0 ≤ p0.toInt ∧ p0.toInt ≤ 3) ∧ (0 ≤ p1.toInt ∧ p1.toInt ≤ 299) ∧ (0 ≤ p2.toInt ∧ p2.toInt ≤ 299) ∧ p1.toInt ≤ p2.toInt ∧ -9999 ≤ p3.toInt ∧ p3.toInt ≤ 9999 then tgu (tgu (tgu (tgu (tgu (Γ (40, 7666, 0)) (81 + 4 * Γ (40, 7666, 0) 2 + 0).toNat (p0.toInt)) (81 + 4 * Γ (40, 7666, 0) 2 + 1).toNat (p1.toInt)) (81 + 4 * Γ (40, 7666, 0) 2 + 2).toNat (p2.toInt)) (81 + 4 * Γ (40, 7666, 0) 2 + 3).toNat (p3.toInt)) 2 (Γ (40, 7666, 0) 2 + 1) else Γ (40, 7666, 0)) (tp_BG D cy L K Γ f [40]) (tp_A L sz)) 0 0 (tp_A L sz) := by
  refine Met.ofW (cc := cX12_slip) (maxL := 6) (ret := (some .int)) (by decide) rfl ?_
  intro p e s m args below meth c s₁ B hml hv
  obtain ⟨rfl, hsz, hP, hK, hL, hI, hN, hU⟩ := hv
  have hx := B.exec
  have hb := B.bytes
  have hr := B.returns
  have hta := tl_hta (atoms_spec (ws := tl_w yX12_slip cX12_slip 6 (some .int)) B.pre)
  have hown : s.vm.findClass RX12 = some m.cls := findClass_of_methodNamed B.named
  have hlocks := B.notSynchronized
  subst hsz
  have hI0 := hI
  generalize hAe : tp_A L s.heap.size = A
  have hA : ∀ q : Nat, s.heap.size ≤ q → A q := fun q h => by rw [← hAe]; exact Or.inr h
  have hAL : ∀ q ∈ L, A q := fun q h => by rw [← hAe]; exact Or.inl h
  have hAf : ∀ (H : Heap), s.heap.size ≤ H.size → ∀ q, tp_A L H.size q → A q := fun H h q hq => hq.elim (hAL q) (fun h2 => hA q (Nat.le_trans h h2))
  have hS : va_S A s.heap s.heap [] := va_S.rf
  have hD : va_D A (va_pl L f) := tp_D hL hAL
  have hfr : ∀ b, (K b).1 ∉ ([40] : List Nat) → f b = f b := fun _ _ => rfl
  have hgr : ∀ κ : tk_K, κ.1 ∉ ([40] : List Nat) → Γ κ = Γ κ := fun _ _ => rfl
  have hl := lv_entry ([.ref o, .int p0, .int p1, .int p2, .int p3]) (n := 6) (Nat.le_of_ble_eq_true rfl)
  rw [lg_entry_eq]
  generalize (lg_sl ([.ref o, .int p0, .int p1, .int p2, .int p3]) ++ List.replicate (6 - (lg_sl ([.ref o, .int p0, .int p1, .int p2, .int p3])).length) Slot.unset).toArray = ls at hl ⊢
  have hl : lv_has ls 6 [(0, .ref o), (1, .int p0), (2, .int p1), (3, .int p2), (4, .int p3)] := hl
  refine lv_aload_n hx hb dX12_slip_0 rfl (lv_at hl 0 rfl) ?_
  obtain ⟨x_2, x_3, x_4, x_5, x_6, x_7, x_8, x_9, x_10, x_11, x_12, x_13, x_14, x_15, x_16, x_17, x_18, x_19, x_20, x_21, x_22, x_23, x_24, x_25, x_26, x_27, x_28, x_29, x_30, x_31, x_32, x_33, x_34, x_35, x_36, x_37, x_38, x_39, x_40, x_41, x_42, x_43, x_44, x_45, x_46, x_47, x_48, x_49, x_50, hf_1, hx_2, hx_3, hx_4, hx_5, hx_6, hx_7, hx_8, hx_9, hx_10, hx_11, hx_12, hx_13, hx_14, hx_15, hx_16, hx_17, hx_18, hx_19, hx_20, hx_21, hx_22, hx_23, hx_24, hx_25, hx_26, hx_27, hx_28, hx_29, hx_30, hx_32, hx_33, hx_34, hx_35, hx_36, hx_37, hx_38, hx_39, hx_40, hx_41, hx_42, hx_43, hx_44, hx_45, hx_46, hx_47, hx_48, hx_49, hx_50⟩ := (show tp_o_M L K (0) 0 (Γ (39, 0, 0)) (f o) from hI0.at ho)
  refine tp_get (cy := cy) (ci := 12) (v := .ref x_2) (C := RX12) (T := TX12) (N := 49) hx hb hta inlX12 hown hK hP ho.1 hf_1 rfl 0 (by decide) (hta _ wk_149) (fun _ h9 => h9) rfl dX12_slip_1 ?_
  refine lv_iconst (v := 2) hx hb dX12_slip_4 (by decide) ?_
  obtain ⟨g_52, hf_51, hg_53⟩ := (show tp_gi cy (7666) (Γ (40, 7666, 0)) (f x_2) from hI.at hx_2)
  have hn_54 : vp_in 2 (7666) := tl_in (by decide) (by decide)
  refine tp_iald (cy := cy) hx hb hK hP hx_2.1 hf_51 hn_54 dX12_slip_5 ?_
  refine lv_topi (fun z_55 ez_55 => ?_)
  have iz_55 : z_55.toInt = Γ (40, 7666, 0) 2 := by rw [ez_55]; exact hg_53 _ (tp_pin hn_54)
  refine lv_bipush (v := 40) hx hb dX12_slip_6 (by decide) ?_
  refine lv_icmp_eq (tgt := 57) hx hb dX12_slip_8 (by decide) (fun c_56 => ?_) (fun c_56 => ?_)
  · have c_56 : z_55.toInt = (40 : Int) := tl_eq c_56
    refine lv_iconst (v := (-1)) hx hb dX12_slip_57 (by decide) ?_
    exact W.iret (v := (-1)) hx hb hr (fun t ht hW => ⟨⟨_, (f, Γ), rfl, ⟨(by rw [if_neg (by omega)]; rfl), (by rw [if_neg (by omega)])⟩, by rw [ht]; exact hP, hI, hfr, hgr⟩, hS.F ht⟩) hS.2.2 dX12_slip_58
  · have c_56 : ¬ z_55.toInt = (40 : Int) := tl_neq c_56
    refine lv_iload_n hx hb dX12_slip_11 rfl (lv_at hl 1 rfl) ?_
    refine lv_i2l (v := p0.toInt64) hx hb dX12_slip_12 (by first | rfl | decide) ?_
    refine lv_lconst (v := 0) hx hb dX12_slip_13 (by decide) ?_
    refine lv_ldc2 (v := 3) hx hb hown (hta _ wk_221) dX12_slip_14 ?_
    refine tl_si (tq_rS (As := [.long p0.toInt64, .long 0, .long 3]) (rest := []) ⟨hx, hb, hml, hown, hta⟩ (tp_P.pre hK hN hL hU hI hP) lk_X12_112 (r_X12_in l D cy s.heap.size L K Γ f p0.toInt64 0 3 ) rfl rfl ⟨Nat.le_of_ble_eq_true rfl, Nat.le_of_ble_eq_true rfl⟩ rfl hl.1 rfl (Nat.le_of_ble_eq_true rfl) dX12_slip_17 ⟨Nat.le_of_ble_eq_true rfl, Nat.le_of_ble_eq_true rfl⟩) (fun r_58 hw_57 => ?_)
    simp only [Int32.toInt_toInt64] at hw_57
    have hw_57 : tl_E r_58 ((0 : Int) ≤ p0.toInt ∧ p0.toInt ≤ (3 : Int)) 1 0 := hw_57
    refine lv_if_eq (tgt := 57) hx hb dX12_slip_20 (by decide) (fun c_59 => ?_) (fun c_59 => ?_)
    · have c_59 := hw_57.f c_59
      refine lv_iconst (v := (-1)) hx hb dX12_slip_57 (by decide) ?_
      exact W.iret (v := (-1)) hx hb hr (fun t ht hW => ⟨⟨_, (f, Γ), rfl, ⟨(by rw [if_neg (by omega)]; rfl), (by rw [if_neg (by omega)])⟩, by rw [ht]; exact hP, hI, hfr, hgr⟩, hS.F ht⟩) hS.2.2 dX12_slip_58
    · have c_59 := hw_57.t c_59
      refine lv_iload_n hx hb dX12_slip_23 rfl (lv_at hl 2 rfl) ?_
      refine tl_si (tq_rS (As := [.int p1]) (rest := []) ⟨hx, hb, hml, hown, hta⟩ (tp_P.pre hK hN hL hU hI hP) lk_X12_124 (r_X12_isColour l D cy s.heap.size L K Γ f p1 ) rfl rfl ⟨Nat.le_of_ble_eq_true rfl, Nat.le_of_ble_eq_true rfl⟩ rfl hl.1 rfl (Nat.le_of_ble_eq_true rfl) dX12_slip_24 ⟨Nat.le_of_ble_eq_true rfl, Nat.le_of_ble_eq_true rfl⟩) (fun r_61 hw_60 => ?_)
      have hw_60 : tl_E r_61 (0 ≤ p1.toInt ∧ p1.toInt ≤ 299) 1 0 := hw_60
      refine lv_if_eq (tgt := 57) hx hb dX12_slip_27 (by decide) (fun c_62 => ?_) (fun c_62 => ?_)
      · have c_62 := hw_60.f c_62
        refine lv_iconst (v := (-1)) hx hb dX12_slip_57 (by decide) ?_
        exact W.iret (v := (-1)) hx hb hr (fun t ht hW => ⟨⟨_, (f, Γ), rfl, ⟨(by rw [if_neg (by omega)]; rfl), (by rw [if_neg (by omega)])⟩, by rw [ht]; exact hP, hI, hfr, hgr⟩, hS.F ht⟩) hS.2.2 dX12_slip_58
      · have c_62 := hw_60.t c_62
        refine lv_iload_n hx hb dX12_slip_30 rfl (lv_at hl 3 rfl) ?_
        refine tl_si (tq_rS (As := [.int p2]) (rest := []) ⟨hx, hb, hml, hown, hta⟩ (tp_P.pre hK hN hL hU hI hP) lk_X12_124 (r_X12_isColour l D cy s.heap.size L K Γ f p2 ) rfl rfl ⟨Nat.le_of_ble_eq_true rfl, Nat.le_of_ble_eq_true rfl⟩ rfl hl.1 rfl (Nat.le_of_ble_eq_true rfl) dX12_slip_31 ⟨Nat.le_of_ble_eq_true rfl, Nat.le_of_ble_eq_true rfl⟩) (fun r_64 hw_63 => ?_)
        have hw_63 : tl_E r_64 (0 ≤ p2.toInt ∧ p2.toInt ≤ 299) 1 0 := hw_63
        refine lv_if_eq (tgt := 57) hx hb dX12_slip_34 (by decide) (fun c_65 => ?_) (fun c_65 => ?_)
        · have c_65 := hw_63.f c_65
          refine lv_iconst (v := (-1)) hx hb dX12_slip_57 (by decide) ?_
          exact W.iret (v := (-1)) hx hb hr (fun t ht hW => ⟨⟨_, (f, Γ), rfl, ⟨(by rw [if_neg (by omega)]; rfl), (by rw [if_neg (by omega)])⟩, by rw [ht]; exact hP, hI, hfr, hgr⟩, hS.F ht⟩) hS.2.2 dX12_slip_58
        · have c_65 := hw_63.t c_65
          refine lv_iload_n hx hb dX12_slip_37 rfl (lv_at hl 3 rfl) ?_
          refine lv_iload_n hx hb dX12_slip_38 rfl (lv_at hl 2 rfl) ?_
          refine lv_icmp_lt (tgt := 57) hx hb dX12_slip_39 (by decide) (fun c_66 => ?_) (fun c_66 => ?_)
          · have c_66 : p2.toInt < p1.toInt := tl_lt c_66
            refine lv_iconst (v := (-1)) hx hb dX12_slip_57 (by decide) ?_
            exact W.iret (v := (-1)) hx hb hr (fun t ht hW => ⟨⟨_, (f, Γ), rfl, ⟨(by rw [if_neg (by omega)]; rfl), (by rw [if_neg (by omega)])⟩, by rw [ht]; exact hP, hI, hfr, hgr⟩, hS.F ht⟩) hS.2.2 dX12_slip_58
          · have c_66 : p1.toInt ≤ p2.toInt := tl_nlt c_66
            refine lv_iload hx hb dX12_slip_42 (lv_at hl 4 rfl) ?_
            refine lv_i2l (v := p3.toInt64) hx hb dX12_slip_44 (by first | rfl | decide) ?_
            refine lv_ldc2 (v := (-9999)) hx hb hown (hta _ wk_301) dX12_slip_45 ?_
            refine lv_ldc2 (v := 9999) hx hb hown (hta _ wk_302) dX12_slip_48 ?_
            refine tl_si (tq_rS (As := [.long p3.toInt64, .long (-9999), .long 9999]) (rest := []) ⟨hx, hb, hml, hown, hta⟩ (tp_P.pre hK hN hL hU hI hP) lk_X12_112 (r_X12_in l D cy s.heap.size L K Γ f p3.toInt64 (-9999) 9999 ) rfl rfl ⟨Nat.le_of_ble_eq_true rfl, Nat.le_of_ble_eq_true rfl⟩ rfl hl.1 rfl (Nat.le_of_ble_eq_true rfl) dX12_slip_51 ⟨Nat.le_of_ble_eq_true rfl, Nat.le_of_ble_eq_true rfl⟩) (fun r_68 hw_67 => ?_)
            simp only [Int32.toInt_toInt64] at hw_67
            have hw_67 : tl_E r_68 ((-9999 : Int) ≤ p3.toInt ∧ p3.toInt ≤ (9999 : Int)) 1 0 := hw_67
            refine lv_if_ne (tgt := 59) hx hb dX12_slip_54 (by decide) (fun c_69 => ?_) (fun c_69 => ?_)
            · have c_69 := hw_67.t c_69
              refine lv_bipush (v := 81) hx hb dX12_slip_59 (by decide) ?_
              refine lv_iconst (v := 4) hx hb dX12_slip_61 (by decide) ?_
              refine lv_aload_n hx hb dX12_slip_62 rfl (lv_at hl 0 rfl) ?_
              refine tp_get (cy := cy) (ci := 12) (v := .ref x_2) (C := RX12) (T := TX12) (N := 49) hx hb hta inlX12 hown hK hP ho.1 hf_1 rfl 0 (by decide) (hta _ wk_149) (fun _ h9 => h9) rfl dX12_slip_63 ?_
              refine lv_iconst (v := 2) hx hb dX12_slip_66 (by decide) ?_
              have hn_70 : vp_in 2 (7666) := tl_in (by decide) (by decide)
              refine tp_iald (cy := cy) hx hb hK hP hx_2.1 hf_51 hn_70 dX12_slip_67 ?_
              refine lv_topi (fun z_71 ez_71 => ?_)
              obtain rfl : z_55 = z_71 := ez_55.trans ez_71.symm
              refine lv_imul hx hb dX12_slip_68 ?_
              refine lv_topi (fun z_72 ez_72 => ?_)
              try have iz_72 : z_72.toInt = (4 : Int) * z_55.toInt := by rw [ez_72]; exact tl_mulN 4 z_55 rfl rfl (by omega) (by omega)
              refine lv_iadd hx hb dX12_slip_69 ?_
              refine lv_topi (fun z_73 ez_73 => ?_)
              try have iz_73 : z_73.toInt = (81 : Int) + z_72.toInt := by rw [ez_73]; exact tl_addN 81 z_72 rfl rfl (by omega) (by omega)
              refine lv_istore (lv' := [(5, .int z_73), (0, .ref o), (1, .int p0), (2, .int p1), (3, .int p2), (4, .int p3)]) hx hb dX12_slip_70 hl (by decide) rfl (fun ls hl => ?_)
              refine lv_aload_n hx hb dX12_slip_72 rfl (lv_at hl 1 rfl) ?_
              refine tp_get (cy := cy) (ci := 12) (v := .ref x_2) (C := RX12) (T := TX12) (N := 49) hx hb hta inlX12 hown hK hP ho.1 hf_1 rfl 0 (by decide) (hta _ wk_149) (fun _ h9 => h9) rfl dX12_slip_73 ?_
              refine lv_iload hx hb dX12_slip_76 (lv_at hl 0 rfl) ?_
              refine lv_iload_n hx hb dX12_slip_78 rfl (lv_at hl 2 rfl) ?_
              have hn_74 : vp_in z_73 (7666) := tl_in (by omega) (by omega)
              have hj_75 : z_73.toNatClampNeg = (81 + 4 * Γ (40, 7666, 0) 2 + 0).toNat := by show z_73.toInt.toNat = _; omega
              have hv_76 : p0.toInt = p0.toInt := by omega
              obtain ⟨Γ_77, eΓ_77⟩ : ∃ y : tk_G, y = tg Γ (40, 7666, 0) ((81 + 4 * Γ (40, 7666, 0) 2 + 0).toNat) p0.toInt := ⟨_, rfl⟩
              have hI9 : tp_I cy L K Γ_77 (va_up f x_2 (.inl (cy 0, 7666, .inl (upd g_52 z_73.toNatClampNeg p0)))) := by rw [eΓ_77, ← hj_75, ← hv_76]; exact hI.setg hU rfl hx_2 (show tp_gi cy (7666) (tgu (Γ (40, 7666, 0)) _ _) _ from ⟨_, rfl, tp_gi_upd hg_53⟩)
              have hfr9 : ∀ b, (K b).1 ∉ ([40] : List Nat) → va_up f x_2 (.inl (cy 0, 7666, .inl (upd g_52 z_73.toNatClampNeg p0))) b = f b := tp_fr hfr hx_2 (by decide)
              refine tp_iast (cy := cy) hx hb hK hP hD hS hx_2.1 hf_51 hn_74 dX12_slip_79 (fun H locs hP hD hS => ?_)
              have hP : va_P D vwCl (va_pl L (va_up f x_2 (.inl (cy 0, 7666, .inl (upd g_52 z_73.toNatClampNeg p0))))) H := hP
              generalize hfe : va_up f x_2 (.inl (cy 0, 7666, .inl (upd g_52 z_73.toNatClampNeg p0))) = f_78 at hP hI9 hfr9
              have hD : va_D A (va_pl L f_78) := tp_D hL hAL
              have hf_79 : f_78 x_2 = .inl (cy 0, 7666, .inl (upd g_52 z_73.toNatClampNeg p0)) := by rw [← hfe]; exact va_up_self _ _ _
              clear hfe
              have hI := hI9
              have hfr := hfr9
              clear hI9 hfr9
              have wtΓ_77_2 : Γ_77 (40, 7666, 0) 2 = Γ (40, 7666, 0) 2 := by rw [eΓ_77]; exact tg_i (by omega)
              have wsΓ_77 : Γ_77 (40, 7666, 0) ((81 + 4 * Γ (40, 7666, 0) 2 + 0).toNat) = p0.toInt := by rw [eΓ_77]; exact tg_s
              have hgr : ∀ κ : tk_K, κ.1 ∉ ([40] : List Nat) → Γ_77 κ = Γ κ := tg_fr hgr eΓ_77 (by decide)
              refine lv_aload_n hx hb dX12_slip_80 rfl (lv_at hl 1 rfl) ?_
              refine tp_get (cy := cy) (ci := 12) (v := .ref x_2) (C := RX12) (T := TX12) (N := 49) hx hb hta inlX12 hown hK hP ho.1 ((tp_un hfr ho (by decide)).trans hf_1) rfl 0 (by decide) (hta _ wk_149) (fun _ h9 => h9) rfl dX12_slip_81 ?_
              refine lv_iload hx hb dX12_slip_84 (lv_at hl 0 rfl) ?_
              refine lv_iconst (v := 1) hx hb dX12_slip_86 (by decide) ?_
              refine lv_iadd hx hb dX12_slip_87 ?_
              refine lv_topi (fun z_80 ez_80 => ?_)
              try have iz_80 : z_80.toInt = z_73.toInt + (1 : Int) := by rw [ez_80]; exact tl_addN z_73 1 rfl rfl (by omega) (by omega)
              refine lv_iload_n hx hb dX12_slip_88 rfl (lv_at hl 3 rfl) ?_
              obtain ⟨g_82, hf_81, hg_83⟩ := (show tp_gi cy (7666) (Γ_77 (40, 7666, 0)) (f_78 x_2) from hI.at hx_2)
              have hn_84 : vp_in z_80 (7666) := tl_in (by omega) (by omega)
              have hj_85 : z_80.toNatClampNeg = (81 + 4 * Γ (40, 7666, 0) 2 + 1).toNat := by show z_80.toInt.toNat = _; omega
              have hv_86 : p1.toInt = p1.toInt := by omega
              obtain ⟨Γ_87, eΓ_87⟩ : ∃ y : tk_G, y = tg Γ_77 (40, 7666, 0) ((81 + 4 * Γ (40, 7666, 0) 2 + 1).toNat) p1.toInt := ⟨_, rfl⟩
              have hI9 : tp_I cy L K Γ_87 (va_up f_78 x_2 (.inl (cy 0, 7666, .inl (upd g_82 z_80.toNatClampNeg p1)))) := by rw [eΓ_87, ← hj_85, ← hv_86]; exact hI.setg hU rfl hx_2 (show tp_gi cy (7666) (tgu (Γ_77 (40, 7666, 0)) _ _) _ from ⟨_, rfl, tp_gi_upd hg_83⟩)
              have hfr9 : ∀ b, (K b).1 ∉ ([40] : List Nat) → va_up f_78 x_2 (.inl (cy 0, 7666, .inl (upd g_82 z_80.toNatClampNeg p1))) b = f b := tp_fr hfr hx_2 (by decide)
              refine tp_iast (cy := cy) hx hb hK hP hD hS hx_2.1 hf_81 hn_84 dX12_slip_89 (fun H locs hP hD hS => ?_)
              have hP : va_P D vwCl (va_pl L (va_up f_78 x_2 (.inl (cy 0, 7666, .inl (upd g_82 z_80.toNatClampNeg p1))))) H := hP
              generalize hfe : va_up f_78 x_2 (.inl (cy 0, 7666, .inl (upd g_82 z_80.toNatClampNeg p1))) = f_88 at hP hI9 hfr9
              have hD : va_D A (va_pl L f_88) := tp_D hL hAL
              have hf_89 : f_88 x_2 = .inl (cy 0, 7666, .inl (upd g_82 z_80.toNatClampNeg p1)) := by rw [← hfe]; exact va_up_self _ _ _
              clear hfe
              have hI := hI9
              have hfr := hfr9
              clear hI9 hfr9
              have wtΓ_87_2 : Γ_87 (40, 7666, 0) 2 = Γ_77 (40, 7666, 0) 2 := by rw [eΓ_87]; exact tg_i (by omega)
              have wsΓ_87 : Γ_87 (40, 7666, 0) ((81 + 4 * Γ (40, 7666, 0) 2 + 1).toNat) = p1.toInt := by rw [eΓ_87]; exact tg_s
              have hgr : ∀ κ : tk_K, κ.1 ∉ ([40] : List Nat) → Γ_87 κ = Γ κ := tg_fr hgr eΓ_87 (by decide)
              refine lv_aload_n hx hb dX12_slip_90 rfl (lv_at hl 1 rfl) ?_
              refine tp_get (cy := cy) (ci := 12) (v := .ref x_2) (C := RX12) (T := TX12) (N := 49) hx hb hta inlX12 hown hK hP ho.1 ((tp_un hfr ho (by decide)).trans hf_1) rfl 0 (by decide) (hta _ wk_149) (fun _ h9 => h9) rfl dX12_slip_91 ?_
              refine lv_iload hx hb dX12_slip_94 (lv_at hl 0 rfl) ?_
              refine lv_iconst (v := 2) hx hb dX12_slip_96 (by decide) ?_
              refine lv_iadd hx hb dX12_slip_97 ?_
              refine lv_topi (fun z_90 ez_90 => ?_)
              try have iz_90 : z_90.toInt = z_73.toInt + (2 : Int) := by rw [ez_90]; exact tl_addN z_73 2 rfl rfl (by omega) (by omega)
              refine lv_iload_n hx hb dX12_slip_98 rfl (lv_at hl 4 rfl) ?_
              obtain ⟨g_92, hf_91, hg_93⟩ := (show tp_gi cy (7666) (Γ_87 (40, 7666, 0)) (f_88 x_2) from hI.at hx_2)
              have hn_94 : vp_in z_90 (7666) := tl_in (by omega) (by omega)
              have hj_95 : z_90.toNatClampNeg = (81 + 4 * Γ (40, 7666, 0) 2 + 2).toNat := by show z_90.toInt.toNat = _; omega
              have hv_96 : p2.toInt = p2.toInt := by omega
              obtain ⟨Γ_97, eΓ_97⟩ : ∃ y : tk_G, y = tg Γ_87 (40, 7666, 0) ((81 + 4 * Γ (40, 7666, 0) 2 + 2).toNat) p2.toInt := ⟨_, rfl⟩
              have hI9 : tp_I cy L K Γ_97 (va_up f_88 x_2 (.inl (cy 0, 7666, .inl (upd g_92 z_90.toNatClampNeg p2)))) := by rw [eΓ_97, ← hj_95, ← hv_96]; exact hI.setg hU rfl hx_2 (show tp_gi cy (7666) (tgu (Γ_87 (40, 7666, 0)) _ _) _ from ⟨_, rfl, tp_gi_upd hg_93⟩)
              have hfr9 : ∀ b, (K b).1 ∉ ([40] : List Nat) → va_up f_88 x_2 (.inl (cy 0, 7666, .inl (upd g_92 z_90.toNatClampNeg p2))) b = f b := tp_fr hfr hx_2 (by decide)
              refine tp_iast (cy := cy) hx hb hK hP hD hS hx_2.1 hf_91 hn_94 dX12_slip_99 (fun H locs hP hD hS => ?_)
              have hP : va_P D vwCl (va_pl L (va_up f_88 x_2 (.inl (cy 0, 7666, .inl (upd g_92 z_90.toNatClampNeg p2))))) H := hP
              generalize hfe : va_up f_88 x_2 (.inl (cy 0, 7666, .inl (upd g_92 z_90.toNatClampNeg p2))) = f_98 at hP hI9 hfr9
              have hD : va_D A (va_pl L f_98) := tp_D hL hAL
              have hf_99 : f_98 x_2 = .inl (cy 0, 7666, .inl (upd g_92 z_90.toNatClampNeg p2)) := by rw [← hfe]; exact va_up_self _ _ _
              clear hfe
              have hI := hI9
              have hfr := hfr9
              clear hI9 hfr9
              have wtΓ_97_2 : Γ_97 (40, 7666, 0) 2 = Γ_87 (40, 7666, 0) 2 := by rw [eΓ_97]; exact tg_i (by omega)
              have wsΓ_97 : Γ_97 (40, 7666, 0) ((81 + 4 * Γ (40, 7666, 0) 2 + 2).toNat) = p2.toInt := by rw [eΓ_97]; exact tg_s
              have hgr : ∀ κ : tk_K, κ.1 ∉ ([40] : List Nat) → Γ_97 κ = Γ κ := tg_fr hgr eΓ_97 (by decide)
              refine lv_aload_n hx hb dX12_slip_100 rfl (lv_at hl 1 rfl) ?_
              refine tp_get (cy := cy) (ci := 12) (v := .ref x_2) (C := RX12) (T := TX12) (N := 49) hx hb hta inlX12 hown hK hP ho.1 ((tp_un hfr ho (by decide)).trans hf_1) rfl 0 (by decide) (hta _ wk_149) (fun _ h9 => h9) rfl dX12_slip_101 ?_
              refine lv_iload hx hb dX12_slip_104 (lv_at hl 0 rfl) ?_
              refine lv_iconst (v := 3) hx hb dX12_slip_106 (by decide) ?_
              refine lv_iadd hx hb dX12_slip_107 ?_
              refine lv_topi (fun z_100 ez_100 => ?_)
              try have iz_100 : z_100.toInt = z_73.toInt + (3 : Int) := by rw [ez_100]; exact tl_addN z_73 3 rfl rfl (by omega) (by omega)
              refine lv_iload hx hb dX12_slip_108 (lv_at hl 5 rfl) ?_
              obtain ⟨g_102, hf_101, hg_103⟩ := (show tp_gi cy (7666) (Γ_97 (40, 7666, 0)) (f_98 x_2) from hI.at hx_2)
              have hn_104 : vp_in z_100 (7666) := tl_in (by omega) (by omega)
              have hj_105 : z_100.toNatClampNeg = (81 + 4 * Γ (40, 7666, 0) 2 + 3).toNat := by show z_100.toInt.toNat = _; omega
              have hv_106 : p3.toInt = p3.toInt := by omega
              obtain ⟨Γ_107, eΓ_107⟩ : ∃ y : tk_G, y = tg Γ_97 (40, 7666, 0) ((81 + 4 * Γ (40, 7666, 0) 2 + 3).toNat) p3.toInt := ⟨_, rfl⟩
              have hI9 : tp_I cy L K Γ_107 (va_up f_98 x_2 (.inl (cy 0, 7666, .inl (upd g_102 z_100.toNatClampNeg p3)))) := by rw [eΓ_107, ← hj_105, ← hv_106]; exact hI.setg hU rfl hx_2 (show tp_gi cy (7666) (tgu (Γ_97 (40, 7666, 0)) _ _) _ from ⟨_, rfl, tp_gi_upd hg_103⟩)
              have hfr9 : ∀ b, (K b).1 ∉ ([40] : List Nat) → va_up f_98 x_2 (.inl (cy 0, 7666, .inl (upd g_102 z_100.toNatClampNeg p3))) b = f b := tp_fr hfr hx_2 (by decide)
              refine tp_iast (cy := cy) hx hb hK hP hD hS hx_2.1 hf_101 hn_104 dX12_slip_110 (fun H locs hP hD hS => ?_)
              have hP : va_P D vwCl (va_pl L (va_up f_98 x_2 (.inl (cy 0, 7666, .inl (upd g_102 z_100.toNatClampNeg p3))))) H := hP
              generalize hfe : va_up f_98 x_2 (.inl (cy 0, 7666, .inl (upd g_102 z_100.toNatClampNeg p3))) = f_108 at hP hI9 hfr9
              have hD : va_D A (va_pl L f_108) := tp_D hL hAL
              have hf_109 : f_108 x_2 = .inl (cy 0, 7666, .inl (upd g_102 z_100.toNatClampNeg p3)) := by rw [← hfe]; exact va_up_self _ _ _
              clear hfe
              have hI := hI9
              have hfr := hfr9
              clear hI9 hfr9
              have wtΓ_107_2 : Γ_107 (40, 7666, 0) 2 = Γ_97 (40, 7666, 0) 2 := by rw [eΓ_107]; exact tg_i (by omega)
              have wsΓ_107 : Γ_107 (40, 7666, 0) ((81 + 4 * Γ (40, 7666, 0) 2 + 3).toNat) = p3.toInt := by rw [eΓ_107]; exact tg_s
              have hgr : ∀ κ : tk_K, κ.1 ∉ ([40] : List Nat) → Γ_107 κ = Γ κ := tg_fr hgr eΓ_107 (by decide)
              refine lv_aload_n hx hb dX12_slip_111 rfl (lv_at hl 1 rfl) ?_
              refine tp_get (cy := cy) (ci := 12) (v := .ref x_2) (C := RX12) (T := TX12) (N := 49) hx hb hta inlX12 hown hK hP ho.1 ((tp_un hfr ho (by decide)).trans hf_1) rfl 0 (by decide) (hta _ wk_149) (fun _ h9 => h9) rfl dX12_slip_112 ?_
              refine lv_iconst (v := 2) hx hb dX12_slip_115 (by decide) ?_
              refine lv_dup2_11 hx hb dX12_slip_116 rfl rfl ?_
              obtain ⟨g_111, hf_110, hg_112⟩ := (show tp_gi cy (7666) (Γ_107 (40, 7666, 0)) (f_108 x_2) from hI.at hx_2)
              have hn_113 : vp_in 2 (7666) := tl_in (by decide) (by decide)
              refine tp_iald (cy := cy) hx hb hK hP hx_2.1 hf_110 hn_113 dX12_slip_117 ?_
              refine lv_topi (fun z_114 ez_114 => ?_)
              have iz_114 : z_114.toInt = Γ_107 (40, 7666, 0) 2 := by rw [ez_114]; exact hg_112 _ (tp_pin hn_113)
              refine lv_iconst (v := 1) hx hb dX12_slip_118 (by decide) ?_
              refine lv_iadd hx hb dX12_slip_119 ?_
              refine lv_topi (fun z_115 ez_115 => ?_)
              try have iz_115 : z_115.toInt = z_114.toInt + (1 : Int) := by rw [ez_115]; exact tl_addN z_114 1 rfl rfl (by omega) (by omega)
              have hn_116 : vp_in 2 (7666) := tl_in (by decide) (by decide)
              have hj_117 : (2 : Int32).toNatClampNeg = 2 := by decide
              have hv_118 : z_115.toInt = Γ (40, 7666, 0) 2 + 1 := by omega
              obtain ⟨Γ_119, eΓ_119⟩ : ∃ y : tk_G, y = tg Γ_107 (40, 7666, 0) 2 (Γ (40, 7666, 0) 2 + 1) := ⟨_, rfl⟩
              have hI9 : tp_I cy L K Γ_119 (va_up f_108 x_2 (.inl (cy 0, 7666, .inl (upd g_111 (2 : Int32).toNatClampNeg z_115)))) := by rw [eΓ_119, ← hj_117, ← hv_118]; exact hI.setg hU rfl hx_2 (show tp_gi cy (7666) (tgu (Γ_107 (40, 7666, 0)) _ _) _ from ⟨_, rfl, tp_gi_upd hg_112⟩)
              have hfr9 : ∀ b, (K b).1 ∉ ([40] : List Nat) → va_up f_108 x_2 (.inl (cy 0, 7666, .inl (upd g_111 (2 : Int32).toNatClampNeg z_115))) b = f b := tp_fr hfr hx_2 (by decide)
              refine tp_iast (cy := cy) hx hb hK hP hD hS hx_2.1 hf_110 hn_116 dX12_slip_120 (fun H locs hP hD hS => ?_)
              have hP : va_P D vwCl (va_pl L (va_up f_108 x_2 (.inl (cy 0, 7666, .inl (upd g_111 (2 : Int32).toNatClampNeg z_115))))) H := hP
              generalize hfe : va_up f_108 x_2 (.inl (cy 0, 7666, .inl (upd g_111 (2 : Int32).toNatClampNeg z_115))) = f_120 at hP hI9 hfr9
              have hD : va_D A (va_pl L f_120) := tp_D hL hAL
              have hf_121 : f_120 x_2 = .inl (cy 0, 7666, .inl (upd g_111 (2 : Int32).toNatClampNeg z_115)) := by rw [← hfe]; exact va_up_self _ _ _
              clear hfe
              have hI := hI9
              have hfr := hfr9
              clear hI9 hfr9
              have wsΓ_119 : Γ_119 (40, 7666, 0) 2 = Γ (40, 7666, 0) 2 + 1 := by rw [eΓ_119]; exact tg_s
              have hgr : ∀ κ : tk_K, κ.1 ∉ ([40] : List Nat) → Γ_119 κ = Γ κ := tg_fr hgr eΓ_119 (by decide)
              refine lv_aload_n hx hb dX12_slip_121 rfl (lv_at hl 1 rfl) ?_
              refine tp_get (cy := cy) (ci := 12) (v := .ref x_2) (C := RX12) (T := TX12) (N := 49) hx hb hta inlX12 hown hK hP ho.1 ((tp_un hfr ho (by decide)).trans hf_1) rfl 0 (by decide) (hta _ wk_149) (fun _ h9 => h9) rfl dX12_slip_122 ?_
              refine lv_iconst (v := 2) hx hb dX12_slip_125 (by decide) ?_
              obtain ⟨g_123, hf_122, hg_124⟩ := (show tp_gi cy (7666) (Γ_119 (40, 7666, 0)) (f_120 x_2) from hI.at hx_2)
              have hn_125 : vp_in 2 (7666) := tl_in (by decide) (by decide)
              refine tp_iald (cy := cy) hx hb hK hP hx_2.1 hf_122 hn_125 dX12_slip_126 ?_
              refine lv_topi (fun z_126 ez_126 => ?_)
              have iz_126 : z_126.toInt = Γ_119 (40, 7666, 0) 2 := by rw [ez_126]; exact hg_124 _ (tp_pin hn_125)
              refine lv_iconst (v := 1) hx hb dX12_slip_127 (by decide) ?_
              refine lv_isub hx hb dX12_slip_128 ?_
              refine lv_topi (fun z_127 ez_127 => ?_)
              try have iz_127 : z_127.toInt = z_126.toInt - (1 : Int) := by rw [ez_127]; exact tl_subN z_126 1 rfl rfl (by omega) (by omega)
              exact W.iret (v := z_127) hx hb hr (fun t ht hW => ⟨⟨_, (f_120, Γ_119), rfl, ⟨(by rw [if_pos (by omega)]; omega), (by rw [if_pos (by omega), eΓ_119, tg_f, eΓ_107, tg_f, eΓ_97, tg_f, eΓ_87, tg_f, eΓ_77, tg_f])⟩, by rw [ht]; exact hP, hI, hfr, hgr⟩, hS.F ht⟩) hS.2.2 dX12_slip_129
            · have c_69 := hw_67.f c_69
              refine lv_iconst (v := (-1)) hx hb dX12_slip_57 (by decide) ?_
              exact W.iret (v := (-1)) hx hb hr (fun t ht hW => ⟨⟨_, (f, Γ), rfl, ⟨(by rw [if_neg (by omega)]; rfl), (by rw [if_neg (by omega)])⟩, by rw [ht]; exact hP, hI, hfr, hgr⟩, hS.F ht⟩) hS.2.2 dX12_slip_58
set_option maxHeartbeats 4000000 in
set_option maxRecDepth 100000 in
theorem r_X12_candidate (l : Launch) (D : va_G) (cy : Nat → ClassId) (sz : Nat) (L : List Nat) (K : Nat → tk_K) (Γ : tk_G) (f : Nat → va_E) (o : Nat) (p0 : Int32) (p1 : Int32) (ho : tp_r L K 39 (0) 0 o) (hs : (0 ≤ Γ (40, 7666, 0) 1 ∧ Γ (40, 7666, 0) 1 ≤ 24) ∧ (0 ≤ Γ (40, 7666, 0) 2 ∧ Γ (40, 7666, 0) 2 ≤ 40) ∧ (0 ≤ Γ (40, 7666, 0) 3 ∧ Γ (40, 7666, 0) 3 ≤ 60) ∧ (0 ≤ Γ (40, 7666, 0) 4 ∧ Γ (40, 7666, 0) 4 ≤ 10) ∧ (0 ≤ Γ (40, 7666, 0) 7665 ∧ Γ (40, 7666, 0) 7665 ≤ 8)) : Met l yX12_candidate (tl_w yX12_candidate cX12_candidate 4 (some .int)) ({ frames := 1, cells := 0, slots := 0, locals := 25 }) (va_Pc [.ref o, .int p0, .int p1] (tp_P D cy L K Γ f sz)) (va_Qi (fun (r : Int32) (u : (Nat → va_E) × tk_G) => r.toInt = (if ¬ Γ (40, 7666, 0) 4 = 10 ∧ (0 ≤ p0.toInt ∧ p0.toInt ≤ 3) ∧ 1 ≤ p1.toInt ∧ p1.toInt ≤ 99 then Γ (40, 7666, 0) 4 else -1) ∧ u.2 (40, 7666, 0) = if ¬ Γ (40, 7666, 0) 4 = 10 ∧ (0 ≤ p0.toInt ∧ p0.toInt ≤ 3) ∧ 1 ≤ p1.toInt ∧ p1.toInt ≤ 99 then tgu (tgu (tgu (Γ (40, 7666, 0)) (421 + 2 * Γ (40, 7666, 0) 4 + 0).toNat (p0.toInt)) (421 + 2 * Γ (40, 7666, 0) 4 + 1).toNat (p1.toInt)) 4 (Γ (40, 7666, 0) 4 + 1) else Γ (40, 7666, 0)) (tp_BG D cy L K Γ f [40]) (tp_A L sz)) 0 0 (tp_A L sz) := by
  refine Met.ofW (cc := cX12_candidate) (maxL := 4) (ret := (some .int)) (by decide) rfl ?_
  intro p e s m args below meth c s₁ B hml hv
  obtain ⟨rfl, hsz, hP, hK, hL, hI, hN, hU⟩ := hv
  have hx := B.exec
  have hb := B.bytes
  have hr := B.returns
  have hta := tl_hta (atoms_spec (ws := tl_w yX12_candidate cX12_candidate 4 (some .int)) B.pre)
  have hown : s.vm.findClass RX12 = some m.cls := findClass_of_methodNamed B.named
  have hlocks := B.notSynchronized
  subst hsz
  have hI0 := hI
  generalize hAe : tp_A L s.heap.size = A
  have hA : ∀ q : Nat, s.heap.size ≤ q → A q := fun q h => by rw [← hAe]; exact Or.inr h
  have hAL : ∀ q ∈ L, A q := fun q h => by rw [← hAe]; exact Or.inl h
  have hAf : ∀ (H : Heap), s.heap.size ≤ H.size → ∀ q, tp_A L H.size q → A q := fun H h q hq => hq.elim (hAL q) (fun h2 => hA q (Nat.le_trans h h2))
  have hS : va_S A s.heap s.heap [] := va_S.rf
  have hD : va_D A (va_pl L f) := tp_D hL hAL
  have hfr : ∀ b, (K b).1 ∉ ([40] : List Nat) → f b = f b := fun _ _ => rfl
  have hgr : ∀ κ : tk_K, κ.1 ∉ ([40] : List Nat) → Γ κ = Γ κ := fun _ _ => rfl
  have hl := lv_entry ([.ref o, .int p0, .int p1]) (n := 4) (Nat.le_of_ble_eq_true rfl)
  rw [lg_entry_eq]
  generalize (lg_sl ([.ref o, .int p0, .int p1]) ++ List.replicate (4 - (lg_sl ([.ref o, .int p0, .int p1])).length) Slot.unset).toArray = ls at hl ⊢
  have hl : lv_has ls 4 [(0, .ref o), (1, .int p0), (2, .int p1)] := hl
  refine lv_aload_n hx hb dX12_candidate_0 rfl (lv_at hl 0 rfl) ?_
  obtain ⟨x_2, x_3, x_4, x_5, x_6, x_7, x_8, x_9, x_10, x_11, x_12, x_13, x_14, x_15, x_16, x_17, x_18, x_19, x_20, x_21, x_22, x_23, x_24, x_25, x_26, x_27, x_28, x_29, x_30, x_31, x_32, x_33, x_34, x_35, x_36, x_37, x_38, x_39, x_40, x_41, x_42, x_43, x_44, x_45, x_46, x_47, x_48, x_49, x_50, hf_1, hx_2, hx_3, hx_4, hx_5, hx_6, hx_7, hx_8, hx_9, hx_10, hx_11, hx_12, hx_13, hx_14, hx_15, hx_16, hx_17, hx_18, hx_19, hx_20, hx_21, hx_22, hx_23, hx_24, hx_25, hx_26, hx_27, hx_28, hx_29, hx_30, hx_32, hx_33, hx_34, hx_35, hx_36, hx_37, hx_38, hx_39, hx_40, hx_41, hx_42, hx_43, hx_44, hx_45, hx_46, hx_47, hx_48, hx_49, hx_50⟩ := (show tp_o_M L K (0) 0 (Γ (39, 0, 0)) (f o) from hI0.at ho)
  refine tp_get (cy := cy) (ci := 12) (v := .ref x_2) (C := RX12) (T := TX12) (N := 49) hx hb hta inlX12 hown hK hP ho.1 hf_1 rfl 0 (by decide) (hta _ wk_149) (fun _ h9 => h9) rfl dX12_candidate_1 ?_
  refine lv_iconst (v := 4) hx hb dX12_candidate_4 (by decide) ?_
  obtain ⟨g_52, hf_51, hg_53⟩ := (show tp_gi cy (7666) (Γ (40, 7666, 0)) (f x_2) from hI.at hx_2)
  have hn_54 : vp_in 4 (7666) := tl_in (by decide) (by decide)
  refine tp_iald (cy := cy) hx hb hK hP hx_2.1 hf_51 hn_54 dX12_candidate_5 ?_
  refine lv_topi (fun z_55 ez_55 => ?_)
  have iz_55 : z_55.toInt = Γ (40, 7666, 0) 4 := by rw [ez_55]; exact hg_53 _ (tp_pin hn_54)
  refine lv_bipush (v := 10) hx hb dX12_candidate_6 (by decide) ?_
  refine lv_icmp_eq (tgt := 35) hx hb dX12_candidate_8 (by decide) (fun c_56 => ?_) (fun c_56 => ?_)
  · have c_56 : z_55.toInt = (10 : Int) := tl_eq c_56
    refine lv_iconst (v := (-1)) hx hb dX12_candidate_35 (by decide) ?_
    exact W.iret (v := (-1)) hx hb hr (fun t ht hW => ⟨⟨_, (f, Γ), rfl, ⟨(by rw [if_neg (by omega)]; rfl), (by rw [if_neg (by omega)])⟩, by rw [ht]; exact hP, hI, hfr, hgr⟩, hS.F ht⟩) hS.2.2 dX12_candidate_36
  · have c_56 : ¬ z_55.toInt = (10 : Int) := tl_neq c_56
    refine lv_iload_n hx hb dX12_candidate_11 rfl (lv_at hl 1 rfl) ?_
    refine lv_i2l (v := p0.toInt64) hx hb dX12_candidate_12 (by first | rfl | decide) ?_
    refine lv_lconst (v := 0) hx hb dX12_candidate_13 (by decide) ?_
    refine lv_ldc2 (v := 3) hx hb hown (hta _ wk_221) dX12_candidate_14 ?_
    refine tl_si (tq_rS (As := [.long p0.toInt64, .long 0, .long 3]) (rest := []) ⟨hx, hb, hml, hown, hta⟩ (tp_P.pre hK hN hL hU hI hP) lk_X12_112 (r_X12_in l D cy s.heap.size L K Γ f p0.toInt64 0 3 ) rfl rfl ⟨Nat.le_of_ble_eq_true rfl, Nat.le_of_ble_eq_true rfl⟩ rfl hl.1 rfl (Nat.le_of_ble_eq_true rfl) dX12_candidate_17 ⟨Nat.le_of_ble_eq_true rfl, Nat.le_of_ble_eq_true rfl⟩) (fun r_58 hw_57 => ?_)
    simp only [Int32.toInt_toInt64] at hw_57
    have hw_57 : tl_E r_58 ((0 : Int) ≤ p0.toInt ∧ p0.toInt ≤ (3 : Int)) 1 0 := hw_57
    refine lv_if_eq (tgt := 35) hx hb dX12_candidate_20 (by decide) (fun c_59 => ?_) (fun c_59 => ?_)
    · have c_59 := hw_57.f c_59
      refine lv_iconst (v := (-1)) hx hb dX12_candidate_35 (by decide) ?_
      exact W.iret (v := (-1)) hx hb hr (fun t ht hW => ⟨⟨_, (f, Γ), rfl, ⟨(by rw [if_neg (by omega)]; rfl), (by rw [if_neg (by omega)])⟩, by rw [ht]; exact hP, hI, hfr, hgr⟩, hS.F ht⟩) hS.2.2 dX12_candidate_36
    · have c_59 := hw_57.t c_59
      refine lv_iload_n hx hb dX12_candidate_23 rfl (lv_at hl 2 rfl) ?_
      refine lv_i2l (v := p1.toInt64) hx hb dX12_candidate_24 (by first | rfl | decide) ?_
      refine lv_lconst (v := 1) hx hb dX12_candidate_25 (by decide) ?_
      refine lv_ldc2 (v := 99) hx hb hown (hta _ wk_1077) dX12_candidate_26 ?_
      refine tl_si (tq_rS (As := [.long p1.toInt64, .long 1, .long 99]) (rest := []) ⟨hx, hb, hml, hown, hta⟩ (tp_P.pre hK hN hL hU hI hP) lk_X12_112 (r_X12_in l D cy s.heap.size L K Γ f p1.toInt64 1 99 ) rfl rfl ⟨Nat.le_of_ble_eq_true rfl, Nat.le_of_ble_eq_true rfl⟩ rfl hl.1 rfl (Nat.le_of_ble_eq_true rfl) dX12_candidate_29 ⟨Nat.le_of_ble_eq_true rfl, Nat.le_of_ble_eq_true rfl⟩) (fun r_61 hw_60 => ?_)
      simp only [Int32.toInt_toInt64] at hw_60
      have hw_60 : tl_E r_61 ((1 : Int) ≤ p1.toInt ∧ p1.toInt ≤ (99 : Int)) 1 0 := hw_60
      refine lv_if_ne (tgt := 37) hx hb dX12_candidate_32 (by decide) (fun c_62 => ?_) (fun c_62 => ?_)
      · have c_62 := hw_60.t c_62
        refine lv_sipush (v := 421) hx hb dX12_candidate_37 (by decide) ?_
        refine lv_iconst (v := 2) hx hb dX12_candidate_40 (by decide) ?_
        refine lv_aload_n hx hb dX12_candidate_41 rfl (lv_at hl 0 rfl) ?_
        refine tp_get (cy := cy) (ci := 12) (v := .ref x_2) (C := RX12) (T := TX12) (N := 49) hx hb hta inlX12 hown hK hP ho.1 hf_1 rfl 0 (by decide) (hta _ wk_149) (fun _ h9 => h9) rfl dX12_candidate_42 ?_
        refine lv_iconst (v := 4) hx hb dX12_candidate_45 (by decide) ?_
        have hn_63 : vp_in 4 (7666) := tl_in (by decide) (by decide)
        refine tp_iald (cy := cy) hx hb hK hP hx_2.1 hf_51 hn_63 dX12_candidate_46 ?_
        refine lv_topi (fun z_64 ez_64 => ?_)
        obtain rfl : z_55 = z_64 := ez_55.trans ez_64.symm
        refine lv_imul hx hb dX12_candidate_47 ?_
        refine lv_topi (fun z_65 ez_65 => ?_)
        try have iz_65 : z_65.toInt = (2 : Int) * z_55.toInt := by rw [ez_65]; exact tl_mulN 2 z_55 rfl rfl (by omega) (by omega)
        refine lv_iadd hx hb dX12_candidate_48 ?_
        refine lv_topi (fun z_66 ez_66 => ?_)
        try have iz_66 : z_66.toInt = (421 : Int) + z_65.toInt := by rw [ez_66]; exact tl_addN 421 z_65 rfl rfl (by omega) (by omega)
        refine lv_istore_n (lv' := [(3, .int z_66), (0, .ref o), (1, .int p0), (2, .int p1)]) hx hb dX12_candidate_49 rfl hl (by decide) rfl (fun ls hl => ?_)
        refine lv_aload_n hx hb dX12_candidate_50 rfl (lv_at hl 1 rfl) ?_
        refine tp_get (cy := cy) (ci := 12) (v := .ref x_2) (C := RX12) (T := TX12) (N := 49) hx hb hta inlX12 hown hK hP ho.1 hf_1 rfl 0 (by decide) (hta _ wk_149) (fun _ h9 => h9) rfl dX12_candidate_51 ?_
        refine lv_iload_n hx hb dX12_candidate_54 rfl (lv_at hl 0 rfl) ?_
        refine lv_iload_n hx hb dX12_candidate_55 rfl (lv_at hl 2 rfl) ?_
        have hn_67 : vp_in z_66 (7666) := tl_in (by omega) (by omega)
        have hj_68 : z_66.toNatClampNeg = (421 + 2 * Γ (40, 7666, 0) 4 + 0).toNat := by show z_66.toInt.toNat = _; omega
        have hv_69 : p0.toInt = p0.toInt := by omega
        obtain ⟨Γ_70, eΓ_70⟩ : ∃ y : tk_G, y = tg Γ (40, 7666, 0) ((421 + 2 * Γ (40, 7666, 0) 4 + 0).toNat) p0.toInt := ⟨_, rfl⟩
        have hI9 : tp_I cy L K Γ_70 (va_up f x_2 (.inl (cy 0, 7666, .inl (upd g_52 z_66.toNatClampNeg p0)))) := by rw [eΓ_70, ← hj_68, ← hv_69]; exact hI.setg hU rfl hx_2 (show tp_gi cy (7666) (tgu (Γ (40, 7666, 0)) _ _) _ from ⟨_, rfl, tp_gi_upd hg_53⟩)
        have hfr9 : ∀ b, (K b).1 ∉ ([40] : List Nat) → va_up f x_2 (.inl (cy 0, 7666, .inl (upd g_52 z_66.toNatClampNeg p0))) b = f b := tp_fr hfr hx_2 (by decide)
        refine tp_iast (cy := cy) hx hb hK hP hD hS hx_2.1 hf_51 hn_67 dX12_candidate_56 (fun H locs hP hD hS => ?_)
        have hP : va_P D vwCl (va_pl L (va_up f x_2 (.inl (cy 0, 7666, .inl (upd g_52 z_66.toNatClampNeg p0))))) H := hP
        generalize hfe : va_up f x_2 (.inl (cy 0, 7666, .inl (upd g_52 z_66.toNatClampNeg p0))) = f_71 at hP hI9 hfr9
        have hD : va_D A (va_pl L f_71) := tp_D hL hAL
        have hf_72 : f_71 x_2 = .inl (cy 0, 7666, .inl (upd g_52 z_66.toNatClampNeg p0)) := by rw [← hfe]; exact va_up_self _ _ _
        clear hfe
        have hI := hI9
        have hfr := hfr9
        clear hI9 hfr9
        have wtΓ_70_4 : Γ_70 (40, 7666, 0) 4 = Γ (40, 7666, 0) 4 := by rw [eΓ_70]; exact tg_i (by omega)
        have wsΓ_70 : Γ_70 (40, 7666, 0) ((421 + 2 * Γ (40, 7666, 0) 4 + 0).toNat) = p0.toInt := by rw [eΓ_70]; exact tg_s
        have hgr : ∀ κ : tk_K, κ.1 ∉ ([40] : List Nat) → Γ_70 κ = Γ κ := tg_fr hgr eΓ_70 (by decide)
        refine lv_aload_n hx hb dX12_candidate_57 rfl (lv_at hl 1 rfl) ?_
        refine tp_get (cy := cy) (ci := 12) (v := .ref x_2) (C := RX12) (T := TX12) (N := 49) hx hb hta inlX12 hown hK hP ho.1 ((tp_un hfr ho (by decide)).trans hf_1) rfl 0 (by decide) (hta _ wk_149) (fun _ h9 => h9) rfl dX12_candidate_58 ?_
        refine lv_iload_n hx hb dX12_candidate_61 rfl (lv_at hl 0 rfl) ?_
        refine lv_iconst (v := 1) hx hb dX12_candidate_62 (by decide) ?_
        refine lv_iadd hx hb dX12_candidate_63 ?_
        refine lv_topi (fun z_73 ez_73 => ?_)
        try have iz_73 : z_73.toInt = z_66.toInt + (1 : Int) := by rw [ez_73]; exact tl_addN z_66 1 rfl rfl (by omega) (by omega)
        refine lv_iload_n hx hb dX12_candidate_64 rfl (lv_at hl 3 rfl) ?_
        obtain ⟨g_75, hf_74, hg_76⟩ := (show tp_gi cy (7666) (Γ_70 (40, 7666, 0)) (f_71 x_2) from hI.at hx_2)
        have hn_77 : vp_in z_73 (7666) := tl_in (by omega) (by omega)
        have hj_78 : z_73.toNatClampNeg = (421 + 2 * Γ (40, 7666, 0) 4 + 1).toNat := by show z_73.toInt.toNat = _; omega
        have hv_79 : p1.toInt = p1.toInt := by omega
        obtain ⟨Γ_80, eΓ_80⟩ : ∃ y : tk_G, y = tg Γ_70 (40, 7666, 0) ((421 + 2 * Γ (40, 7666, 0) 4 + 1).toNat) p1.toInt := ⟨_, rfl⟩
        have hI9 : tp_I cy L K Γ_80 (va_up f_71 x_2 (.inl (cy 0, 7666, .inl (upd g_75 z_73.toNatClampNeg p1)))) := by rw [eΓ_80, ← hj_78, ← hv_79]; exact hI.setg hU rfl hx_2 (show tp_gi cy (7666) (tgu (Γ_70 (40, 7666, 0)) _ _) _ from ⟨_, rfl, tp_gi_upd hg_76⟩)
        have hfr9 : ∀ b, (K b).1 ∉ ([40] : List Nat) → va_up f_71 x_2 (.inl (cy 0, 7666, .inl (upd g_75 z_73.toNatClampNeg p1))) b = f b := tp_fr hfr hx_2 (by decide)
        refine tp_iast (cy := cy) hx hb hK hP hD hS hx_2.1 hf_74 hn_77 dX12_candidate_65 (fun H locs hP hD hS => ?_)
        have hP : va_P D vwCl (va_pl L (va_up f_71 x_2 (.inl (cy 0, 7666, .inl (upd g_75 z_73.toNatClampNeg p1))))) H := hP
        generalize hfe : va_up f_71 x_2 (.inl (cy 0, 7666, .inl (upd g_75 z_73.toNatClampNeg p1))) = f_81 at hP hI9 hfr9
        have hD : va_D A (va_pl L f_81) := tp_D hL hAL
        have hf_82 : f_81 x_2 = .inl (cy 0, 7666, .inl (upd g_75 z_73.toNatClampNeg p1)) := by rw [← hfe]; exact va_up_self _ _ _
        clear hfe
        have hI := hI9
        have hfr := hfr9
        clear hI9 hfr9
        have wtΓ_80_4 : Γ_80 (40, 7666, 0) 4 = Γ_70 (40, 7666, 0) 4 := by rw [eΓ_80]; exact tg_i (by omega)
        have wsΓ_80 : Γ_80 (40, 7666, 0) ((421 + 2 * Γ (40, 7666, 0) 4 + 1).toNat) = p1.toInt := by rw [eΓ_80]; exact tg_s
        have hgr : ∀ κ : tk_K, κ.1 ∉ ([40] : List Nat) → Γ_80 κ = Γ κ := tg_fr hgr eΓ_80 (by decide)
        refine lv_aload_n hx hb dX12_candidate_66 rfl (lv_at hl 1 rfl) ?_
        refine tp_get (cy := cy) (ci := 12) (v := .ref x_2) (C := RX12) (T := TX12) (N := 49) hx hb hta inlX12 hown hK hP ho.1 ((tp_un hfr ho (by decide)).trans hf_1) rfl 0 (by decide) (hta _ wk_149) (fun _ h9 => h9) rfl dX12_candidate_67 ?_
        refine lv_iconst (v := 4) hx hb dX12_candidate_70 (by decide) ?_
        refine lv_dup2_11 hx hb dX12_candidate_71 rfl rfl ?_
        obtain ⟨g_84, hf_83, hg_85⟩ := (show tp_gi cy (7666) (Γ_80 (40, 7666, 0)) (f_81 x_2) from hI.at hx_2)
        have hn_86 : vp_in 4 (7666) := tl_in (by decide) (by decide)
        refine tp_iald (cy := cy) hx hb hK hP hx_2.1 hf_83 hn_86 dX12_candidate_72 ?_
        refine lv_topi (fun z_87 ez_87 => ?_)
        have iz_87 : z_87.toInt = Γ_80 (40, 7666, 0) 4 := by rw [ez_87]; exact hg_85 _ (tp_pin hn_86)
        refine lv_iconst (v := 1) hx hb dX12_candidate_73 (by decide) ?_
        refine lv_iadd hx hb dX12_candidate_74 ?_
        refine lv_topi (fun z_88 ez_88 => ?_)
        try have iz_88 : z_88.toInt = z_87.toInt + (1 : Int) := by rw [ez_88]; exact tl_addN z_87 1 rfl rfl (by omega) (by omega)
        have hn_89 : vp_in 4 (7666) := tl_in (by decide) (by decide)
        have hj_90 : (4 : Int32).toNatClampNeg = 4 := by decide
        have hv_91 : z_88.toInt = Γ (40, 7666, 0) 4 + 1 := by omega
        obtain ⟨Γ_92, eΓ_92⟩ : ∃ y : tk_G, y = tg Γ_80 (40, 7666, 0) 4 (Γ (40, 7666, 0) 4 + 1) := ⟨_, rfl⟩
        have hI9 : tp_I cy L K Γ_92 (va_up f_81 x_2 (.inl (cy 0, 7666, .inl (upd g_84 (4 : Int32).toNatClampNeg z_88)))) := by rw [eΓ_92, ← hj_90, ← hv_91]; exact hI.setg hU rfl hx_2 (show tp_gi cy (7666) (tgu (Γ_80 (40, 7666, 0)) _ _) _ from ⟨_, rfl, tp_gi_upd hg_85⟩)
        have hfr9 : ∀ b, (K b).1 ∉ ([40] : List Nat) → va_up f_81 x_2 (.inl (cy 0, 7666, .inl (upd g_84 (4 : Int32).toNatClampNeg z_88))) b = f b := tp_fr hfr hx_2 (by decide)
        refine tp_iast (cy := cy) hx hb hK hP hD hS hx_2.1 hf_83 hn_89 dX12_candidate_75 (fun H locs hP hD hS => ?_)
        have hP : va_P D vwCl (va_pl L (va_up f_81 x_2 (.inl (cy 0, 7666, .inl (upd g_84 (4 : Int32).toNatClampNeg z_88))))) H := hP
        generalize hfe : va_up f_81 x_2 (.inl (cy 0, 7666, .inl (upd g_84 (4 : Int32).toNatClampNeg z_88))) = f_93 at hP hI9 hfr9
        have hD : va_D A (va_pl L f_93) := tp_D hL hAL
        have hf_94 : f_93 x_2 = .inl (cy 0, 7666, .inl (upd g_84 (4 : Int32).toNatClampNeg z_88)) := by rw [← hfe]; exact va_up_self _ _ _
        clear hfe
        have hI := hI9
        have hfr := hfr9
        clear hI9 hfr9
        have wsΓ_92 : Γ_92 (40, 7666, 0) 4 = Γ (40, 7666, 0) 4 + 1 := by rw [eΓ_92]; exact tg_s
        have hgr : ∀ κ : tk_K, κ.1 ∉ ([40] : List Nat) → Γ_92 κ = Γ κ := tg_fr hgr eΓ_92 (by decide)
        refine lv_aload_n hx hb dX12_candidate_76 rfl (lv_at hl 1 rfl) ?_
        refine tp_get (cy := cy) (ci := 12) (v := .ref x_2) (C := RX12) (T := TX12) (N := 49) hx hb hta inlX12 hown hK hP ho.1 ((tp_un hfr ho (by decide)).trans hf_1) rfl 0 (by decide) (hta _ wk_149) (fun _ h9 => h9) rfl dX12_candidate_77 ?_
        refine lv_iconst (v := 4) hx hb dX12_candidate_80 (by decide) ?_
        obtain ⟨g_96, hf_95, hg_97⟩ := (show tp_gi cy (7666) (Γ_92 (40, 7666, 0)) (f_93 x_2) from hI.at hx_2)
        have hn_98 : vp_in 4 (7666) := tl_in (by decide) (by decide)
        refine tp_iald (cy := cy) hx hb hK hP hx_2.1 hf_95 hn_98 dX12_candidate_81 ?_
        refine lv_topi (fun z_99 ez_99 => ?_)
        have iz_99 : z_99.toInt = Γ_92 (40, 7666, 0) 4 := by rw [ez_99]; exact hg_97 _ (tp_pin hn_98)
        refine lv_iconst (v := 1) hx hb dX12_candidate_82 (by decide) ?_
        refine lv_isub hx hb dX12_candidate_83 ?_
        refine lv_topi (fun z_100 ez_100 => ?_)
        try have iz_100 : z_100.toInt = z_99.toInt - (1 : Int) := by rw [ez_100]; exact tl_subN z_99 1 rfl rfl (by omega) (by omega)
        exact W.iret (v := z_100) hx hb hr (fun t ht hW => ⟨⟨_, (f_93, Γ_92), rfl, ⟨(by rw [if_pos (by omega)]; omega), (by rw [if_pos (by omega), eΓ_92, tg_f, eΓ_80, tg_f, eΓ_70, tg_f])⟩, by rw [ht]; exact hP, hI, hfr, hgr⟩, hS.F ht⟩) hS.2.2 dX12_candidate_84
      · have c_62 := hw_60.f c_62
        refine lv_iconst (v := (-1)) hx hb dX12_candidate_35 (by decide) ?_
        exact W.iret (v := (-1)) hx hb hr (fun t ht hW => ⟨⟨_, (f, Γ), rfl, ⟨(by rw [if_neg (by omega)]; rfl), (by rw [if_neg (by omega)])⟩, by rw [ht]; exact hP, hI, hfr, hgr⟩, hS.F ht⟩) hS.2.2 dX12_candidate_36
set_option maxHeartbeats 4000000 in
set_option maxRecDepth 100000 in
theorem r_X12_house (l : Launch) (D : va_G) (cy : Nat → ClassId) (sz : Nat) (L : List Nat) (K : Nat → tk_K) (Γ : tk_G) (f : Nat → va_E) (o : Nat) (p0 : Int32) (p1 : Int32) (p2 : Int32) (ho : tp_r L K 39 (0) 0 o) (hs : (0 ≤ Γ (40, 7666, 0) 1 ∧ Γ (40, 7666, 0) 1 ≤ 24) ∧ (0 ≤ Γ (40, 7666, 0) 2 ∧ Γ (40, 7666, 0) 2 ≤ 40) ∧ (0 ≤ Γ (40, 7666, 0) 3 ∧ Γ (40, 7666, 0) 3 ≤ 60) ∧ (0 ≤ Γ (40, 7666, 0) 4 ∧ Γ (40, 7666, 0) 4 ≤ 10) ∧ (0 ≤ Γ (40, 7666, 0) 7665 ∧ Γ (40, 7666, 0) 7665 ≤ 8)) : Met l yX12_house (tl_w yX12_house cX12_house 5 (some .int)) ({ frames := 1, cells := 0, slots := 0, locals := 25 }) (va_Pc [.ref o, .int p0, .int p1, .int p2] (tp_P D cy L K Γ f sz)) (va_Qi (fun (r : Int32) (u : (Nat → va_E) × tk_G) => r.toInt = (if ¬ Γ (40, 7666, 0) 7665 = 8 ∧ (0 ≤ p0.toInt ∧ p0.toInt < Γ (42, 3, 0) 1) ∧ (-999999 ≤ p1.toInt ∧ p1.toInt ≤ 999999) ∧ 1 ≤ p2.toInt ∧ p2.toInt ≤ 15 then Γ (40, 7666, 0) 7665 else -1) ∧ u.2 (40, 7666, 0) = if ¬ Γ (40, 7666, 0) 7665 = 8 ∧ (0 ≤ p0.toInt ∧ p0.toInt < Γ (42, 3, 0) 1) ∧ (-999999 ≤ p1.toInt ∧ p1.toInt ≤ 999999) ∧ 1 ≤ p2.toInt ∧ p2.toInt ≤ 15 then tgu (tgu (tgu (tgu (Γ (40, 7666, 0)) (7641 + 3 * Γ (40, 7666, 0) 7665 + 0).toNat (p0.toInt)) (7641 + 3 * Γ (40, 7666, 0) 7665 + 1).toNat (p1.toInt)) (7641 + 3 * Γ (40, 7666, 0) 7665 + 2).toNat (p2.toInt)) 7665 (Γ (40, 7666, 0) 7665 + 1) else Γ (40, 7666, 0)) (tp_BG D cy L K Γ f [40]) (tp_A L sz)) 0 0 (tp_A L sz) := by
  refine Met.ofW (cc := cX12_house) (maxL := 5) (ret := (some .int)) (by decide) rfl ?_
  intro p e s m args below meth c s₁ B hml hv
  obtain ⟨rfl, hsz, hP, hK, hL, hI, hN, hU⟩ := hv
  have hx := B.exec
  have hb := B.bytes
  have hr := B.returns
  have hta := tl_hta (atoms_spec (ws := tl_w yX12_house cX12_house 5 (some .int)) B.pre)
  have hown : s.vm.findClass RX12 = some m.cls := findClass_of_methodNamed B.named
  have hlocks := B.notSynchronized
  subst hsz
  have hI0 := hI
  generalize hAe : tp_A L s.heap.size = A
  have hA : ∀ q : Nat, s.heap.size ≤ q → A q := fun q h => by rw [← hAe]; exact Or.inr h
  have hAL : ∀ q ∈ L, A q := fun q h => by rw [← hAe]; exact Or.inl h
  have hAf : ∀ (H : Heap), s.heap.size ≤ H.size → ∀ q, tp_A L H.size q → A q := fun H h q hq => hq.elim (hAL q) (fun h2 => hA q (Nat.le_trans h h2))
  have hS : va_S A s.heap s.heap [] := va_S.rf
  have hD : va_D A (va_pl L f) := tp_D hL hAL
  have hfr : ∀ b, (K b).1 ∉ ([40] : List Nat) → f b = f b := fun _ _ => rfl
  have hgr : ∀ κ : tk_K, κ.1 ∉ ([40] : List Nat) → Γ κ = Γ κ := fun _ _ => rfl
  have hl := lv_entry ([.ref o, .int p0, .int p1, .int p2]) (n := 5) (Nat.le_of_ble_eq_true rfl)
  rw [lg_entry_eq]
  generalize (lg_sl ([.ref o, .int p0, .int p1, .int p2]) ++ List.replicate (5 - (lg_sl ([.ref o, .int p0, .int p1, .int p2])).length) Slot.unset).toArray = ls at hl ⊢
  have hl : lv_has ls 5 [(0, .ref o), (1, .int p0), (2, .int p1), (3, .int p2)] := hl
  refine lv_aload_n hx hb dX12_house_0 rfl (lv_at hl 0 rfl) ?_
  obtain ⟨x_2, x_3, x_4, x_5, x_6, x_7, x_8, x_9, x_10, x_11, x_12, x_13, x_14, x_15, x_16, x_17, x_18, x_19, x_20, x_21, x_22, x_23, x_24, x_25, x_26, x_27, x_28, x_29, x_30, x_31, x_32, x_33, x_34, x_35, x_36, x_37, x_38, x_39, x_40, x_41, x_42, x_43, x_44, x_45, x_46, x_47, x_48, x_49, x_50, hf_1, hx_2, hx_3, hx_4, hx_5, hx_6, hx_7, hx_8, hx_9, hx_10, hx_11, hx_12, hx_13, hx_14, hx_15, hx_16, hx_17, hx_18, hx_19, hx_20, hx_21, hx_22, hx_23, hx_24, hx_25, hx_26, hx_27, hx_28, hx_29, hx_30, hx_32, hx_33, hx_34, hx_35, hx_36, hx_37, hx_38, hx_39, hx_40, hx_41, hx_42, hx_43, hx_44, hx_45, hx_46, hx_47, hx_48, hx_49, hx_50⟩ := (show tp_o_M L K (0) 0 (Γ (39, 0, 0)) (f o) from hI0.at ho)
  refine tp_get (cy := cy) (ci := 12) (v := .ref x_2) (C := RX12) (T := TX12) (N := 49) hx hb hta inlX12 hown hK hP ho.1 hf_1 rfl 0 (by decide) (hta _ wk_149) (fun _ h9 => h9) rfl dX12_house_1 ?_
  refine lv_sipush (v := 7665) hx hb dX12_house_4 (by decide) ?_
  obtain ⟨g_52, hf_51, hg_53⟩ := (show tp_gi cy (7666) (Γ (40, 7666, 0)) (f x_2) from hI.at hx_2)
  have hn_54 : vp_in 7665 (7666) := tl_in (by decide) (by decide)
  refine tp_iald (cy := cy) hx hb hK hP hx_2.1 hf_51 hn_54 dX12_house_7 ?_
  refine lv_topi (fun z_55 ez_55 => ?_)
  have iz_55 : z_55.toInt = Γ (40, 7666, 0) 7665 := by rw [ez_55]; exact hg_53 _ (tp_pin hn_54)
  refine lv_bipush (v := 8) hx hb dX12_house_8 (by decide) ?_
  refine lv_icmp_eq (tgt := 48) hx hb dX12_house_10 (by decide) (fun c_56 => ?_) (fun c_56 => ?_)
  · have c_56 : z_55.toInt = (8 : Int) := tl_eq c_56
    refine lv_iconst (v := (-1)) hx hb dX12_house_48 (by decide) ?_
    exact W.iret (v := (-1)) hx hb hr (fun t ht hW => ⟨⟨_, (f, Γ), rfl, ⟨(by rw [if_neg (by omega)]; rfl), (by rw [if_neg (by omega)])⟩, by rw [ht]; exact hP, hI, hfr, hgr⟩, hS.F ht⟩) hS.2.2 dX12_house_49
  · have c_56 : ¬ z_55.toInt = (8 : Int) := tl_neq c_56
    refine lv_aload_n hx hb dX12_house_13 rfl (lv_at hl 0 rfl) ?_
    refine lv_iconst (v := 1) hx hb dX12_house_14 (by decide) ?_
    refine lv_iload_n hx hb dX12_house_15 rfl (lv_at hl 1 rfl) ?_
    refine tl_si (tq_rV (As := [.int 1, .int p0]) (rest := []) ⟨hx, hb, hml, hown, hta⟩ (tp_P.pre hK hN hL hU hI hP) (tp_recv hK hP ho.1 hf_1 rfl) lk_X12_382 (r_isText_1 l D cy s.heap.size L K Γ f o p0 ho) rfl rfl ⟨Nat.le_of_ble_eq_true rfl, Nat.le_of_ble_eq_true rfl⟩ rfl hl.1 rfl (Nat.le_of_ble_eq_true rfl) dX12_house_16 ⟨Nat.le_of_ble_eq_true rfl, Nat.le_of_ble_eq_true rfl⟩) (fun r_58 hw_57 => ?_)
    have hw_57 : tl_E r_58 (0 ≤ p0.toInt ∧ p0.toInt < Γ (42, 3, 0) 1) 1 0 := hw_57
    refine lv_if_eq (tgt := 48) hx hb dX12_house_19 (by decide) (fun c_59 => ?_) (fun c_59 => ?_)
    · have c_59 := hw_57.f c_59
      refine lv_iconst (v := (-1)) hx hb dX12_house_48 (by decide) ?_
      exact W.iret (v := (-1)) hx hb hr (fun t ht hW => ⟨⟨_, (f, Γ), rfl, ⟨(by rw [if_neg (by omega)]; rfl), (by rw [if_neg (by omega)])⟩, by rw [ht]; exact hP, hI, hfr, hgr⟩, hS.F ht⟩) hS.2.2 dX12_house_49
    · have c_59 := hw_57.t c_59
      refine lv_iload_n hx hb dX12_house_22 rfl (lv_at hl 2 rfl) ?_
      refine lv_i2l (v := p1.toInt64) hx hb dX12_house_23 (by first | rfl | decide) ?_
      refine lv_ldc2 (v := (-999999)) hx hb hown (hta _ wk_1091) dX12_house_24 ?_
      refine lv_ldc2 (v := 999999) hx hb hown (hta _ wk_1092) dX12_house_27 ?_
      refine tl_si (tq_rS (As := [.long p1.toInt64, .long (-999999), .long 999999]) (rest := []) ⟨hx, hb, hml, hown, hta⟩ (tp_P.pre hK hN hL hU hI hP) lk_X12_112 (r_X12_in l D cy s.heap.size L K Γ f p1.toInt64 (-999999) 999999 ) rfl rfl ⟨Nat.le_of_ble_eq_true rfl, Nat.le_of_ble_eq_true rfl⟩ rfl hl.1 rfl (Nat.le_of_ble_eq_true rfl) dX12_house_30 ⟨Nat.le_of_ble_eq_true rfl, Nat.le_of_ble_eq_true rfl⟩) (fun r_61 hw_60 => ?_)
      simp only [Int32.toInt_toInt64] at hw_60
      have hw_60 : tl_E r_61 ((-999999 : Int) ≤ p1.toInt ∧ p1.toInt ≤ (999999 : Int)) 1 0 := hw_60
      refine lv_if_eq (tgt := 48) hx hb dX12_house_33 (by decide) (fun c_62 => ?_) (fun c_62 => ?_)
      · have c_62 := hw_60.f c_62
        refine lv_iconst (v := (-1)) hx hb dX12_house_48 (by decide) ?_
        exact W.iret (v := (-1)) hx hb hr (fun t ht hW => ⟨⟨_, (f, Γ), rfl, ⟨(by rw [if_neg (by omega)]; rfl), (by rw [if_neg (by omega)])⟩, by rw [ht]; exact hP, hI, hfr, hgr⟩, hS.F ht⟩) hS.2.2 dX12_house_49
      · have c_62 := hw_60.t c_62
        refine lv_iload_n hx hb dX12_house_36 rfl (lv_at hl 3 rfl) ?_
        refine lv_i2l (v := p2.toInt64) hx hb dX12_house_37 (by first | rfl | decide) ?_
        refine lv_lconst (v := 1) hx hb dX12_house_38 (by decide) ?_
        refine lv_ldc2 (v := 15) hx hb hown (hta _ wk_1173) dX12_house_39 ?_
        refine tl_si (tq_rS (As := [.long p2.toInt64, .long 1, .long 15]) (rest := []) ⟨hx, hb, hml, hown, hta⟩ (tp_P.pre hK hN hL hU hI hP) lk_X12_112 (r_X12_in l D cy s.heap.size L K Γ f p2.toInt64 1 15 ) rfl rfl ⟨Nat.le_of_ble_eq_true rfl, Nat.le_of_ble_eq_true rfl⟩ rfl hl.1 rfl (Nat.le_of_ble_eq_true rfl) dX12_house_42 ⟨Nat.le_of_ble_eq_true rfl, Nat.le_of_ble_eq_true rfl⟩) (fun r_64 hw_63 => ?_)
        simp only [Int32.toInt_toInt64] at hw_63
        have hw_63 : tl_E r_64 ((1 : Int) ≤ p2.toInt ∧ p2.toInt ≤ (15 : Int)) 1 0 := hw_63
        refine lv_if_ne (tgt := 50) hx hb dX12_house_45 (by decide) (fun c_65 => ?_) (fun c_65 => ?_)
        · have c_65 := hw_63.t c_65
          refine lv_sipush (v := 7641) hx hb dX12_house_50 (by decide) ?_
          refine lv_iconst (v := 3) hx hb dX12_house_53 (by decide) ?_
          refine lv_aload_n hx hb dX12_house_54 rfl (lv_at hl 0 rfl) ?_
          refine tp_get (cy := cy) (ci := 12) (v := .ref x_2) (C := RX12) (T := TX12) (N := 49) hx hb hta inlX12 hown hK hP ho.1 hf_1 rfl 0 (by decide) (hta _ wk_149) (fun _ h9 => h9) rfl dX12_house_55 ?_
          refine lv_sipush (v := 7665) hx hb dX12_house_58 (by decide) ?_
          have hn_66 : vp_in 7665 (7666) := tl_in (by decide) (by decide)
          refine tp_iald (cy := cy) hx hb hK hP hx_2.1 hf_51 hn_66 dX12_house_61 ?_
          refine lv_topi (fun z_67 ez_67 => ?_)
          obtain rfl : z_55 = z_67 := ez_55.trans ez_67.symm
          refine lv_imul hx hb dX12_house_62 ?_
          refine lv_topi (fun z_68 ez_68 => ?_)
          try have iz_68 : z_68.toInt = (3 : Int) * z_55.toInt := by rw [ez_68]; exact tl_mulN 3 z_55 rfl rfl (by omega) (by omega)
          refine lv_iadd hx hb dX12_house_63 ?_
          refine lv_topi (fun z_69 ez_69 => ?_)
          try have iz_69 : z_69.toInt = (7641 : Int) + z_68.toInt := by rw [ez_69]; exact tl_addN 7641 z_68 rfl rfl (by omega) (by omega)
          refine lv_istore (lv' := [(4, .int z_69), (0, .ref o), (1, .int p0), (2, .int p1), (3, .int p2)]) hx hb dX12_house_64 hl (by decide) rfl (fun ls hl => ?_)
          refine lv_aload_n hx hb dX12_house_66 rfl (lv_at hl 1 rfl) ?_
          refine tp_get (cy := cy) (ci := 12) (v := .ref x_2) (C := RX12) (T := TX12) (N := 49) hx hb hta inlX12 hown hK hP ho.1 hf_1 rfl 0 (by decide) (hta _ wk_149) (fun _ h9 => h9) rfl dX12_house_67 ?_
          refine lv_iload hx hb dX12_house_70 (lv_at hl 0 rfl) ?_
          refine lv_iload_n hx hb dX12_house_72 rfl (lv_at hl 2 rfl) ?_
          have hn_70 : vp_in z_69 (7666) := tl_in (by omega) (by omega)
          have hj_71 : z_69.toNatClampNeg = (7641 + 3 * Γ (40, 7666, 0) 7665 + 0).toNat := by show z_69.toInt.toNat = _; omega
          have hv_72 : p0.toInt = p0.toInt := by omega
          obtain ⟨Γ_73, eΓ_73⟩ : ∃ y : tk_G, y = tg Γ (40, 7666, 0) ((7641 + 3 * Γ (40, 7666, 0) 7665 + 0).toNat) p0.toInt := ⟨_, rfl⟩
          have hI9 : tp_I cy L K Γ_73 (va_up f x_2 (.inl (cy 0, 7666, .inl (upd g_52 z_69.toNatClampNeg p0)))) := by rw [eΓ_73, ← hj_71, ← hv_72]; exact hI.setg hU rfl hx_2 (show tp_gi cy (7666) (tgu (Γ (40, 7666, 0)) _ _) _ from ⟨_, rfl, tp_gi_upd hg_53⟩)
          have hfr9 : ∀ b, (K b).1 ∉ ([40] : List Nat) → va_up f x_2 (.inl (cy 0, 7666, .inl (upd g_52 z_69.toNatClampNeg p0))) b = f b := tp_fr hfr hx_2 (by decide)
          refine tp_iast (cy := cy) hx hb hK hP hD hS hx_2.1 hf_51 hn_70 dX12_house_73 (fun H locs hP hD hS => ?_)
          have hP : va_P D vwCl (va_pl L (va_up f x_2 (.inl (cy 0, 7666, .inl (upd g_52 z_69.toNatClampNeg p0))))) H := hP
          generalize hfe : va_up f x_2 (.inl (cy 0, 7666, .inl (upd g_52 z_69.toNatClampNeg p0))) = f_74 at hP hI9 hfr9
          have hD : va_D A (va_pl L f_74) := tp_D hL hAL
          have hf_75 : f_74 x_2 = .inl (cy 0, 7666, .inl (upd g_52 z_69.toNatClampNeg p0)) := by rw [← hfe]; exact va_up_self _ _ _
          clear hfe
          have hI := hI9
          have hfr := hfr9
          clear hI9 hfr9
          have wtΓ_73_7665 : Γ_73 (40, 7666, 0) 7665 = Γ (40, 7666, 0) 7665 := by rw [eΓ_73]; exact tg_i (by omega)
          have wsΓ_73 : Γ_73 (40, 7666, 0) ((7641 + 3 * Γ (40, 7666, 0) 7665 + 0).toNat) = p0.toInt := by rw [eΓ_73]; exact tg_s
          have hgr : ∀ κ : tk_K, κ.1 ∉ ([40] : List Nat) → Γ_73 κ = Γ κ := tg_fr hgr eΓ_73 (by decide)
          refine lv_aload_n hx hb dX12_house_74 rfl (lv_at hl 1 rfl) ?_
          refine tp_get (cy := cy) (ci := 12) (v := .ref x_2) (C := RX12) (T := TX12) (N := 49) hx hb hta inlX12 hown hK hP ho.1 ((tp_un hfr ho (by decide)).trans hf_1) rfl 0 (by decide) (hta _ wk_149) (fun _ h9 => h9) rfl dX12_house_75 ?_
          refine lv_iload hx hb dX12_house_78 (lv_at hl 0 rfl) ?_
          refine lv_iconst (v := 1) hx hb dX12_house_80 (by decide) ?_
          refine lv_iadd hx hb dX12_house_81 ?_
          refine lv_topi (fun z_76 ez_76 => ?_)
          try have iz_76 : z_76.toInt = z_69.toInt + (1 : Int) := by rw [ez_76]; exact tl_addN z_69 1 rfl rfl (by omega) (by omega)
          refine lv_iload_n hx hb dX12_house_82 rfl (lv_at hl 3 rfl) ?_
          obtain ⟨g_78, hf_77, hg_79⟩ := (show tp_gi cy (7666) (Γ_73 (40, 7666, 0)) (f_74 x_2) from hI.at hx_2)
          have hn_80 : vp_in z_76 (7666) := tl_in (by omega) (by omega)
          have hj_81 : z_76.toNatClampNeg = (7641 + 3 * Γ (40, 7666, 0) 7665 + 1).toNat := by show z_76.toInt.toNat = _; omega
          have hv_82 : p1.toInt = p1.toInt := by omega
          obtain ⟨Γ_83, eΓ_83⟩ : ∃ y : tk_G, y = tg Γ_73 (40, 7666, 0) ((7641 + 3 * Γ (40, 7666, 0) 7665 + 1).toNat) p1.toInt := ⟨_, rfl⟩
          have hI9 : tp_I cy L K Γ_83 (va_up f_74 x_2 (.inl (cy 0, 7666, .inl (upd g_78 z_76.toNatClampNeg p1)))) := by rw [eΓ_83, ← hj_81, ← hv_82]; exact hI.setg hU rfl hx_2 (show tp_gi cy (7666) (tgu (Γ_73 (40, 7666, 0)) _ _) _ from ⟨_, rfl, tp_gi_upd hg_79⟩)
          have hfr9 : ∀ b, (K b).1 ∉ ([40] : List Nat) → va_up f_74 x_2 (.inl (cy 0, 7666, .inl (upd g_78 z_76.toNatClampNeg p1))) b = f b := tp_fr hfr hx_2 (by decide)
          refine tp_iast (cy := cy) hx hb hK hP hD hS hx_2.1 hf_77 hn_80 dX12_house_83 (fun H locs hP hD hS => ?_)
          have hP : va_P D vwCl (va_pl L (va_up f_74 x_2 (.inl (cy 0, 7666, .inl (upd g_78 z_76.toNatClampNeg p1))))) H := hP
          generalize hfe : va_up f_74 x_2 (.inl (cy 0, 7666, .inl (upd g_78 z_76.toNatClampNeg p1))) = f_84 at hP hI9 hfr9
          have hD : va_D A (va_pl L f_84) := tp_D hL hAL
          have hf_85 : f_84 x_2 = .inl (cy 0, 7666, .inl (upd g_78 z_76.toNatClampNeg p1)) := by rw [← hfe]; exact va_up_self _ _ _
          clear hfe
          have hI := hI9
          have hfr := hfr9
          clear hI9 hfr9
          have wtΓ_83_7665 : Γ_83 (40, 7666, 0) 7665 = Γ_73 (40, 7666, 0) 7665 := by rw [eΓ_83]; exact tg_i (by omega)
          have wsΓ_83 : Γ_83 (40, 7666, 0) ((7641 + 3 * Γ (40, 7666, 0) 7665 + 1).toNat) = p1.toInt := by rw [eΓ_83]; exact tg_s
          have hgr : ∀ κ : tk_K, κ.1 ∉ ([40] : List Nat) → Γ_83 κ = Γ κ := tg_fr hgr eΓ_83 (by decide)
          refine lv_aload_n hx hb dX12_house_84 rfl (lv_at hl 1 rfl) ?_
          refine tp_get (cy := cy) (ci := 12) (v := .ref x_2) (C := RX12) (T := TX12) (N := 49) hx hb hta inlX12 hown hK hP ho.1 ((tp_un hfr ho (by decide)).trans hf_1) rfl 0 (by decide) (hta _ wk_149) (fun _ h9 => h9) rfl dX12_house_85 ?_
          refine lv_iload hx hb dX12_house_88 (lv_at hl 0 rfl) ?_
          refine lv_iconst (v := 2) hx hb dX12_house_90 (by decide) ?_
          refine lv_iadd hx hb dX12_house_91 ?_
          refine lv_topi (fun z_86 ez_86 => ?_)
          try have iz_86 : z_86.toInt = z_69.toInt + (2 : Int) := by rw [ez_86]; exact tl_addN z_69 2 rfl rfl (by omega) (by omega)
          refine lv_iload_n hx hb dX12_house_92 rfl (lv_at hl 4 rfl) ?_
          obtain ⟨g_88, hf_87, hg_89⟩ := (show tp_gi cy (7666) (Γ_83 (40, 7666, 0)) (f_84 x_2) from hI.at hx_2)
          have hn_90 : vp_in z_86 (7666) := tl_in (by omega) (by omega)
          have hj_91 : z_86.toNatClampNeg = (7641 + 3 * Γ (40, 7666, 0) 7665 + 2).toNat := by show z_86.toInt.toNat = _; omega
          have hv_92 : p2.toInt = p2.toInt := by omega
          obtain ⟨Γ_93, eΓ_93⟩ : ∃ y : tk_G, y = tg Γ_83 (40, 7666, 0) ((7641 + 3 * Γ (40, 7666, 0) 7665 + 2).toNat) p2.toInt := ⟨_, rfl⟩
          have hI9 : tp_I cy L K Γ_93 (va_up f_84 x_2 (.inl (cy 0, 7666, .inl (upd g_88 z_86.toNatClampNeg p2)))) := by rw [eΓ_93, ← hj_91, ← hv_92]; exact hI.setg hU rfl hx_2 (show tp_gi cy (7666) (tgu (Γ_83 (40, 7666, 0)) _ _) _ from ⟨_, rfl, tp_gi_upd hg_89⟩)
          have hfr9 : ∀ b, (K b).1 ∉ ([40] : List Nat) → va_up f_84 x_2 (.inl (cy 0, 7666, .inl (upd g_88 z_86.toNatClampNeg p2))) b = f b := tp_fr hfr hx_2 (by decide)
          refine tp_iast (cy := cy) hx hb hK hP hD hS hx_2.1 hf_87 hn_90 dX12_house_93 (fun H locs hP hD hS => ?_)
          have hP : va_P D vwCl (va_pl L (va_up f_84 x_2 (.inl (cy 0, 7666, .inl (upd g_88 z_86.toNatClampNeg p2))))) H := hP
          generalize hfe : va_up f_84 x_2 (.inl (cy 0, 7666, .inl (upd g_88 z_86.toNatClampNeg p2))) = f_94 at hP hI9 hfr9
          have hD : va_D A (va_pl L f_94) := tp_D hL hAL
          have hf_95 : f_94 x_2 = .inl (cy 0, 7666, .inl (upd g_88 z_86.toNatClampNeg p2)) := by rw [← hfe]; exact va_up_self _ _ _
          clear hfe
          have hI := hI9
          have hfr := hfr9
          clear hI9 hfr9
          have wtΓ_93_7665 : Γ_93 (40, 7666, 0) 7665 = Γ_83 (40, 7666, 0) 7665 := by rw [eΓ_93]; exact tg_i (by omega)
          have wsΓ_93 : Γ_93 (40, 7666, 0) ((7641 + 3 * Γ (40, 7666, 0) 7665 + 2).toNat) = p2.toInt := by rw [eΓ_93]; exact tg_s
          have hgr : ∀ κ : tk_K, κ.1 ∉ ([40] : List Nat) → Γ_93 κ = Γ κ := tg_fr hgr eΓ_93 (by decide)
          refine lv_aload_n hx hb dX12_house_94 rfl (lv_at hl 1 rfl) ?_
          refine tp_get (cy := cy) (ci := 12) (v := .ref x_2) (C := RX12) (T := TX12) (N := 49) hx hb hta inlX12 hown hK hP ho.1 ((tp_un hfr ho (by decide)).trans hf_1) rfl 0 (by decide) (hta _ wk_149) (fun _ h9 => h9) rfl dX12_house_95 ?_
          refine lv_sipush (v := 7665) hx hb dX12_house_98 (by decide) ?_
          refine lv_dup2_11 hx hb dX12_house_101 rfl rfl ?_
          obtain ⟨g_97, hf_96, hg_98⟩ := (show tp_gi cy (7666) (Γ_93 (40, 7666, 0)) (f_94 x_2) from hI.at hx_2)
          have hn_99 : vp_in 7665 (7666) := tl_in (by decide) (by decide)
          refine tp_iald (cy := cy) hx hb hK hP hx_2.1 hf_96 hn_99 dX12_house_102 ?_
          refine lv_topi (fun z_100 ez_100 => ?_)
          have iz_100 : z_100.toInt = Γ_93 (40, 7666, 0) 7665 := by rw [ez_100]; exact hg_98 _ (tp_pin hn_99)
          refine lv_iconst (v := 1) hx hb dX12_house_103 (by decide) ?_
          refine lv_iadd hx hb dX12_house_104 ?_
          refine lv_topi (fun z_101 ez_101 => ?_)
          try have iz_101 : z_101.toInt = z_100.toInt + (1 : Int) := by rw [ez_101]; exact tl_addN z_100 1 rfl rfl (by omega) (by omega)
          have hn_102 : vp_in 7665 (7666) := tl_in (by decide) (by decide)
          have hj_103 : (7665 : Int32).toNatClampNeg = 7665 := by decide
          have hv_104 : z_101.toInt = Γ (40, 7666, 0) 7665 + 1 := by omega
          obtain ⟨Γ_105, eΓ_105⟩ : ∃ y : tk_G, y = tg Γ_93 (40, 7666, 0) 7665 (Γ (40, 7666, 0) 7665 + 1) := ⟨_, rfl⟩
          have hI9 : tp_I cy L K Γ_105 (va_up f_94 x_2 (.inl (cy 0, 7666, .inl (upd g_97 (7665 : Int32).toNatClampNeg z_101)))) := by rw [eΓ_105, ← hj_103, ← hv_104]; exact hI.setg hU rfl hx_2 (show tp_gi cy (7666) (tgu (Γ_93 (40, 7666, 0)) _ _) _ from ⟨_, rfl, tp_gi_upd hg_98⟩)
          have hfr9 : ∀ b, (K b).1 ∉ ([40] : List Nat) → va_up f_94 x_2 (.inl (cy 0, 7666, .inl (upd g_97 (7665 : Int32).toNatClampNeg z_101))) b = f b := tp_fr hfr hx_2 (by decide)
          refine tp_iast (cy := cy) hx hb hK hP hD hS hx_2.1 hf_96 hn_102 dX12_house_105 (fun H locs hP hD hS => ?_)
          have hP : va_P D vwCl (va_pl L (va_up f_94 x_2 (.inl (cy 0, 7666, .inl (upd g_97 (7665 : Int32).toNatClampNeg z_101))))) H := hP
          generalize hfe : va_up f_94 x_2 (.inl (cy 0, 7666, .inl (upd g_97 (7665 : Int32).toNatClampNeg z_101))) = f_106 at hP hI9 hfr9
          have hD : va_D A (va_pl L f_106) := tp_D hL hAL
          have hf_107 : f_106 x_2 = .inl (cy 0, 7666, .inl (upd g_97 (7665 : Int32).toNatClampNeg z_101)) := by rw [← hfe]; exact va_up_self _ _ _
          clear hfe
          have hI := hI9
          have hfr := hfr9
          clear hI9 hfr9
          have wsΓ_105 : Γ_105 (40, 7666, 0) 7665 = Γ (40, 7666, 0) 7665 + 1 := by rw [eΓ_105]; exact tg_s
          have hgr : ∀ κ : tk_K, κ.1 ∉ ([40] : List Nat) → Γ_105 κ = Γ κ := tg_fr hgr eΓ_105 (by decide)
          refine lv_aload_n hx hb dX12_house_106 rfl (lv_at hl 1 rfl) ?_
          refine tp_get (cy := cy) (ci := 12) (v := .ref x_2) (C := RX12) (T := TX12) (N := 49) hx hb hta inlX12 hown hK hP ho.1 ((tp_un hfr ho (by decide)).trans hf_1) rfl 0 (by decide) (hta _ wk_149) (fun _ h9 => h9) rfl dX12_house_107 ?_
          refine lv_sipush (v := 7665) hx hb dX12_house_110 (by decide) ?_
          obtain ⟨g_109, hf_108, hg_110⟩ := (show tp_gi cy (7666) (Γ_105 (40, 7666, 0)) (f_106 x_2) from hI.at hx_2)
          have hn_111 : vp_in 7665 (7666) := tl_in (by decide) (by decide)
          refine tp_iald (cy := cy) hx hb hK hP hx_2.1 hf_108 hn_111 dX12_house_113 ?_
          refine lv_topi (fun z_112 ez_112 => ?_)
          have iz_112 : z_112.toInt = Γ_105 (40, 7666, 0) 7665 := by rw [ez_112]; exact hg_110 _ (tp_pin hn_111)
          refine lv_iconst (v := 1) hx hb dX12_house_114 (by decide) ?_
          refine lv_isub hx hb dX12_house_115 ?_
          refine lv_topi (fun z_113 ez_113 => ?_)
          try have iz_113 : z_113.toInt = z_112.toInt - (1 : Int) := by rw [ez_113]; exact tl_subN z_112 1 rfl rfl (by omega) (by omega)
          exact W.iret (v := z_113) hx hb hr (fun t ht hW => ⟨⟨_, (f_106, Γ_105), rfl, ⟨(by rw [if_pos (by omega)]; omega), (by rw [if_pos (by omega), eΓ_105, tg_f, eΓ_93, tg_f, eΓ_83, tg_f, eΓ_73, tg_f])⟩, by rw [ht]; exact hP, hI, hfr, hgr⟩, hS.F ht⟩) hS.2.2 dX12_house_116
        · have c_65 := hw_63.f c_65
          refine lv_iconst (v := (-1)) hx hb dX12_house_48 (by decide) ?_
          exact W.iret (v := (-1)) hx hb hr (fun t ht hW => ⟨⟨_, (f, Γ), rfl, ⟨(by rw [if_neg (by omega)]; rfl), (by rw [if_neg (by omega)])⟩, by rw [ht]; exact hP, hI, hfr, hgr⟩, hS.F ht⟩) hS.2.2 dX12_house_49
set_option maxHeartbeats 4000000 in
set_option maxRecDepth 100000 in
theorem r_X12_anew (l : Launch) (D : va_G) (cy : Nat → ClassId) (sz : Nat) (L : List Nat) (K : Nat → tk_K) (Γ : tk_G) (f : Nat → va_E) (o : Nat) (p0 : Int32) (p1 : Int32) (ho : tp_r L K 39 (0) 0 o) (hs : (0 ≤ Γ (40, 7666, 0) 1 ∧ Γ (40, 7666, 0) 1 ≤ 24) ∧ (0 ≤ Γ (40, 7666, 0) 2 ∧ Γ (40, 7666, 0) 2 ≤ 40) ∧ (0 ≤ Γ (40, 7666, 0) 3 ∧ Γ (40, 7666, 0) 3 ≤ 60) ∧ (0 ≤ Γ (40, 7666, 0) 4 ∧ Γ (40, 7666, 0) 4 ≤ 10) ∧ (0 ≤ Γ (40, 7666, 0) 7665 ∧ Γ (40, 7666, 0) 7665 ≤ 8)) : Met l yX12_anew (tl_w yX12_anew cX12_anew 4 (some .int)) ({ frames := 1, cells := 0, slots := 0, locals := 25 }) (va_Pc [.ref o, .int p0, .int p1] (tp_P D cy L K Γ f sz)) (va_Qi (fun (r : Int32) (u : (Nat → va_E) × tk_G) => r.toInt = (if (0 ≤ p0.toInt ∧ p0.toInt < Γ (40, 7666, 0) 2) ∧ -9999 ≤ p1.toInt ∧ p1.toInt ≤ 9999 then Γ (40, 7666, 0) (81 + 4 * p0.toInt + 3).toNat else -2000000) ∧ u.2 (40, 7666, 0) = if (0 ≤ p0.toInt ∧ p0.toInt < Γ (40, 7666, 0) 2) ∧ -9999 ≤ p1.toInt ∧ p1.toInt ≤ 9999 then tgu (Γ (40, 7666, 0)) (81 + 4 * p0.toInt + 3).toNat p1.toInt else Γ (40, 7666, 0)) (tp_BG D cy L K Γ f [40]) (tp_A L sz)) 0 0 (tp_A L sz) := by
  refine Met.ofW (cc := cX12_anew) (maxL := 4) (ret := (some .int)) (by decide) rfl ?_
  intro p e s m args below meth c s₁ B hml hv
  obtain ⟨rfl, hsz, hP, hK, hL, hI, hN, hU⟩ := hv
  have hx := B.exec
  have hb := B.bytes
  have hr := B.returns
  have hta := tl_hta (atoms_spec (ws := tl_w yX12_anew cX12_anew 4 (some .int)) B.pre)
  have hown : s.vm.findClass RX12 = some m.cls := findClass_of_methodNamed B.named
  have hlocks := B.notSynchronized
  subst hsz
  have hI0 := hI
  generalize hAe : tp_A L s.heap.size = A
  have hA : ∀ q : Nat, s.heap.size ≤ q → A q := fun q h => by rw [← hAe]; exact Or.inr h
  have hAL : ∀ q ∈ L, A q := fun q h => by rw [← hAe]; exact Or.inl h
  have hAf : ∀ (H : Heap), s.heap.size ≤ H.size → ∀ q, tp_A L H.size q → A q := fun H h q hq => hq.elim (hAL q) (fun h2 => hA q (Nat.le_trans h h2))
  have hS : va_S A s.heap s.heap [] := va_S.rf
  have hD : va_D A (va_pl L f) := tp_D hL hAL
  have hfr : ∀ b, (K b).1 ∉ ([40] : List Nat) → f b = f b := fun _ _ => rfl
  have hgr : ∀ κ : tk_K, κ.1 ∉ ([40] : List Nat) → Γ κ = Γ κ := fun _ _ => rfl
  have hl := lv_entry ([.ref o, .int p0, .int p1]) (n := 4) (Nat.le_of_ble_eq_true rfl)
  rw [lg_entry_eq]
  generalize (lg_sl ([.ref o, .int p0, .int p1]) ++ List.replicate (4 - (lg_sl ([.ref o, .int p0, .int p1])).length) Slot.unset).toArray = ls at hl ⊢
  have hl : lv_has ls 4 [(0, .ref o), (1, .int p0), (2, .int p1)] := hl
  refine lv_iload_n hx hb dX12_anew_0 rfl (lv_at hl 1 rfl) ?_
  refine lv_i2l (v := p0.toInt64) hx hb dX12_anew_1 (by first | rfl | decide) ?_
  refine lv_lconst (v := 0) hx hb dX12_anew_2 (by decide) ?_
  refine lv_aload_n hx hb dX12_anew_3 rfl (lv_at hl 0 rfl) ?_
  obtain ⟨x_2, x_3, x_4, x_5, x_6, x_7, x_8, x_9, x_10, x_11, x_12, x_13, x_14, x_15, x_16, x_17, x_18, x_19, x_20, x_21, x_22, x_23, x_24, x_25, x_26, x_27, x_28, x_29, x_30, x_31, x_32, x_33, x_34, x_35, x_36, x_37, x_38, x_39, x_40, x_41, x_42, x_43, x_44, x_45, x_46, x_47, x_48, x_49, x_50, hf_1, hx_2, hx_3, hx_4, hx_5, hx_6, hx_7, hx_8, hx_9, hx_10, hx_11, hx_12, hx_13, hx_14, hx_15, hx_16, hx_17, hx_18, hx_19, hx_20, hx_21, hx_22, hx_23, hx_24, hx_25, hx_26, hx_27, hx_28, hx_29, hx_30, hx_32, hx_33, hx_34, hx_35, hx_36, hx_37, hx_38, hx_39, hx_40, hx_41, hx_42, hx_43, hx_44, hx_45, hx_46, hx_47, hx_48, hx_49, hx_50⟩ := (show tp_o_M L K (0) 0 (Γ (39, 0, 0)) (f o) from hI0.at ho)
  refine tp_get (cy := cy) (ci := 12) (v := .ref x_2) (C := RX12) (T := TX12) (N := 49) hx hb hta inlX12 hown hK hP ho.1 hf_1 rfl 0 (by decide) (hta _ wk_149) (fun _ h9 => h9) rfl dX12_anew_4 ?_
  refine lv_iconst (v := 2) hx hb dX12_anew_7 (by decide) ?_
  obtain ⟨g_52, hf_51, hg_53⟩ := (show tp_gi cy (7666) (Γ (40, 7666, 0)) (f x_2) from hI.at hx_2)
  have hn_54 : vp_in 2 (7666) := tl_in (by decide) (by decide)
  refine tp_iald (cy := cy) hx hb hK hP hx_2.1 hf_51 hn_54 dX12_anew_8 ?_
  refine lv_topi (fun z_55 ez_55 => ?_)
  have iz_55 : z_55.toInt = Γ (40, 7666, 0) 2 := by rw [ez_55]; exact hg_53 _ (tp_pin hn_54)
  refine lv_iconst (v := 1) hx hb dX12_anew_9 (by decide) ?_
  refine lv_isub hx hb dX12_anew_10 ?_
  refine lv_topi (fun z_56 ez_56 => ?_)
  try have iz_56 : z_56.toInt = z_55.toInt - (1 : Int) := by rw [ez_56]; exact tl_subN z_55 1 rfl rfl (by omega) (by omega)
  refine lv_i2l (v := z_56.toInt64) hx hb dX12_anew_11 (by first | rfl | decide) ?_
  refine tl_si (tq_rS (As := [.long p0.toInt64, .long 0, .long z_56.toInt64]) (rest := []) ⟨hx, hb, hml, hown, hta⟩ (tp_P.pre hK hN hL hU hI hP) lk_X12_112 (r_X12_in l D cy s.heap.size L K Γ f p0.toInt64 0 z_56.toInt64 ) rfl rfl ⟨Nat.le_of_ble_eq_true rfl, Nat.le_of_ble_eq_true rfl⟩ rfl hl.1 rfl (Nat.le_of_ble_eq_true rfl) dX12_anew_12 ⟨Nat.le_of_ble_eq_true rfl, Nat.le_of_ble_eq_true rfl⟩) (fun r_58 hw_57 => ?_)
  simp only [Int32.toInt_toInt64] at hw_57
  have hw_57 : tl_E r_58 ((0 : Int) ≤ p0.toInt ∧ p0.toInt ≤ z_56.toInt) 1 0 := hw_57
  refine lv_if_eq (tgt := 32) hx hb dX12_anew_15 (by decide) (fun c_59 => ?_) (fun c_59 => ?_)
  · have c_59 := hw_57.f c_59
    refine lv_ldc (v := (-2000000)) hx hb hown (hta _ wk_248) dX12_anew_32 ?_
    exact W.iret (v := (-2000000)) hx hb hr (fun t ht hW => ⟨⟨_, (f, Γ), rfl, ⟨(by rw [if_neg (by omega)]; rfl), (by rw [if_neg (by omega)])⟩, by rw [ht]; exact hP, hI, hfr, hgr⟩, hS.F ht⟩) hS.2.2 dX12_anew_34
  · have c_59 := hw_57.t c_59
    refine lv_iload_n hx hb dX12_anew_18 rfl (lv_at hl 2 rfl) ?_
    refine lv_i2l (v := p1.toInt64) hx hb dX12_anew_19 (by first | rfl | decide) ?_
    refine lv_ldc2 (v := (-9999)) hx hb hown (hta _ wk_301) dX12_anew_20 ?_
    refine lv_ldc2 (v := 9999) hx hb hown (hta _ wk_302) dX12_anew_23 ?_
    refine tl_si (tq_rS (As := [.long p1.toInt64, .long (-9999), .long 9999]) (rest := []) ⟨hx, hb, hml, hown, hta⟩ (tp_P.pre hK hN hL hU hI hP) lk_X12_112 (r_X12_in l D cy s.heap.size L K Γ f p1.toInt64 (-9999) 9999 ) rfl rfl ⟨Nat.le_of_ble_eq_true rfl, Nat.le_of_ble_eq_true rfl⟩ rfl hl.1 rfl (Nat.le_of_ble_eq_true rfl) dX12_anew_26 ⟨Nat.le_of_ble_eq_true rfl, Nat.le_of_ble_eq_true rfl⟩) (fun r_61 hw_60 => ?_)
    simp only [Int32.toInt_toInt64] at hw_60
    have hw_60 : tl_E r_61 ((-9999 : Int) ≤ p1.toInt ∧ p1.toInt ≤ (9999 : Int)) 1 0 := hw_60
    refine lv_if_ne (tgt := 35) hx hb dX12_anew_29 (by decide) (fun c_62 => ?_) (fun c_62 => ?_)
    · have c_62 := hw_60.t c_62
      refine lv_aload_n hx hb dX12_anew_35 rfl (lv_at hl 0 rfl) ?_
      refine tp_get (cy := cy) (ci := 12) (v := .ref x_2) (C := RX12) (T := TX12) (N := 49) hx hb hta inlX12 hown hK hP ho.1 hf_1 rfl 0 (by decide) (hta _ wk_149) (fun _ h9 => h9) rfl dX12_anew_36 ?_
      refine lv_bipush (v := 81) hx hb dX12_anew_39 (by decide) ?_
      refine lv_iconst (v := 4) hx hb dX12_anew_41 (by decide) ?_
      refine lv_iload_n hx hb dX12_anew_42 rfl (lv_at hl 1 rfl) ?_
      refine lv_imul hx hb dX12_anew_43 ?_
      refine lv_topi (fun z_63 ez_63 => ?_)
      try have iz_63 : z_63.toInt = (4 : Int) * p0.toInt := by rw [ez_63]; exact tl_mulN 4 p0 rfl rfl (by omega) (by omega)
      refine lv_iadd hx hb dX12_anew_44 ?_
      refine lv_topi (fun z_64 ez_64 => ?_)
      try have iz_64 : z_64.toInt = (81 : Int) + z_63.toInt := by rw [ez_64]; exact tl_addN 81 z_63 rfl rfl (by omega) (by omega)
      refine lv_iconst (v := 3) hx hb dX12_anew_45 (by decide) ?_
      refine lv_iadd hx hb dX12_anew_46 ?_
      refine lv_topi (fun z_65 ez_65 => ?_)
      try have iz_65 : z_65.toInt = z_64.toInt + (3 : Int) := by rw [ez_65]; exact tl_addN z_64 3 rfl rfl (by omega) (by omega)
      have hn_66 : vp_in z_65 (7666) := tl_in (by omega) (by omega)
      refine tp_iald (cy := cy) hx hb hK hP hx_2.1 hf_51 hn_66 dX12_anew_47 ?_
      refine lv_topi (fun z_67 ez_67 => ?_)
      have iz_67 : z_67.toInt = Γ (40, 7666, 0) z_65.toInt.toNat := by rw [ez_67]; exact hg_53 _ (tp_pin hn_66)
      refine lv_istore_n (lv' := [(3, .int z_67), (0, .ref o), (1, .int p0), (2, .int p1)]) hx hb dX12_anew_48 rfl hl (by decide) rfl (fun ls hl => ?_)
      refine lv_aload_n hx hb dX12_anew_49 rfl (lv_at hl 1 rfl) ?_
      refine tp_get (cy := cy) (ci := 12) (v := .ref x_2) (C := RX12) (T := TX12) (N := 49) hx hb hta inlX12 hown hK hP ho.1 hf_1 rfl 0 (by decide) (hta _ wk_149) (fun _ h9 => h9) rfl dX12_anew_50 ?_
      refine lv_bipush (v := 81) hx hb dX12_anew_53 (by decide) ?_
      refine lv_iconst (v := 4) hx hb dX12_anew_55 (by decide) ?_
      refine lv_iload_n hx hb dX12_anew_56 rfl (lv_at hl 2 rfl) ?_
      refine lv_imul hx hb dX12_anew_57 ?_
      refine lv_topi (fun z_68 ez_68 => ?_)
      try have iz_68 : z_68.toInt = (4 : Int) * p0.toInt := by rw [ez_68]; exact tl_mulN 4 p0 rfl rfl (by omega) (by omega)
      refine lv_iadd hx hb dX12_anew_58 ?_
      refine lv_topi (fun z_69 ez_69 => ?_)
      try have iz_69 : z_69.toInt = (81 : Int) + z_68.toInt := by rw [ez_69]; exact tl_addN 81 z_68 rfl rfl (by omega) (by omega)
      refine lv_iconst (v := 3) hx hb dX12_anew_59 (by decide) ?_
      refine lv_iadd hx hb dX12_anew_60 ?_
      refine lv_topi (fun z_70 ez_70 => ?_)
      try have iz_70 : z_70.toInt = z_69.toInt + (3 : Int) := by rw [ez_70]; exact tl_addN z_69 3 rfl rfl (by omega) (by omega)
      refine lv_iload_n hx hb dX12_anew_61 rfl (lv_at hl 3 rfl) ?_
      have hn_71 : vp_in z_70 (7666) := tl_in (by omega) (by omega)
      have hj_72 : z_70.toNatClampNeg = (81 + 4 * p0.toInt + 3).toNat := by show z_70.toInt.toNat = _; omega
      have hv_73 : p1.toInt = p1.toInt := rfl
      obtain ⟨Γ_74, eΓ_74⟩ : ∃ y : tk_G, y = tg Γ (40, 7666, 0) ((81 + 4 * p0.toInt + 3).toNat) p1.toInt := ⟨_, rfl⟩
      have hI9 : tp_I cy L K Γ_74 (va_up f x_2 (.inl (cy 0, 7666, .inl (upd g_52 z_70.toNatClampNeg p1)))) := by rw [eΓ_74, ← hj_72, ← hv_73]; exact hI.setg hU rfl hx_2 (show tp_gi cy (7666) (tgu (Γ (40, 7666, 0)) _ _) _ from ⟨_, rfl, tp_gi_upd hg_53⟩)
      have hfr9 : ∀ b, (K b).1 ∉ ([40] : List Nat) → va_up f x_2 (.inl (cy 0, 7666, .inl (upd g_52 z_70.toNatClampNeg p1))) b = f b := tp_fr hfr hx_2 (by decide)
      refine tp_iast (cy := cy) hx hb hK hP hD hS hx_2.1 hf_51 hn_71 dX12_anew_62 (fun H locs hP hD hS => ?_)
      have hP : va_P D vwCl (va_pl L (va_up f x_2 (.inl (cy 0, 7666, .inl (upd g_52 z_70.toNatClampNeg p1))))) H := hP
      generalize hfe : va_up f x_2 (.inl (cy 0, 7666, .inl (upd g_52 z_70.toNatClampNeg p1))) = f_75 at hP hI9 hfr9
      have hD : va_D A (va_pl L f_75) := tp_D hL hAL
      have hf_76 : f_75 x_2 = .inl (cy 0, 7666, .inl (upd g_52 z_70.toNatClampNeg p1)) := by rw [← hfe]; exact va_up_self _ _ _
      clear hfe
      have hI := hI9
      have hfr := hfr9
      clear hI9 hfr9
      have wsΓ_74 : Γ_74 (40, 7666, 0) ((81 + 4 * p0.toInt + 3).toNat) = p1.toInt := by rw [eΓ_74]; exact tg_s
      have hgr : ∀ κ : tk_K, κ.1 ∉ ([40] : List Nat) → Γ_74 κ = Γ κ := tg_fr hgr eΓ_74 (by decide)
      refine lv_iload_n hx hb dX12_anew_63 rfl (lv_at hl 0 rfl) ?_
      exact W.iret (v := z_67) hx hb hr (fun t ht hW => ⟨⟨_, (f_75, Γ_74), rfl, ⟨(by rw [if_pos (by omega)]; exact iz_67.trans (congrArg _ (by omega))), (by rw [if_pos (by omega), eΓ_74, tg_f])⟩, by rw [ht]; exact hP, hI, hfr, hgr⟩, hS.F ht⟩) hS.2.2 dX12_anew_64
    · have c_62 := hw_60.f c_62
      refine lv_ldc (v := (-2000000)) hx hb hown (hta _ wk_248) dX12_anew_32 ?_
      exact W.iret (v := (-2000000)) hx hb hr (fun t ht hW => ⟨⟨_, (f, Γ), rfl, ⟨(by rw [if_neg (by omega)]; rfl), (by rw [if_neg (by omega)])⟩, by rw [ht]; exact hP, hI, hfr, hgr⟩, hS.F ht⟩) hS.2.2 dX12_anew_34
set_option maxHeartbeats 4000000 in
set_option maxRecDepth 100000 in
theorem r_X12_told (l : Launch) (D : va_G) (cy : Nat → ClassId) (sz : Nat) (L : List Nat) (K : Nat → tk_K) (Γ : tk_G) (f : Nat → va_E) (o : Nat) (p0 : Int32) (p1 : Int32) (ho : tp_r L K 39 (0) 0 o) : Met l yX12_told (tl_w yX12_told cX12_told 4 (some .int)) ({ frames := 1, cells := 0, slots := 0, locals := 25 }) (va_Pc [.ref o, .int p0, .int p1] (tp_P D cy L K Γ f sz)) (va_Qi (fun (r : Int32) (u : (Nat → va_E) × tk_G) => r.toInt = (if (0 ≤ p0.toInt ∧ p0.toInt ≤ 3) ∧ 0 ≤ p1.toInt ∧ p1.toInt ≤ 9999 then Γ (40, 7666, 0) (5 + p0.toInt).toNat else -1) ∧ u.2 (40, 7666, 0) = if (0 ≤ p0.toInt ∧ p0.toInt ≤ 3) ∧ 0 ≤ p1.toInt ∧ p1.toInt ≤ 9999 then tgu (Γ (40, 7666, 0)) (5 + p0.toInt).toNat p1.toInt else Γ (40, 7666, 0)) (tp_BG D cy L K Γ f [40]) (tp_A L sz)) 0 0 (tp_A L sz) := by
  refine Met.ofW (cc := cX12_told) (maxL := 4) (ret := (some .int)) (by decide) rfl ?_
  intro p e s m args below meth c s₁ B hml hv
  obtain ⟨rfl, hsz, hP, hK, hL, hI, hN, hU⟩ := hv
  have hx := B.exec
  have hb := B.bytes
  have hr := B.returns
  have hta := tl_hta (atoms_spec (ws := tl_w yX12_told cX12_told 4 (some .int)) B.pre)
  have hown : s.vm.findClass RX12 = some m.cls := findClass_of_methodNamed B.named
  have hlocks := B.notSynchronized
  subst hsz
  have hI0 := hI
  generalize hAe : tp_A L s.heap.size = A
  have hA : ∀ q : Nat, s.heap.size ≤ q → A q := fun q h => by rw [← hAe]; exact Or.inr h
  have hAL : ∀ q ∈ L, A q := fun q h => by rw [← hAe]; exact Or.inl h
  have hAf : ∀ (H : Heap), s.heap.size ≤ H.size → ∀ q, tp_A L H.size q → A q := fun H h q hq => hq.elim (hAL q) (fun h2 => hA q (Nat.le_trans h h2))
  have hS : va_S A s.heap s.heap [] := va_S.rf
  have hD : va_D A (va_pl L f) := tp_D hL hAL
  have hfr : ∀ b, (K b).1 ∉ ([40] : List Nat) → f b = f b := fun _ _ => rfl
  have hgr : ∀ κ : tk_K, κ.1 ∉ ([40] : List Nat) → Γ κ = Γ κ := fun _ _ => rfl
  have hl := lv_entry ([.ref o, .int p0, .int p1]) (n := 4) (Nat.le_of_ble_eq_true rfl)
  rw [lg_entry_eq]
  generalize (lg_sl ([.ref o, .int p0, .int p1]) ++ List.replicate (4 - (lg_sl ([.ref o, .int p0, .int p1])).length) Slot.unset).toArray = ls at hl ⊢
  have hl : lv_has ls 4 [(0, .ref o), (1, .int p0), (2, .int p1)] := hl
  refine lv_iload_n hx hb dX12_told_0 rfl (lv_at hl 1 rfl) ?_
  refine lv_i2l (v := p0.toInt64) hx hb dX12_told_1 (by first | rfl | decide) ?_
  refine lv_lconst (v := 0) hx hb dX12_told_2 (by decide) ?_
  refine lv_ldc2 (v := 3) hx hb hown (hta _ wk_221) dX12_told_3 ?_
  refine tl_si (tq_rS (As := [.long p0.toInt64, .long 0, .long 3]) (rest := []) ⟨hx, hb, hml, hown, hta⟩ (tp_P.pre hK hN hL hU hI hP) lk_X12_112 (r_X12_in l D cy s.heap.size L K Γ f p0.toInt64 0 3 ) rfl rfl ⟨Nat.le_of_ble_eq_true rfl, Nat.le_of_ble_eq_true rfl⟩ rfl hl.1 rfl (Nat.le_of_ble_eq_true rfl) dX12_told_6 ⟨Nat.le_of_ble_eq_true rfl, Nat.le_of_ble_eq_true rfl⟩) (fun r_2 hw_1 => ?_)
  simp only [Int32.toInt_toInt64] at hw_1
  have hw_1 : tl_E r_2 ((0 : Int) ≤ p0.toInt ∧ p0.toInt ≤ (3 : Int)) 1 0 := hw_1
  refine lv_if_eq (tgt := 24) hx hb dX12_told_9 (by decide) (fun c_3 => ?_) (fun c_3 => ?_)
  · have c_3 := hw_1.f c_3
    refine lv_iconst (v := (-1)) hx hb dX12_told_24 (by decide) ?_
    exact W.iret (v := (-1)) hx hb hr (fun t ht hW => ⟨⟨_, (f, Γ), rfl, ⟨(by rw [if_neg (by omega)]; rfl), (by rw [if_neg (by omega)])⟩, by rw [ht]; exact hP, hI, hfr, hgr⟩, hS.F ht⟩) hS.2.2 dX12_told_25
  · have c_3 := hw_1.t c_3
    refine lv_iload_n hx hb dX12_told_12 rfl (lv_at hl 2 rfl) ?_
    refine lv_i2l (v := p1.toInt64) hx hb dX12_told_13 (by first | rfl | decide) ?_
    refine lv_lconst (v := 0) hx hb dX12_told_14 (by decide) ?_
    refine lv_ldc2 (v := 9999) hx hb hown (hta _ wk_302) dX12_told_15 ?_
    refine tl_si (tq_rS (As := [.long p1.toInt64, .long 0, .long 9999]) (rest := []) ⟨hx, hb, hml, hown, hta⟩ (tp_P.pre hK hN hL hU hI hP) lk_X12_112 (r_X12_in l D cy s.heap.size L K Γ f p1.toInt64 0 9999 ) rfl rfl ⟨Nat.le_of_ble_eq_true rfl, Nat.le_of_ble_eq_true rfl⟩ rfl hl.1 rfl (Nat.le_of_ble_eq_true rfl) dX12_told_18 ⟨Nat.le_of_ble_eq_true rfl, Nat.le_of_ble_eq_true rfl⟩) (fun r_5 hw_4 => ?_)
    simp only [Int32.toInt_toInt64] at hw_4
    have hw_4 : tl_E r_5 ((0 : Int) ≤ p1.toInt ∧ p1.toInt ≤ (9999 : Int)) 1 0 := hw_4
    refine lv_if_ne (tgt := 26) hx hb dX12_told_21 (by decide) (fun c_6 => ?_) (fun c_6 => ?_)
    · have c_6 := hw_4.t c_6
      refine lv_aload_n hx hb dX12_told_26 rfl (lv_at hl 0 rfl) ?_
      obtain ⟨x_8, x_9, x_10, x_11, x_12, x_13, x_14, x_15, x_16, x_17, x_18, x_19, x_20, x_21, x_22, x_23, x_24, x_25, x_26, x_27, x_28, x_29, x_30, x_31, x_32, x_33, x_34, x_35, x_36, x_37, x_38, x_39, x_40, x_41, x_42, x_43, x_44, x_45, x_46, x_47, x_48, x_49, x_50, x_51, x_52, x_53, x_54, x_55, x_56, hf_7, hx_8, hx_9, hx_10, hx_11, hx_12, hx_13, hx_14, hx_15, hx_16, hx_17, hx_18, hx_19, hx_20, hx_21, hx_22, hx_23, hx_24, hx_25, hx_26, hx_27, hx_28, hx_29, hx_30, hx_31, hx_32, hx_33, hx_34, hx_35, hx_36, hx_38, hx_39, hx_40, hx_41, hx_42, hx_43, hx_44, hx_45, hx_46, hx_47, hx_48, hx_49, hx_50, hx_51, hx_52, hx_53, hx_54, hx_55, hx_56⟩ := (show tp_o_M L K (0) 0 (Γ (39, 0, 0)) (f o) from hI0.at ho)
      refine tp_get (cy := cy) (ci := 12) (v := .ref x_8) (C := RX12) (T := TX12) (N := 49) hx hb hta inlX12 hown hK hP ho.1 hf_7 rfl 0 (by decide) (hta _ wk_149) (fun _ h9 => h9) rfl dX12_told_27 ?_
      refine lv_iconst (v := 5) hx hb dX12_told_30 (by decide) ?_
      refine lv_iload_n hx hb dX12_told_31 rfl (lv_at hl 1 rfl) ?_
      refine lv_iadd hx hb dX12_told_32 ?_
      refine lv_topi (fun z_57 ez_57 => ?_)
      try have iz_57 : z_57.toInt = (5 : Int) + p0.toInt := by rw [ez_57]; exact tl_addN 5 p0 rfl rfl (by omega) (by omega)
      obtain ⟨g_59, hf_58, hg_60⟩ := (show tp_gi cy (7666) (Γ (40, 7666, 0)) (f x_8) from hI.at hx_8)
      have hn_61 : vp_in z_57 (7666) := tl_in (by omega) (by omega)
      refine tp_iald (cy := cy) hx hb hK hP hx_8.1 hf_58 hn_61 dX12_told_33 ?_
      refine lv_topi (fun z_62 ez_62 => ?_)
      have iz_62 : z_62.toInt = Γ (40, 7666, 0) z_57.toInt.toNat := by rw [ez_62]; exact hg_60 _ (tp_pin hn_61)
      refine lv_istore_n (lv' := [(3, .int z_62), (0, .ref o), (1, .int p0), (2, .int p1)]) hx hb dX12_told_34 rfl hl (by decide) rfl (fun ls hl => ?_)
      refine lv_aload_n hx hb dX12_told_35 rfl (lv_at hl 1 rfl) ?_
      refine tp_get (cy := cy) (ci := 12) (v := .ref x_8) (C := RX12) (T := TX12) (N := 49) hx hb hta inlX12 hown hK hP ho.1 hf_7 rfl 0 (by decide) (hta _ wk_149) (fun _ h9 => h9) rfl dX12_told_36 ?_
      refine lv_iconst (v := 5) hx hb dX12_told_39 (by decide) ?_
      refine lv_iload_n hx hb dX12_told_40 rfl (lv_at hl 2 rfl) ?_
      refine lv_iadd hx hb dX12_told_41 ?_
      refine lv_topi (fun z_63 ez_63 => ?_)
      try have iz_63 : z_63.toInt = (5 : Int) + p0.toInt := by rw [ez_63]; exact tl_addN 5 p0 rfl rfl (by omega) (by omega)
      refine lv_iload_n hx hb dX12_told_42 rfl (lv_at hl 3 rfl) ?_
      have hn_64 : vp_in z_63 (7666) := tl_in (by omega) (by omega)
      have hj_65 : z_63.toNatClampNeg = (5 + p0.toInt).toNat := by show z_63.toInt.toNat = _; omega
      have hv_66 : p1.toInt = p1.toInt := rfl
      obtain ⟨Γ_67, eΓ_67⟩ : ∃ y : tk_G, y = tg Γ (40, 7666, 0) ((5 + p0.toInt).toNat) p1.toInt := ⟨_, rfl⟩
      have hI9 : tp_I cy L K Γ_67 (va_up f x_8 (.inl (cy 0, 7666, .inl (upd g_59 z_63.toNatClampNeg p1)))) := by rw [eΓ_67, ← hj_65, ← hv_66]; exact hI.setg hU rfl hx_8 (show tp_gi cy (7666) (tgu (Γ (40, 7666, 0)) _ _) _ from ⟨_, rfl, tp_gi_upd hg_60⟩)
      have hfr9 : ∀ b, (K b).1 ∉ ([40] : List Nat) → va_up f x_8 (.inl (cy 0, 7666, .inl (upd g_59 z_63.toNatClampNeg p1))) b = f b := tp_fr hfr hx_8 (by decide)
      refine tp_iast (cy := cy) hx hb hK hP hD hS hx_8.1 hf_58 hn_64 dX12_told_43 (fun H locs hP hD hS => ?_)
      have hP : va_P D vwCl (va_pl L (va_up f x_8 (.inl (cy 0, 7666, .inl (upd g_59 z_63.toNatClampNeg p1))))) H := hP
      generalize hfe : va_up f x_8 (.inl (cy 0, 7666, .inl (upd g_59 z_63.toNatClampNeg p1))) = f_68 at hP hI9 hfr9
      have hD : va_D A (va_pl L f_68) := tp_D hL hAL
      have hf_69 : f_68 x_8 = .inl (cy 0, 7666, .inl (upd g_59 z_63.toNatClampNeg p1)) := by rw [← hfe]; exact va_up_self _ _ _
      clear hfe
      have hI := hI9
      have hfr := hfr9
      clear hI9 hfr9
      have wsΓ_67 : Γ_67 (40, 7666, 0) ((5 + p0.toInt).toNat) = p1.toInt := by rw [eΓ_67]; exact tg_s
      have hgr : ∀ κ : tk_K, κ.1 ∉ ([40] : List Nat) → Γ_67 κ = Γ κ := tg_fr hgr eΓ_67 (by decide)
      refine lv_iload_n hx hb dX12_told_44 rfl (lv_at hl 0 rfl) ?_
      exact W.iret (v := z_62) hx hb hr (fun t ht hW => ⟨⟨_, (f_68, Γ_67), rfl, ⟨(by rw [if_pos (by omega)]; exact iz_62.trans (congrArg _ (by omega))), (by rw [if_pos (by omega), eΓ_67, tg_f])⟩, by rw [ht]; exact hP, hI, hfr, hgr⟩, hS.F ht⟩) hS.2.2 dX12_told_45
    · have c_6 := hw_4.f c_6
      refine lv_iconst (v := (-1)) hx hb dX12_told_24 (by decide) ?_
      exact W.iret (v := (-1)) hx hb hr (fun t ht hW => ⟨⟨_, (f, Γ), rfl, ⟨(by rw [if_neg (by omega)]; rfl), (by rw [if_neg (by omega)])⟩, by rw [ht]; exact hP, hI, hfr, hgr⟩, hS.F ht⟩) hS.2.2 dX12_told_25
set_option maxHeartbeats 4000000 in
set_option maxRecDepth 100000 in
theorem r_X12_raw (l : Launch) (D : va_G) (cy : Nat → ClassId) (sz : Nat) (L : List Nat) (K : Nat → tk_K) (Γ : tk_G) (f : Nat → va_E) (o : Nat) (p0 : Int32) (p1 : Int32) (p2 : Int32) (ho : tp_r L K 39 (0) 0 o) (hs : (0 ≤ Γ (40, 7666, 0) 1 ∧ Γ (40, 7666, 0) 1 ≤ 24) ∧ (0 ≤ Γ (40, 7666, 0) 2 ∧ Γ (40, 7666, 0) 2 ≤ 40) ∧ (0 ≤ Γ (40, 7666, 0) 3 ∧ Γ (40, 7666, 0) 3 ≤ 60) ∧ (0 ≤ Γ (40, 7666, 0) 4 ∧ Γ (40, 7666, 0) 4 ≤ 10) ∧ (0 ≤ Γ (40, 7666, 0) 7665 ∧ Γ (40, 7666, 0) 7665 ≤ 8)) : Met l yX12_raw (tl_w yX12_raw cX12_raw 5 (some .int)) ({ frames := 1, cells := 0, slots := 0, locals := 25 }) (va_Pc [.ref o, .int p0, .int p1, .int p2] (tp_P D cy L K Γ f sz)) (va_Qi (fun (r : Int32) (u : (Nat → va_E) × tk_G) => u.2 (40, 7666, 0) = if (0 ≤ p0.toInt ∧ p0.toInt < Γ (40, 7666, 0) 1) ∧ (0 ≤ p1.toInt ∧ p1.toInt ≤ 299) ∧ (p2.toInt = -1000000 ∨ (-100000 ≤ p2.toInt ∧ p2.toInt ≤ 100000)) then tgu (Γ (40, 7666, 0)) (441 + 300 * p0.toInt + p1.toInt).toNat p2.toInt else Γ (40, 7666, 0)) (tp_BG D cy L K Γ f [40]) (tp_A L sz)) 0 0 (tp_A L sz) := by
  refine Met.ofW (cc := cX12_raw) (maxL := 5) (ret := (some .int)) (by decide) rfl ?_
  intro p e s m args below meth c s₁ B hml hv
  obtain ⟨rfl, hsz, hP, hK, hL, hI, hN, hU⟩ := hv
  have hx := B.exec
  have hb := B.bytes
  have hr := B.returns
  have hta := tl_hta (atoms_spec (ws := tl_w yX12_raw cX12_raw 5 (some .int)) B.pre)
  have hown : s.vm.findClass RX12 = some m.cls := findClass_of_methodNamed B.named
  have hlocks := B.notSynchronized
  subst hsz
  have hI0 := hI
  generalize hAe : tp_A L s.heap.size = A
  have hA : ∀ q : Nat, s.heap.size ≤ q → A q := fun q h => by rw [← hAe]; exact Or.inr h
  have hAL : ∀ q ∈ L, A q := fun q h => by rw [← hAe]; exact Or.inl h
  have hAf : ∀ (H : Heap), s.heap.size ≤ H.size → ∀ q, tp_A L H.size q → A q := fun H h q hq => hq.elim (hAL q) (fun h2 => hA q (Nat.le_trans h h2))
  have hS : va_S A s.heap s.heap [] := va_S.rf
  have hD : va_D A (va_pl L f) := tp_D hL hAL
  have hfr : ∀ b, (K b).1 ∉ ([40] : List Nat) → f b = f b := fun _ _ => rfl
  have hgr : ∀ κ : tk_K, κ.1 ∉ ([40] : List Nat) → Γ κ = Γ κ := fun _ _ => rfl
  have hl := lv_entry ([.ref o, .int p0, .int p1, .int p2]) (n := 5) (Nat.le_of_ble_eq_true rfl)
  rw [lg_entry_eq]
  generalize (lg_sl ([.ref o, .int p0, .int p1, .int p2]) ++ List.replicate (5 - (lg_sl ([.ref o, .int p0, .int p1, .int p2])).length) Slot.unset).toArray = ls at hl ⊢
  have hl : lv_has ls 5 [(0, .ref o), (1, .int p0), (2, .int p1), (3, .int p2)] := hl
  refine lv_aload_n hx hb dX12_raw_0 rfl (lv_at hl 0 rfl) ?_
  refine lv_iload_n hx hb dX12_raw_1 rfl (lv_at hl 1 rfl) ?_
  obtain ⟨x_2, x_3, x_4, x_5, x_6, x_7, x_8, x_9, x_10, x_11, x_12, x_13, x_14, x_15, x_16, x_17, x_18, x_19, x_20, x_21, x_22, x_23, x_24, x_25, x_26, x_27, x_28, x_29, x_30, x_31, x_32, x_33, x_34, x_35, x_36, x_37, x_38, x_39, x_40, x_41, x_42, x_43, x_44, x_45, x_46, x_47, x_48, x_49, x_50, hf_1, hx_2, hx_3, hx_4, hx_5, hx_6, hx_7, hx_8, hx_9, hx_10, hx_11, hx_12, hx_13, hx_14, hx_15, hx_16, hx_17, hx_18, hx_19, hx_20, hx_21, hx_22, hx_23, hx_24, hx_25, hx_26, hx_27, hx_28, hx_29, hx_30, hx_32, hx_33, hx_34, hx_35, hx_36, hx_37, hx_38, hx_39, hx_40, hx_41, hx_42, hx_43, hx_44, hx_45, hx_46, hx_47, hx_48, hx_49, hx_50⟩ := (show tp_o_M L K (0) 0 (Γ (39, 0, 0)) (f o) from hI0.at ho)
  refine tl_si (tq_rV (As := [.int p0]) (rest := []) ⟨hx, hb, hml, hown, hta⟩ (tp_P.pre hK hN hL hU hI hP) (tp_recv hK hP ho.1 hf_1 rfl) lk_X12_120 (r_X12_isRow l D cy s.heap.size L K Γ f o p0 ho) rfl rfl ⟨Nat.le_of_ble_eq_true rfl, Nat.le_of_ble_eq_true rfl⟩ rfl hl.1 rfl (Nat.le_of_ble_eq_true rfl) dX12_raw_2 ⟨Nat.le_of_ble_eq_true rfl, Nat.le_of_ble_eq_true rfl⟩) (fun r_52 hw_51 => ?_)
  have hw_51 : tl_E r_52 (0 ≤ p0.toInt ∧ p0.toInt < Γ (40, 7666, 0) 1) 1 0 := hw_51
  refine lv_if_eq (tgt := 35) hx hb dX12_raw_5 (by decide) (fun c_53 => ?_) (fun c_53 => ?_)
  · have c_53 := hw_51.f c_53
    refine lv_ldc (v := (-2000000)) hx hb hown (hta _ wk_248) dX12_raw_35 ?_
    exact W.iret (v := (-2000000)) hx hb hr (fun t ht hW => ⟨⟨_, (f, Γ), rfl, (by rw [if_neg (by omega)]), by rw [ht]; exact hP, hI, hfr, hgr⟩, hS.F ht⟩) hS.2.2 dX12_raw_37
  · have c_53 := hw_51.t c_53
    refine lv_iload_n hx hb dX12_raw_8 rfl (lv_at hl 2 rfl) ?_
    refine tl_si (tq_rS (As := [.int p1]) (rest := []) ⟨hx, hb, hml, hown, hta⟩ (tp_P.pre hK hN hL hU hI hP) lk_X12_124 (r_X12_isColour l D cy s.heap.size L K Γ f p1 ) rfl rfl ⟨Nat.le_of_ble_eq_true rfl, Nat.le_of_ble_eq_true rfl⟩ rfl hl.1 rfl (Nat.le_of_ble_eq_true rfl) dX12_raw_9 ⟨Nat.le_of_ble_eq_true rfl, Nat.le_of_ble_eq_true rfl⟩) (fun r_55 hw_54 => ?_)
    have hw_54 : tl_E r_55 (0 ≤ p1.toInt ∧ p1.toInt ≤ 299) 1 0 := hw_54
    refine lv_if_eq (tgt := 35) hx hb dX12_raw_12 (by decide) (fun c_56 => ?_) (fun c_56 => ?_)
    · have c_56 := hw_54.f c_56
      refine lv_ldc (v := (-2000000)) hx hb hown (hta _ wk_248) dX12_raw_35 ?_
      exact W.iret (v := (-2000000)) hx hb hr (fun t ht hW => ⟨⟨_, (f, Γ), rfl, (by rw [if_neg (by omega)]), by rw [ht]; exact hP, hI, hfr, hgr⟩, hS.F ht⟩) hS.2.2 dX12_raw_37
    · have c_56 := hw_54.t c_56
      refine lv_iload_n hx hb dX12_raw_15 rfl (lv_at hl 3 rfl) ?_
      refine lv_ldc (v := (-1000000)) hx hb hown (hta _ wk_182) dX12_raw_16 ?_
      refine lv_icmp_eq (tgt := 38) hx hb dX12_raw_18 (by decide) (fun c_57 => ?_) (fun c_57 => ?_)
      · have c_57 : p2.toInt = (-1000000 : Int) := tl_eq c_57
        refine lv_aload_n hx hb dX12_raw_38 rfl (lv_at hl 0 rfl) ?_
        refine tp_get (cy := cy) (ci := 12) (v := .ref x_2) (C := RX12) (T := TX12) (N := 49) hx hb hta inlX12 hown hK hP ho.1 hf_1 rfl 0 (by decide) (hta _ wk_149) (fun _ h9 => h9) rfl dX12_raw_39 ?_
        refine lv_sipush (v := 441) hx hb dX12_raw_42 (by decide) ?_
        refine lv_sipush (v := 300) hx hb dX12_raw_45 (by decide) ?_
        refine lv_iload_n hx hb dX12_raw_48 rfl (lv_at hl 1 rfl) ?_
        refine lv_imul hx hb dX12_raw_49 ?_
        refine lv_topi (fun z_58 ez_58 => ?_)
        try have iz_58 : z_58.toInt = (300 : Int) * p0.toInt := by rw [ez_58]; exact tl_mulN 300 p0 rfl rfl (by omega) (by omega)
        refine lv_iadd hx hb dX12_raw_50 ?_
        refine lv_topi (fun z_59 ez_59 => ?_)
        try have iz_59 : z_59.toInt = (441 : Int) + z_58.toInt := by rw [ez_59]; exact tl_addN 441 z_58 rfl rfl (by omega) (by omega)
        refine lv_iload_n hx hb dX12_raw_51 rfl (lv_at hl 2 rfl) ?_
        refine lv_iadd hx hb dX12_raw_52 ?_
        refine lv_topi (fun z_60 ez_60 => ?_)
        try have iz_60 : z_60.toInt = z_59.toInt + p1.toInt := by rw [ez_60]; exact tl_addN z_59 p1 rfl rfl (by omega) (by omega)
        obtain ⟨g_62, hf_61, hg_63⟩ := (show tp_gi cy (7666) (Γ (40, 7666, 0)) (f x_2) from hI.at hx_2)
        have hn_64 : vp_in z_60 (7666) := tl_in (by omega) (by omega)
        refine tp_iald (cy := cy) hx hb hK hP hx_2.1 hf_61 hn_64 dX12_raw_53 ?_
        refine lv_topi (fun z_65 ez_65 => ?_)
        have iz_65 : z_65.toInt = Γ (40, 7666, 0) z_60.toInt.toNat := by rw [ez_65]; exact hg_63 _ (tp_pin hn_64)
        refine lv_istore (lv' := [(4, .int z_65), (0, .ref o), (1, .int p0), (2, .int p1), (3, .int p2)]) hx hb dX12_raw_54 hl (by decide) rfl (fun ls hl => ?_)
        refine lv_aload_n hx hb dX12_raw_56 rfl (lv_at hl 1 rfl) ?_
        refine tp_get (cy := cy) (ci := 12) (v := .ref x_2) (C := RX12) (T := TX12) (N := 49) hx hb hta inlX12 hown hK hP ho.1 hf_1 rfl 0 (by decide) (hta _ wk_149) (fun _ h9 => h9) rfl dX12_raw_57 ?_
        refine lv_sipush (v := 441) hx hb dX12_raw_60 (by decide) ?_
        refine lv_sipush (v := 300) hx hb dX12_raw_63 (by decide) ?_
        refine lv_iload_n hx hb dX12_raw_66 rfl (lv_at hl 2 rfl) ?_
        refine lv_imul hx hb dX12_raw_67 ?_
        refine lv_topi (fun z_66 ez_66 => ?_)
        try have iz_66 : z_66.toInt = (300 : Int) * p0.toInt := by rw [ez_66]; exact tl_mulN 300 p0 rfl rfl (by omega) (by omega)
        refine lv_iadd hx hb dX12_raw_68 ?_
        refine lv_topi (fun z_67 ez_67 => ?_)
        try have iz_67 : z_67.toInt = (441 : Int) + z_66.toInt := by rw [ez_67]; exact tl_addN 441 z_66 rfl rfl (by omega) (by omega)
        refine lv_iload_n hx hb dX12_raw_69 rfl (lv_at hl 3 rfl) ?_
        refine lv_iadd hx hb dX12_raw_70 ?_
        refine lv_topi (fun z_68 ez_68 => ?_)
        try have iz_68 : z_68.toInt = z_67.toInt + p1.toInt := by rw [ez_68]; exact tl_addN z_67 p1 rfl rfl (by omega) (by omega)
        refine lv_iload_n hx hb dX12_raw_71 rfl (lv_at hl 4 rfl) ?_
        have hn_69 : vp_in z_68 (7666) := tl_in (by omega) (by omega)
        have hj_70 : z_68.toNatClampNeg = (441 + 300 * p0.toInt + p1.toInt).toNat := by show z_68.toInt.toNat = _; omega
        have hv_71 : p2.toInt = p2.toInt := rfl
        obtain ⟨Γ_72, eΓ_72⟩ : ∃ y : tk_G, y = tg Γ (40, 7666, 0) ((441 + 300 * p0.toInt + p1.toInt).toNat) p2.toInt := ⟨_, rfl⟩
        have hI9 : tp_I cy L K Γ_72 (va_up f x_2 (.inl (cy 0, 7666, .inl (upd g_62 z_68.toNatClampNeg p2)))) := by rw [eΓ_72, ← hj_70, ← hv_71]; exact hI.setg hU rfl hx_2 (show tp_gi cy (7666) (tgu (Γ (40, 7666, 0)) _ _) _ from ⟨_, rfl, tp_gi_upd hg_63⟩)
        have hfr9 : ∀ b, (K b).1 ∉ ([40] : List Nat) → va_up f x_2 (.inl (cy 0, 7666, .inl (upd g_62 z_68.toNatClampNeg p2))) b = f b := tp_fr hfr hx_2 (by decide)
        refine tp_iast (cy := cy) hx hb hK hP hD hS hx_2.1 hf_61 hn_69 dX12_raw_72 (fun H locs hP hD hS => ?_)
        have hP : va_P D vwCl (va_pl L (va_up f x_2 (.inl (cy 0, 7666, .inl (upd g_62 z_68.toNatClampNeg p2))))) H := hP
        generalize hfe : va_up f x_2 (.inl (cy 0, 7666, .inl (upd g_62 z_68.toNatClampNeg p2))) = f_73 at hP hI9 hfr9
        have hD : va_D A (va_pl L f_73) := tp_D hL hAL
        have hf_74 : f_73 x_2 = .inl (cy 0, 7666, .inl (upd g_62 z_68.toNatClampNeg p2)) := by rw [← hfe]; exact va_up_self _ _ _
        clear hfe
        have hI := hI9
        have hfr := hfr9
        clear hI9 hfr9
        have wsΓ_72 : Γ_72 (40, 7666, 0) ((441 + 300 * p0.toInt + p1.toInt).toNat) = p2.toInt := by rw [eΓ_72]; exact tg_s
        have hgr : ∀ κ : tk_K, κ.1 ∉ ([40] : List Nat) → Γ_72 κ = Γ κ := tg_fr hgr eΓ_72 (by decide)
        refine lv_iload hx hb dX12_raw_73 (lv_at hl 0 rfl) ?_
        exact W.iret (v := z_65) hx hb hr (fun t ht hW => ⟨⟨_, (f_73, Γ_72), rfl, (by rw [if_pos (by omega), eΓ_72, tg_f]), by rw [ht]; exact hP, hI, hfr, hgr⟩, hS.F ht⟩) hS.2.2 dX12_raw_75
      · have c_57 : ¬ p2.toInt = (-1000000 : Int) := tl_neq c_57
        refine lv_iload_n hx hb dX12_raw_21 rfl (lv_at hl 3 rfl) ?_
        refine lv_i2l (v := p2.toInt64) hx hb dX12_raw_22 (by first | rfl | decide) ?_
        refine lv_ldc2 (v := (-100000)) hx hb hown (hta _ wk_246) dX12_raw_23 ?_
        refine lv_ldc2 (v := 100000) hx hb hown (hta _ wk_247) dX12_raw_26 ?_
        refine tl_si (tq_rS (As := [.long p2.toInt64, .long (-100000), .long 100000]) (rest := []) ⟨hx, hb, hml, hown, hta⟩ (tp_P.pre hK hN hL hU hI hP) lk_X12_112 (r_X12_in l D cy s.heap.size L K Γ f p2.toInt64 (-100000) 100000 ) rfl rfl ⟨Nat.le_of_ble_eq_true rfl, Nat.le_of_ble_eq_true rfl⟩ rfl hl.1 rfl (Nat.le_of_ble_eq_true rfl) dX12_raw_29 ⟨Nat.le_of_ble_eq_true rfl, Nat.le_of_ble_eq_true rfl⟩) (fun r_76 hw_75 => ?_)
        simp only [Int32.toInt_toInt64] at hw_75
        have hw_75 : tl_E r_76 ((-100000 : Int) ≤ p2.toInt ∧ p2.toInt ≤ (100000 : Int)) 1 0 := hw_75
        refine lv_if_ne (tgt := 38) hx hb dX12_raw_32 (by decide) (fun c_77 => ?_) (fun c_77 => ?_)
        · have c_77 := hw_75.t c_77
          refine lv_aload_n hx hb dX12_raw_38 rfl (lv_at hl 0 rfl) ?_
          refine tp_get (cy := cy) (ci := 12) (v := .ref x_2) (C := RX12) (T := TX12) (N := 49) hx hb hta inlX12 hown hK hP ho.1 hf_1 rfl 0 (by decide) (hta _ wk_149) (fun _ h9 => h9) rfl dX12_raw_39 ?_
          refine lv_sipush (v := 441) hx hb dX12_raw_42 (by decide) ?_
          refine lv_sipush (v := 300) hx hb dX12_raw_45 (by decide) ?_
          refine lv_iload_n hx hb dX12_raw_48 rfl (lv_at hl 1 rfl) ?_
          refine lv_imul hx hb dX12_raw_49 ?_
          refine lv_topi (fun z_78 ez_78 => ?_)
          try have iz_78 : z_78.toInt = (300 : Int) * p0.toInt := by rw [ez_78]; exact tl_mulN 300 p0 rfl rfl (by omega) (by omega)
          refine lv_iadd hx hb dX12_raw_50 ?_
          refine lv_topi (fun z_79 ez_79 => ?_)
          try have iz_79 : z_79.toInt = (441 : Int) + z_78.toInt := by rw [ez_79]; exact tl_addN 441 z_78 rfl rfl (by omega) (by omega)
          refine lv_iload_n hx hb dX12_raw_51 rfl (lv_at hl 2 rfl) ?_
          refine lv_iadd hx hb dX12_raw_52 ?_
          refine lv_topi (fun z_80 ez_80 => ?_)
          try have iz_80 : z_80.toInt = z_79.toInt + p1.toInt := by rw [ez_80]; exact tl_addN z_79 p1 rfl rfl (by omega) (by omega)
          obtain ⟨g_82, hf_81, hg_83⟩ := (show tp_gi cy (7666) (Γ (40, 7666, 0)) (f x_2) from hI.at hx_2)
          have hn_84 : vp_in z_80 (7666) := tl_in (by omega) (by omega)
          refine tp_iald (cy := cy) hx hb hK hP hx_2.1 hf_81 hn_84 dX12_raw_53 ?_
          refine lv_topi (fun z_85 ez_85 => ?_)
          have iz_85 : z_85.toInt = Γ (40, 7666, 0) z_80.toInt.toNat := by rw [ez_85]; exact hg_83 _ (tp_pin hn_84)
          refine lv_istore (lv' := [(4, .int z_85), (0, .ref o), (1, .int p0), (2, .int p1), (3, .int p2)]) hx hb dX12_raw_54 hl (by decide) rfl (fun ls hl => ?_)
          refine lv_aload_n hx hb dX12_raw_56 rfl (lv_at hl 1 rfl) ?_
          refine tp_get (cy := cy) (ci := 12) (v := .ref x_2) (C := RX12) (T := TX12) (N := 49) hx hb hta inlX12 hown hK hP ho.1 hf_1 rfl 0 (by decide) (hta _ wk_149) (fun _ h9 => h9) rfl dX12_raw_57 ?_
          refine lv_sipush (v := 441) hx hb dX12_raw_60 (by decide) ?_
          refine lv_sipush (v := 300) hx hb dX12_raw_63 (by decide) ?_
          refine lv_iload_n hx hb dX12_raw_66 rfl (lv_at hl 2 rfl) ?_
          refine lv_imul hx hb dX12_raw_67 ?_
          refine lv_topi (fun z_86 ez_86 => ?_)
          try have iz_86 : z_86.toInt = (300 : Int) * p0.toInt := by rw [ez_86]; exact tl_mulN 300 p0 rfl rfl (by omega) (by omega)
          refine lv_iadd hx hb dX12_raw_68 ?_
          refine lv_topi (fun z_87 ez_87 => ?_)
          try have iz_87 : z_87.toInt = (441 : Int) + z_86.toInt := by rw [ez_87]; exact tl_addN 441 z_86 rfl rfl (by omega) (by omega)
          refine lv_iload_n hx hb dX12_raw_69 rfl (lv_at hl 3 rfl) ?_
          refine lv_iadd hx hb dX12_raw_70 ?_
          refine lv_topi (fun z_88 ez_88 => ?_)
          try have iz_88 : z_88.toInt = z_87.toInt + p1.toInt := by rw [ez_88]; exact tl_addN z_87 p1 rfl rfl (by omega) (by omega)
          refine lv_iload_n hx hb dX12_raw_71 rfl (lv_at hl 4 rfl) ?_
          have hn_89 : vp_in z_88 (7666) := tl_in (by omega) (by omega)
          have hj_90 : z_88.toNatClampNeg = (441 + 300 * p0.toInt + p1.toInt).toNat := by show z_88.toInt.toNat = _; omega
          have hv_91 : p2.toInt = p2.toInt := rfl
          obtain ⟨Γ_92, eΓ_92⟩ : ∃ y : tk_G, y = tg Γ (40, 7666, 0) ((441 + 300 * p0.toInt + p1.toInt).toNat) p2.toInt := ⟨_, rfl⟩
          have hI9 : tp_I cy L K Γ_92 (va_up f x_2 (.inl (cy 0, 7666, .inl (upd g_82 z_88.toNatClampNeg p2)))) := by rw [eΓ_92, ← hj_90, ← hv_91]; exact hI.setg hU rfl hx_2 (show tp_gi cy (7666) (tgu (Γ (40, 7666, 0)) _ _) _ from ⟨_, rfl, tp_gi_upd hg_83⟩)
          have hfr9 : ∀ b, (K b).1 ∉ ([40] : List Nat) → va_up f x_2 (.inl (cy 0, 7666, .inl (upd g_82 z_88.toNatClampNeg p2))) b = f b := tp_fr hfr hx_2 (by decide)
          refine tp_iast (cy := cy) hx hb hK hP hD hS hx_2.1 hf_81 hn_89 dX12_raw_72 (fun H locs hP hD hS => ?_)
          have hP : va_P D vwCl (va_pl L (va_up f x_2 (.inl (cy 0, 7666, .inl (upd g_82 z_88.toNatClampNeg p2))))) H := hP
          generalize hfe : va_up f x_2 (.inl (cy 0, 7666, .inl (upd g_82 z_88.toNatClampNeg p2))) = f_93 at hP hI9 hfr9
          have hD : va_D A (va_pl L f_93) := tp_D hL hAL
          have hf_94 : f_93 x_2 = .inl (cy 0, 7666, .inl (upd g_82 z_88.toNatClampNeg p2)) := by rw [← hfe]; exact va_up_self _ _ _
          clear hfe
          have hI := hI9
          have hfr := hfr9
          clear hI9 hfr9
          have wsΓ_92 : Γ_92 (40, 7666, 0) ((441 + 300 * p0.toInt + p1.toInt).toNat) = p2.toInt := by rw [eΓ_92]; exact tg_s
          have hgr : ∀ κ : tk_K, κ.1 ∉ ([40] : List Nat) → Γ_92 κ = Γ κ := tg_fr hgr eΓ_92 (by decide)
          refine lv_iload hx hb dX12_raw_73 (lv_at hl 0 rfl) ?_
          exact W.iret (v := z_85) hx hb hr (fun t ht hW => ⟨⟨_, (f_93, Γ_92), rfl, (by rw [if_pos (by omega), eΓ_92, tg_f]), by rw [ht]; exact hP, hI, hfr, hgr⟩, hS.F ht⟩) hS.2.2 dX12_raw_75
        · have c_77 := hw_75.f c_77
          refine lv_ldc (v := (-2000000)) hx hb hown (hta _ wk_248) dX12_raw_35 ?_
          exact W.iret (v := (-2000000)) hx hb hr (fun t ht hW => ⟨⟨_, (f, Γ), rfl, (by rw [if_neg (by omega)]), by rw [ht]; exact hP, hI, hfr, hgr⟩, hS.F ht⟩) hS.2.2 dX12_raw_37
set_option maxHeartbeats 4000000 in
set_option maxRecDepth 100000 in
theorem r_X12_row (l : Launch) (D : va_G) (cy : Nat → ClassId) (sz : Nat) (L : List Nat) (K : Nat → tk_K) (Γ : tk_G) (f : Nat → va_E) (o : Nat) (p0 : Int32) (p1 : Int32) (ho : tp_r L K 39 (0) 0 o) (hs : (0 ≤ Γ (40, 7666, 0) 1 ∧ Γ (40, 7666, 0) 1 ≤ 24) ∧ (0 ≤ Γ (40, 7666, 0) 2 ∧ Γ (40, 7666, 0) 2 ≤ 40) ∧ (0 ≤ Γ (40, 7666, 0) 3 ∧ Γ (40, 7666, 0) 3 ≤ 60) ∧ (0 ≤ Γ (40, 7666, 0) 4 ∧ Γ (40, 7666, 0) 4 ≤ 10) ∧ (0 ≤ Γ (40, 7666, 0) 7665 ∧ Γ (40, 7666, 0) 7665 ≤ 8)) : Met l yX12_row (tl_w yX12_row cX12_row 5 (some .int)) ({ frames := 1, cells := 0, slots := 0, locals := 25 }) (va_Pc [.ref o, .int p0, .int p1] (tp_P D cy L K Γ f sz)) (va_Qi (fun (r : Int32) (u : (Nat → va_E) × tk_G) => r.toInt = (if ¬ Γ (40, 7666, 0) 1 = 24 ∧ (0 ≤ p0.toInt ∧ p0.toInt ≤ 3) ∧ 0 ≤ p1.toInt ∧ p1.toInt ≤ 999 then Γ (40, 7666, 0) 1 else -1) ∧ u.2 (40, 7666, 0) = if ¬ Γ (40, 7666, 0) 1 = 24 ∧ (0 ≤ p0.toInt ∧ p0.toInt ≤ 3) ∧ 0 ≤ p1.toInt ∧ p1.toInt ≤ 999 then tgu (tm_fill (tgu (tgu (tgu (Γ (40, 7666, 0)) (9 + 3 * Γ (40, 7666, 0) 1 + 0).toNat (p0.toInt)) (9 + 3 * Γ (40, 7666, 0) 1 + 1).toNat (p1.toInt)) (9 + 3 * Γ (40, 7666, 0) 1 + 2).toNat (Γ (40, 7666, 0) 0)) (441 + 300 * Γ (40, 7666, 0) 1).toNat (441 + 300 * Γ (40, 7666, 0) 1 + 300).toNat (-1000000)) 1 (Γ (40, 7666, 0) 1 + 1) else Γ (40, 7666, 0)) (tp_BG D cy L K Γ f [40]) (tp_A L sz)) 0 0 (tp_A L sz) := by
  refine Met.ofW (cc := cX12_row) (maxL := 5) (ret := (some .int)) (by decide) rfl ?_
  intro p e s m args below meth c s₁ B hml hv
  obtain ⟨rfl, hsz, hP, hK, hL, hI, hN, hU⟩ := hv
  have hx := B.exec
  have hb := B.bytes
  have hr := B.returns
  have hta := tl_hta (atoms_spec (ws := tl_w yX12_row cX12_row 5 (some .int)) B.pre)
  have hown : s.vm.findClass RX12 = some m.cls := findClass_of_methodNamed B.named
  have hlocks := B.notSynchronized
  subst hsz
  have hI0 := hI
  generalize hAe : tp_A L s.heap.size = A
  have hA : ∀ q : Nat, s.heap.size ≤ q → A q := fun q h => by rw [← hAe]; exact Or.inr h
  have hAL : ∀ q ∈ L, A q := fun q h => by rw [← hAe]; exact Or.inl h
  have hAf : ∀ (H : Heap), s.heap.size ≤ H.size → ∀ q, tp_A L H.size q → A q := fun H h q hq => hq.elim (hAL q) (fun h2 => hA q (Nat.le_trans h h2))
  have hS : va_S A s.heap s.heap [] := va_S.rf
  have hD : va_D A (va_pl L f) := tp_D hL hAL
  have hfr : ∀ b, (K b).1 ∉ ([40] : List Nat) → f b = f b := fun _ _ => rfl
  have hgr : ∀ κ : tk_K, κ.1 ∉ ([40] : List Nat) → Γ κ = Γ κ := fun _ _ => rfl
  have hl := lv_entry ([.ref o, .int p0, .int p1]) (n := 5) (Nat.le_of_ble_eq_true rfl)
  rw [lg_entry_eq]
  generalize (lg_sl ([.ref o, .int p0, .int p1]) ++ List.replicate (5 - (lg_sl ([.ref o, .int p0, .int p1])).length) Slot.unset).toArray = ls at hl ⊢
  have hl : lv_has ls 5 [(0, .ref o), (1, .int p0), (2, .int p1)] := hl
  refine lv_aload_n hx hb dX12_row_0 rfl (lv_at hl 0 rfl) ?_
  obtain ⟨x_2, x_3, x_4, x_5, x_6, x_7, x_8, x_9, x_10, x_11, x_12, x_13, x_14, x_15, x_16, x_17, x_18, x_19, x_20, x_21, x_22, x_23, x_24, x_25, x_26, x_27, x_28, x_29, x_30, x_31, x_32, x_33, x_34, x_35, x_36, x_37, x_38, x_39, x_40, x_41, x_42, x_43, x_44, x_45, x_46, x_47, x_48, x_49, x_50, hf_1, hx_2, hx_3, hx_4, hx_5, hx_6, hx_7, hx_8, hx_9, hx_10, hx_11, hx_12, hx_13, hx_14, hx_15, hx_16, hx_17, hx_18, hx_19, hx_20, hx_21, hx_22, hx_23, hx_24, hx_25, hx_26, hx_27, hx_28, hx_29, hx_30, hx_32, hx_33, hx_34, hx_35, hx_36, hx_37, hx_38, hx_39, hx_40, hx_41, hx_42, hx_43, hx_44, hx_45, hx_46, hx_47, hx_48, hx_49, hx_50⟩ := (show tp_o_M L K (0) 0 (Γ (39, 0, 0)) (f o) from hI0.at ho)
  refine tp_get (cy := cy) (ci := 12) (v := .ref x_2) (C := RX12) (T := TX12) (N := 49) hx hb hta inlX12 hown hK hP ho.1 hf_1 rfl 0 (by decide) (hta _ wk_149) (fun _ h9 => h9) rfl dX12_row_1 ?_
  refine lv_iconst (v := 1) hx hb dX12_row_4 (by decide) ?_
  obtain ⟨g_52, hf_51, hg_53⟩ := (show tp_gi cy (7666) (Γ (40, 7666, 0)) (f x_2) from hI.at hx_2)
  have hn_54 : vp_in 1 (7666) := tl_in (by decide) (by decide)
  refine tp_iald (cy := cy) hx hb hK hP hx_2.1 hf_51 hn_54 dX12_row_5 ?_
  refine lv_topi (fun z_55 ez_55 => ?_)
  have iz_55 : z_55.toInt = Γ (40, 7666, 0) 1 := by rw [ez_55]; exact hg_53 _ (tp_pin hn_54)
  refine lv_bipush (v := 24) hx hb dX12_row_6 (by decide) ?_
  refine lv_icmp_eq (tgt := 35) hx hb dX12_row_8 (by decide) (fun c_56 => ?_) (fun c_56 => ?_)
  · have c_56 : z_55.toInt = (24 : Int) := tl_eq c_56
    refine lv_iconst (v := (-1)) hx hb dX12_row_35 (by decide) ?_
    exact W.iret (v := (-1)) hx hb hr (fun t ht hW => ⟨⟨_, (f, Γ), rfl, ⟨(by rw [if_neg (by omega)]; rfl), (by rw [if_neg (by omega)])⟩, by rw [ht]; exact hP, hI, hfr, hgr⟩, hS.F ht⟩) hS.2.2 dX12_row_36
  · have c_56 : ¬ z_55.toInt = (24 : Int) := tl_neq c_56
    refine lv_iload_n hx hb dX12_row_11 rfl (lv_at hl 1 rfl) ?_
    refine lv_i2l (v := p0.toInt64) hx hb dX12_row_12 (by first | rfl | decide) ?_
    refine lv_lconst (v := 0) hx hb dX12_row_13 (by decide) ?_
    refine lv_ldc2 (v := 3) hx hb hown (hta _ wk_221) dX12_row_14 ?_
    refine tl_si (tq_rS (As := [.long p0.toInt64, .long 0, .long 3]) (rest := []) ⟨hx, hb, hml, hown, hta⟩ (tp_P.pre hK hN hL hU hI hP) lk_X12_112 (r_X12_in l D cy s.heap.size L K Γ f p0.toInt64 0 3 ) rfl rfl ⟨Nat.le_of_ble_eq_true rfl, Nat.le_of_ble_eq_true rfl⟩ rfl hl.1 rfl (Nat.le_of_ble_eq_true rfl) dX12_row_17 ⟨Nat.le_of_ble_eq_true rfl, Nat.le_of_ble_eq_true rfl⟩) (fun r_58 hw_57 => ?_)
    simp only [Int32.toInt_toInt64] at hw_57
    have hw_57 : tl_E r_58 ((0 : Int) ≤ p0.toInt ∧ p0.toInt ≤ (3 : Int)) 1 0 := hw_57
    refine lv_if_eq (tgt := 35) hx hb dX12_row_20 (by decide) (fun c_59 => ?_) (fun c_59 => ?_)
    · have c_59 := hw_57.f c_59
      refine lv_iconst (v := (-1)) hx hb dX12_row_35 (by decide) ?_
      exact W.iret (v := (-1)) hx hb hr (fun t ht hW => ⟨⟨_, (f, Γ), rfl, ⟨(by rw [if_neg (by omega)]; rfl), (by rw [if_neg (by omega)])⟩, by rw [ht]; exact hP, hI, hfr, hgr⟩, hS.F ht⟩) hS.2.2 dX12_row_36
    · have c_59 := hw_57.t c_59
      refine lv_iload_n hx hb dX12_row_23 rfl (lv_at hl 2 rfl) ?_
      refine lv_i2l (v := p1.toInt64) hx hb dX12_row_24 (by first | rfl | decide) ?_
      refine lv_lconst (v := 0) hx hb dX12_row_25 (by decide) ?_
      refine lv_ldc2 (v := 999) hx hb hown (hta _ wk_222) dX12_row_26 ?_
      refine tl_si (tq_rS (As := [.long p1.toInt64, .long 0, .long 999]) (rest := []) ⟨hx, hb, hml, hown, hta⟩ (tp_P.pre hK hN hL hU hI hP) lk_X12_112 (r_X12_in l D cy s.heap.size L K Γ f p1.toInt64 0 999 ) rfl rfl ⟨Nat.le_of_ble_eq_true rfl, Nat.le_of_ble_eq_true rfl⟩ rfl hl.1 rfl (Nat.le_of_ble_eq_true rfl) dX12_row_29 ⟨Nat.le_of_ble_eq_true rfl, Nat.le_of_ble_eq_true rfl⟩) (fun r_61 hw_60 => ?_)
      simp only [Int32.toInt_toInt64] at hw_60
      have hw_60 : tl_E r_61 ((0 : Int) ≤ p1.toInt ∧ p1.toInt ≤ (999 : Int)) 1 0 := hw_60
      refine lv_if_ne (tgt := 37) hx hb dX12_row_32 (by decide) (fun c_62 => ?_) (fun c_62 => ?_)
      · have c_62 := hw_60.t c_62
        refine lv_aload_n hx hb dX12_row_37 rfl (lv_at hl 0 rfl) ?_
        refine tp_get (cy := cy) (ci := 12) (v := .ref x_2) (C := RX12) (T := TX12) (N := 49) hx hb hta inlX12 hown hK hP ho.1 hf_1 rfl 0 (by decide) (hta _ wk_149) (fun _ h9 => h9) rfl dX12_row_38 ?_
        refine lv_iconst (v := 1) hx hb dX12_row_41 (by decide) ?_
        have hn_63 : vp_in 1 (7666) := tl_in (by decide) (by decide)
        refine tp_iald (cy := cy) hx hb hK hP hx_2.1 hf_51 hn_63 dX12_row_42 ?_
        refine lv_topi (fun z_64 ez_64 => ?_)
        obtain rfl : z_55 = z_64 := ez_55.trans ez_64.symm
        refine lv_istore_n (lv' := [(3, .int z_55), (0, .ref o), (1, .int p0), (2, .int p1)]) hx hb dX12_row_43 rfl hl (by decide) rfl (fun ls hl => ?_)
        refine lv_aload_n hx hb dX12_row_44 rfl (lv_at hl 1 rfl) ?_
        refine tp_get (cy := cy) (ci := 12) (v := .ref x_2) (C := RX12) (T := TX12) (N := 49) hx hb hta inlX12 hown hK hP ho.1 hf_1 rfl 0 (by decide) (hta _ wk_149) (fun _ h9 => h9) rfl dX12_row_45 ?_
        refine lv_bipush (v := 9) hx hb dX12_row_48 (by decide) ?_
        refine lv_iconst (v := 3) hx hb dX12_row_50 (by decide) ?_
        refine lv_iload_n hx hb dX12_row_51 rfl (lv_at hl 0 rfl) ?_
        refine lv_imul hx hb dX12_row_52 ?_
        refine lv_topi (fun z_65 ez_65 => ?_)
        try have iz_65 : z_65.toInt = (3 : Int) * z_55.toInt := by rw [ez_65]; exact tl_mulN 3 z_55 rfl rfl (by omega) (by omega)
        refine lv_iadd hx hb dX12_row_53 ?_
        refine lv_topi (fun z_66 ez_66 => ?_)
        try have iz_66 : z_66.toInt = (9 : Int) + z_65.toInt := by rw [ez_66]; exact tl_addN 9 z_65 rfl rfl (by omega) (by omega)
        refine lv_iload_n hx hb dX12_row_54 rfl (lv_at hl 2 rfl) ?_
        have hn_67 : vp_in z_66 (7666) := tl_in (by omega) (by omega)
        have hj_68 : z_66.toNatClampNeg = (9 + 3 * Γ (40, 7666, 0) 1 + 0).toNat := by show z_66.toInt.toNat = _; omega
        have hv_69 : p0.toInt = p0.toInt := by omega
        obtain ⟨Γ_70, eΓ_70⟩ : ∃ y : tk_G, y = tg Γ (40, 7666, 0) ((9 + 3 * Γ (40, 7666, 0) 1 + 0).toNat) p0.toInt := ⟨_, rfl⟩
        have hI9 : tp_I cy L K Γ_70 (va_up f x_2 (.inl (cy 0, 7666, .inl (upd g_52 z_66.toNatClampNeg p0)))) := by rw [eΓ_70, ← hj_68, ← hv_69]; exact hI.setg hU rfl hx_2 (show tp_gi cy (7666) (tgu (Γ (40, 7666, 0)) _ _) _ from ⟨_, rfl, tp_gi_upd hg_53⟩)
        have hfr9 : ∀ b, (K b).1 ∉ ([40] : List Nat) → va_up f x_2 (.inl (cy 0, 7666, .inl (upd g_52 z_66.toNatClampNeg p0))) b = f b := tp_fr hfr hx_2 (by decide)
        refine tp_iast (cy := cy) hx hb hK hP hD hS hx_2.1 hf_51 hn_67 dX12_row_55 (fun H locs hP hD hS => ?_)
        have hP : va_P D vwCl (va_pl L (va_up f x_2 (.inl (cy 0, 7666, .inl (upd g_52 z_66.toNatClampNeg p0))))) H := hP
        generalize hfe : va_up f x_2 (.inl (cy 0, 7666, .inl (upd g_52 z_66.toNatClampNeg p0))) = f_71 at hP hI9 hfr9
        have hD : va_D A (va_pl L f_71) := tp_D hL hAL
        have hf_72 : f_71 x_2 = .inl (cy 0, 7666, .inl (upd g_52 z_66.toNatClampNeg p0)) := by rw [← hfe]; exact va_up_self _ _ _
        clear hfe
        have hI := hI9
        have hfr := hfr9
        clear hI9 hfr9
        have wtΓ_70_0 : Γ_70 (40, 7666, 0) 0 = Γ (40, 7666, 0) 0 := by rw [eΓ_70]; exact tg_i (by omega)
        have wtΓ_70_1 : Γ_70 (40, 7666, 0) 1 = Γ (40, 7666, 0) 1 := by rw [eΓ_70]; exact tg_i (by omega)
        have wsΓ_70 : Γ_70 (40, 7666, 0) ((9 + 3 * Γ (40, 7666, 0) 1 + 0).toNat) = p0.toInt := by rw [eΓ_70]; exact tg_s
        have hgr : ∀ κ : tk_K, κ.1 ∉ ([40] : List Nat) → Γ_70 κ = Γ κ := tg_fr hgr eΓ_70 (by decide)
        refine lv_aload_n hx hb dX12_row_56 rfl (lv_at hl 1 rfl) ?_
        refine tp_get (cy := cy) (ci := 12) (v := .ref x_2) (C := RX12) (T := TX12) (N := 49) hx hb hta inlX12 hown hK hP ho.1 ((tp_un hfr ho (by decide)).trans hf_1) rfl 0 (by decide) (hta _ wk_149) (fun _ h9 => h9) rfl dX12_row_57 ?_
        refine lv_bipush (v := 9) hx hb dX12_row_60 (by decide) ?_
        refine lv_iconst (v := 3) hx hb dX12_row_62 (by decide) ?_
        refine lv_iload_n hx hb dX12_row_63 rfl (lv_at hl 0 rfl) ?_
        refine lv_imul hx hb dX12_row_64 ?_
        refine lv_topi (fun z_73 ez_73 => ?_)
        try have iz_73 : z_73.toInt = (3 : Int) * z_55.toInt := by rw [ez_73]; exact tl_mulN 3 z_55 rfl rfl (by omega) (by omega)
        refine lv_iadd hx hb dX12_row_65 ?_
        refine lv_topi (fun z_74 ez_74 => ?_)
        try have iz_74 : z_74.toInt = (9 : Int) + z_73.toInt := by rw [ez_74]; exact tl_addN 9 z_73 rfl rfl (by omega) (by omega)
        refine lv_iconst (v := 1) hx hb dX12_row_66 (by decide) ?_
        refine lv_iadd hx hb dX12_row_67 ?_
        refine lv_topi (fun z_75 ez_75 => ?_)
        try have iz_75 : z_75.toInt = z_74.toInt + (1 : Int) := by rw [ez_75]; exact tl_addN z_74 1 rfl rfl (by omega) (by omega)
        refine lv_iload_n hx hb dX12_row_68 rfl (lv_at hl 3 rfl) ?_
        obtain ⟨g_77, hf_76, hg_78⟩ := (show tp_gi cy (7666) (Γ_70 (40, 7666, 0)) (f_71 x_2) from hI.at hx_2)
        have hn_79 : vp_in z_75 (7666) := tl_in (by omega) (by omega)
        have hj_80 : z_75.toNatClampNeg = (9 + 3 * Γ (40, 7666, 0) 1 + 1).toNat := by show z_75.toInt.toNat = _; omega
        have hv_81 : p1.toInt = p1.toInt := by omega
        obtain ⟨Γ_82, eΓ_82⟩ : ∃ y : tk_G, y = tg Γ_70 (40, 7666, 0) ((9 + 3 * Γ (40, 7666, 0) 1 + 1).toNat) p1.toInt := ⟨_, rfl⟩
        have hI9 : tp_I cy L K Γ_82 (va_up f_71 x_2 (.inl (cy 0, 7666, .inl (upd g_77 z_75.toNatClampNeg p1)))) := by rw [eΓ_82, ← hj_80, ← hv_81]; exact hI.setg hU rfl hx_2 (show tp_gi cy (7666) (tgu (Γ_70 (40, 7666, 0)) _ _) _ from ⟨_, rfl, tp_gi_upd hg_78⟩)
        have hfr9 : ∀ b, (K b).1 ∉ ([40] : List Nat) → va_up f_71 x_2 (.inl (cy 0, 7666, .inl (upd g_77 z_75.toNatClampNeg p1))) b = f b := tp_fr hfr hx_2 (by decide)
        refine tp_iast (cy := cy) hx hb hK hP hD hS hx_2.1 hf_76 hn_79 dX12_row_69 (fun H locs hP hD hS => ?_)
        have hP : va_P D vwCl (va_pl L (va_up f_71 x_2 (.inl (cy 0, 7666, .inl (upd g_77 z_75.toNatClampNeg p1))))) H := hP
        generalize hfe : va_up f_71 x_2 (.inl (cy 0, 7666, .inl (upd g_77 z_75.toNatClampNeg p1))) = f_83 at hP hI9 hfr9
        have hD : va_D A (va_pl L f_83) := tp_D hL hAL
        have hf_84 : f_83 x_2 = .inl (cy 0, 7666, .inl (upd g_77 z_75.toNatClampNeg p1)) := by rw [← hfe]; exact va_up_self _ _ _
        clear hfe
        have hI := hI9
        have hfr := hfr9
        clear hI9 hfr9
        have wtΓ_82_0 : Γ_82 (40, 7666, 0) 0 = Γ_70 (40, 7666, 0) 0 := by rw [eΓ_82]; exact tg_i (by omega)
        have wtΓ_82_1 : Γ_82 (40, 7666, 0) 1 = Γ_70 (40, 7666, 0) 1 := by rw [eΓ_82]; exact tg_i (by omega)
        have wsΓ_82 : Γ_82 (40, 7666, 0) ((9 + 3 * Γ (40, 7666, 0) 1 + 1).toNat) = p1.toInt := by rw [eΓ_82]; exact tg_s
        have hgr : ∀ κ : tk_K, κ.1 ∉ ([40] : List Nat) → Γ_82 κ = Γ κ := tg_fr hgr eΓ_82 (by decide)
        refine lv_aload_n hx hb dX12_row_70 rfl (lv_at hl 1 rfl) ?_
        refine tp_get (cy := cy) (ci := 12) (v := .ref x_2) (C := RX12) (T := TX12) (N := 49) hx hb hta inlX12 hown hK hP ho.1 ((tp_un hfr ho (by decide)).trans hf_1) rfl 0 (by decide) (hta _ wk_149) (fun _ h9 => h9) rfl dX12_row_71 ?_
        refine lv_bipush (v := 9) hx hb dX12_row_74 (by decide) ?_
        refine lv_iconst (v := 3) hx hb dX12_row_76 (by decide) ?_
        refine lv_iload_n hx hb dX12_row_77 rfl (lv_at hl 0 rfl) ?_
        refine lv_imul hx hb dX12_row_78 ?_
        refine lv_topi (fun z_85 ez_85 => ?_)
        try have iz_85 : z_85.toInt = (3 : Int) * z_55.toInt := by rw [ez_85]; exact tl_mulN 3 z_55 rfl rfl (by omega) (by omega)
        refine lv_iadd hx hb dX12_row_79 ?_
        refine lv_topi (fun z_86 ez_86 => ?_)
        try have iz_86 : z_86.toInt = (9 : Int) + z_85.toInt := by rw [ez_86]; exact tl_addN 9 z_85 rfl rfl (by omega) (by omega)
        refine lv_iconst (v := 2) hx hb dX12_row_80 (by decide) ?_
        refine lv_iadd hx hb dX12_row_81 ?_
        refine lv_topi (fun z_87 ez_87 => ?_)
        try have iz_87 : z_87.toInt = z_86.toInt + (2 : Int) := by rw [ez_87]; exact tl_addN z_86 2 rfl rfl (by omega) (by omega)
        refine lv_aload_n hx hb dX12_row_82 rfl (lv_at hl 1 rfl) ?_
        refine tp_get (cy := cy) (ci := 12) (v := .ref x_2) (C := RX12) (T := TX12) (N := 49) hx hb hta inlX12 hown hK hP ho.1 ((tp_un hfr ho (by decide)).trans hf_1) rfl 0 (by decide) (hta _ wk_149) (fun _ h9 => h9) rfl dX12_row_83 ?_
        refine lv_iconst (v := 0) hx hb dX12_row_86 (by decide) ?_
        obtain ⟨g_89, hf_88, hg_90⟩ := (show tp_gi cy (7666) (Γ_82 (40, 7666, 0)) (f_83 x_2) from hI.at hx_2)
        have hn_91 : vp_in 0 (7666) := tl_in (by decide) (by decide)
        refine tp_iald (cy := cy) hx hb hK hP hx_2.1 hf_88 hn_91 dX12_row_87 ?_
        refine lv_topi (fun z_92 ez_92 => ?_)
        have iz_92 : z_92.toInt = Γ_82 (40, 7666, 0) 0 := by rw [ez_92]; exact hg_90 _ (tp_pin hn_91)
        have hn_93 : vp_in z_87 (7666) := tl_in (by omega) (by omega)
        have hj_94 : z_87.toNatClampNeg = (9 + 3 * Γ (40, 7666, 0) 1 + 2).toNat := by show z_87.toInt.toNat = _; omega
        have hv_95 : z_92.toInt = Γ (40, 7666, 0) 0 := by omega
        obtain ⟨Γ_96, eΓ_96⟩ : ∃ y : tk_G, y = tg Γ_82 (40, 7666, 0) ((9 + 3 * Γ (40, 7666, 0) 1 + 2).toNat) (Γ (40, 7666, 0) 0) := ⟨_, rfl⟩
        have hI9 : tp_I cy L K Γ_96 (va_up f_83 x_2 (.inl (cy 0, 7666, .inl (upd g_89 z_87.toNatClampNeg z_92)))) := by rw [eΓ_96, ← hj_94, ← hv_95]; exact hI.setg hU rfl hx_2 (show tp_gi cy (7666) (tgu (Γ_82 (40, 7666, 0)) _ _) _ from ⟨_, rfl, tp_gi_upd hg_90⟩)
        have hfr9 : ∀ b, (K b).1 ∉ ([40] : List Nat) → va_up f_83 x_2 (.inl (cy 0, 7666, .inl (upd g_89 z_87.toNatClampNeg z_92))) b = f b := tp_fr hfr hx_2 (by decide)
        refine tp_iast (cy := cy) hx hb hK hP hD hS hx_2.1 hf_88 hn_93 dX12_row_88 (fun H locs hP hD hS => ?_)
        have hP : va_P D vwCl (va_pl L (va_up f_83 x_2 (.inl (cy 0, 7666, .inl (upd g_89 z_87.toNatClampNeg z_92))))) H := hP
        generalize hfe : va_up f_83 x_2 (.inl (cy 0, 7666, .inl (upd g_89 z_87.toNatClampNeg z_92))) = f_97 at hP hI9 hfr9
        have hD : va_D A (va_pl L f_97) := tp_D hL hAL
        have hf_98 : f_97 x_2 = .inl (cy 0, 7666, .inl (upd g_89 z_87.toNatClampNeg z_92)) := by rw [← hfe]; exact va_up_self _ _ _
        clear hfe
        have hI := hI9
        have hfr := hfr9
        clear hI9 hfr9
        have wtΓ_96_0 : Γ_96 (40, 7666, 0) 0 = Γ_82 (40, 7666, 0) 0 := by rw [eΓ_96]; exact tg_i (by omega)
        have wtΓ_96_1 : Γ_96 (40, 7666, 0) 1 = Γ_82 (40, 7666, 0) 1 := by rw [eΓ_96]; exact tg_i (by omega)
        have wsΓ_96 : Γ_96 (40, 7666, 0) ((9 + 3 * Γ (40, 7666, 0) 1 + 2).toNat) = Γ (40, 7666, 0) 0 := by rw [eΓ_96]; exact tg_s
        have hgr : ∀ κ : tk_K, κ.1 ∉ ([40] : List Nat) → Γ_96 κ = Γ κ := tg_fr hgr eΓ_96 (by decide)
        refine lv_iconst (v := 0) hx hb dX12_row_89 (by decide) ?_
        refine lv_istore (lv' := [(4, .int 0), (3, .int z_55), (0, .ref o), (1, .int p0), (2, .int p1)]) hx hb dX12_row_90 hl (by decide) rfl (fun ls hl => ?_)
        refine tl_ind (G := fun H locs ls => W p l e ((headSpec (tl_w yX12_row cX12_row 5 (some .int)) ({ frames := 1, cells := 0, slots := 0, locals := 25 })).room) s m #[.ref o, .int p0, .int p1] below meth c H locs 0 0 (MQ below (va_Qi (fun (r : Int32) (u : (Nat → va_E) × tk_G) => r.toInt = (if ¬ Γ (40, 7666, 0) 1 = 24 ∧ (0 ≤ p0.toInt ∧ p0.toInt ≤ 3) ∧ 0 ≤ p1.toInt ∧ p1.toInt ≤ 999 then Γ (40, 7666, 0) 1 else -1) ∧ u.2 (40, 7666, 0) = if ¬ Γ (40, 7666, 0) 1 = 24 ∧ (0 ≤ p0.toInt ∧ p0.toInt ≤ 3) ∧ 0 ≤ p1.toInt ∧ p1.toInt ≤ 999 then tgu (tm_fill (tgu (tgu (tgu (Γ (40, 7666, 0)) (9 + 3 * Γ (40, 7666, 0) 1 + 0).toNat (p0.toInt)) (9 + 3 * Γ (40, 7666, 0) 1 + 1).toNat (p1.toInt)) (9 + 3 * Γ (40, 7666, 0) 1 + 2).toNat (Γ (40, 7666, 0) 0)) (441 + 300 * Γ (40, 7666, 0) 1).toNat (441 + 300 * Γ (40, 7666, 0) 1 + 300).toNat (-1000000)) 1 (Γ (40, 7666, 0) 1 + 1) else Γ (40, 7666, 0)) (tp_BG D cy L K Γ f [40]) A) #[.ref o, .int p0, .int p1] s 0 0 A) (F0 m 92 ls [])) (α := (Nat → va_E) × tk_G × Int32) (fun aq => (300 - aq.2.2.toInt).toNat) (fun aq H locs ls => (0 ≤ aq.2.2.toInt) ∧ (aq.2.2.toInt ≤ 300) ∧ (aq.2.1 (40, 7666, 0) 1 = Γ (40, 7666, 0) 1) ∧ (aq.2.1 (40, 7666, 0) = tm_fill (tgu (tgu (tgu (Γ (40, 7666, 0)) (9 + 3 * Γ (40, 7666, 0) 1 + 0).toNat (p0.toInt)) (9 + 3 * Γ (40, 7666, 0) 1 + 1).toNat (p1.toInt)) (9 + 3 * Γ (40, 7666, 0) 1 + 2).toNat (Γ (40, 7666, 0) 0)) (441 + 300 * Γ (40, 7666, 0) 1).toNat (441 + 300 * Γ (40, 7666, 0) 1 + aq.2.2.toInt).toNat (-1000000)) ∧ va_P D vwCl (va_pl L aq.1) H ∧ tp_I cy L K aq.2.1 aq.1 ∧ (∀ b, (K b).1 ∉ ([40] : List Nat) → aq.1 b = f b) ∧ (∀ κ : tk_K, κ.1 ∉ ([40] : List Nat) → aq.2.1 κ = Γ κ) ∧ va_S A s.heap H locs ∧ lv_has ls 5 [(4, .int aq.2.2), (3, .int z_55), (0, .ref o), (1, .int p0), (2, .int p1)]) ?_ (f_97, Γ_96, (0 : Int32)) H locs ls ⟨(show 0 ≤ (0 : Int) from (by omega)), (show (0 : Int) ≤ 300 from (by omega)), (show Γ_96 (40, 7666, 0) 1 = Γ (40, 7666, 0) 1 from (by omega)), (show Γ_96 (40, 7666, 0) = tm_fill (tgu (tgu (tgu (Γ (40, 7666, 0)) (9 + 3 * Γ (40, 7666, 0) 1 + 0).toNat (p0.toInt)) (9 + 3 * Γ (40, 7666, 0) 1 + 1).toNat (p1.toInt)) (9 + 3 * Γ (40, 7666, 0) 1 + 2).toNat (Γ (40, 7666, 0) 0)) (441 + 300 * Γ (40, 7666, 0) 1).toNat (441 + 300 * Γ (40, 7666, 0) 1 + (0 : Int)).toNat (-1000000) from (by rw [tm_fill0 (by omega), eΓ_96, tg_f, eΓ_82, tg_f, eΓ_70, tg_f])), hP, hI, hfr, hgr, hS, lv_sub hl [0, 1, 2, 3, 4] rfl⟩
        rintro ⟨f_99, Γ_100, v4⟩ H locs ls ⟨h0, h1, hw1, hfl, hP, hI, hfr, hgr, hS, hl⟩ ih92
        have hgr : ∀ κ : tk_K, κ.1 ∉ ([40] : List Nat) → Γ_100 κ = Γ κ := hgr
        have hP : va_P D vwCl (va_pl L f_99) H := hP
        have hI : tp_I cy L K Γ_100 f_99 := hI
        have hfr : ∀ b, (K b).1 ∉ ([40] : List Nat) → f_99 b = f b := hfr
        have hD : va_D A (va_pl L f_99) := tp_D hL hAL
        have h0 : 0 ≤ v4.toInt := h0
        have h1 : v4.toInt ≤ 300 := h1
        have hw1 : Γ_100 (40, 7666, 0) 1 = Γ (40, 7666, 0) 1 := hw1
        have hfl : Γ_100 (40, 7666, 0) = tm_fill (tgu (tgu (tgu (Γ (40, 7666, 0)) (9 + 3 * Γ (40, 7666, 0) 1 + 0).toNat (p0.toInt)) (9 + 3 * Γ (40, 7666, 0) 1 + 1).toNat (p1.toInt)) (9 + 3 * Γ (40, 7666, 0) 1 + 2).toNat (Γ (40, 7666, 0) 0)) (441 + 300 * Γ (40, 7666, 0) 1).toNat (441 + 300 * Γ (40, 7666, 0) 1 + v4.toInt).toNat (-1000000) := hfl
        have hl : lv_has ls 5 [(4, .int v4), (3, .int z_55), (0, .ref o), (1, .int p0), (2, .int p1)] := hl
        refine lv_iload hx hb dX12_row_92 (lv_at hl 0 rfl) ?_
        refine lv_sipush (v := 300) hx hb dX12_row_94 (by decide) ?_
        refine lv_icmp_ge (tgt := 125) hx hb dX12_row_97 (by decide) (fun c_101 => ?_) (fun c_101 => ?_)
        · have c_101 : (300 : Int) ≤ v4.toInt := tl_le c_101
          refine lv_aload_n hx hb dX12_row_125 rfl (lv_at hl 2 rfl) ?_
          refine tp_get (cy := cy) (ci := 12) (v := .ref x_2) (C := RX12) (T := TX12) (N := 49) hx hb hta inlX12 hown hK hP ho.1 ((tp_un hfr ho (by decide)).trans hf_1) rfl 0 (by decide) (hta _ wk_149) (fun _ h9 => h9) rfl dX12_row_126 ?_
          refine lv_iconst (v := 1) hx hb dX12_row_129 (by decide) ?_
          refine lv_dup2_11 hx hb dX12_row_130 rfl rfl ?_
          obtain ⟨g_103, hf_102, hg_104⟩ := (show tp_gi cy (7666) (Γ_100 (40, 7666, 0)) (f_99 x_2) from hI.at hx_2)
          have hn_105 : vp_in 1 (7666) := tl_in (by decide) (by decide)
          refine tp_iald (cy := cy) hx hb hK hP hx_2.1 hf_102 hn_105 dX12_row_131 ?_
          refine lv_topi (fun z_106 ez_106 => ?_)
          have iz_106 : z_106.toInt = Γ_100 (40, 7666, 0) 1 := by rw [ez_106]; exact hg_104 _ (tp_pin hn_105)
          refine lv_iconst (v := 1) hx hb dX12_row_132 (by decide) ?_
          refine lv_iadd hx hb dX12_row_133 ?_
          refine lv_topi (fun z_107 ez_107 => ?_)
          try have iz_107 : z_107.toInt = z_106.toInt + (1 : Int) := by rw [ez_107]; exact tl_addN z_106 1 rfl rfl (by omega) (by omega)
          have hn_108 : vp_in 1 (7666) := tl_in (by decide) (by decide)
          have hj_109 : (1 : Int32).toNatClampNeg = 1 := by decide
          have hv_110 : z_107.toInt = Γ (40, 7666, 0) 1 + 1 := by omega
          obtain ⟨Γ_111, eΓ_111⟩ : ∃ y : tk_G, y = tg Γ_100 (40, 7666, 0) 1 (Γ (40, 7666, 0) 1 + 1) := ⟨_, rfl⟩
          have hI9 : tp_I cy L K Γ_111 (va_up f_99 x_2 (.inl (cy 0, 7666, .inl (upd g_103 (1 : Int32).toNatClampNeg z_107)))) := by rw [eΓ_111, ← hj_109, ← hv_110]; exact hI.setg hU rfl hx_2 (show tp_gi cy (7666) (tgu (Γ_100 (40, 7666, 0)) _ _) _ from ⟨_, rfl, tp_gi_upd hg_104⟩)
          have hfr9 : ∀ b, (K b).1 ∉ ([40] : List Nat) → va_up f_99 x_2 (.inl (cy 0, 7666, .inl (upd g_103 (1 : Int32).toNatClampNeg z_107))) b = f b := tp_fr hfr hx_2 (by decide)
          refine tp_iast (cy := cy) hx hb hK hP hD hS hx_2.1 hf_102 hn_108 dX12_row_134 (fun H locs hP hD hS => ?_)
          have hP : va_P D vwCl (va_pl L (va_up f_99 x_2 (.inl (cy 0, 7666, .inl (upd g_103 (1 : Int32).toNatClampNeg z_107))))) H := hP
          generalize hfe : va_up f_99 x_2 (.inl (cy 0, 7666, .inl (upd g_103 (1 : Int32).toNatClampNeg z_107))) = f_112 at hP hI9 hfr9
          have hD : va_D A (va_pl L f_112) := tp_D hL hAL
          have hf_113 : f_112 x_2 = .inl (cy 0, 7666, .inl (upd g_103 (1 : Int32).toNatClampNeg z_107)) := by rw [← hfe]; exact va_up_self _ _ _
          clear hfe
          have hI := hI9
          have hfr := hfr9
          clear hI9 hfr9
          have wtΓ_111_0 : Γ_111 (40, 7666, 0) 0 = Γ_100 (40, 7666, 0) 0 := by rw [eΓ_111]; exact tg_i (by omega)
          have wsΓ_111 : Γ_111 (40, 7666, 0) 1 = Γ (40, 7666, 0) 1 + 1 := by rw [eΓ_111]; exact tg_s
          have hgr : ∀ κ : tk_K, κ.1 ∉ ([40] : List Nat) → Γ_111 κ = Γ κ := tg_fr hgr eΓ_111 (by decide)
          refine lv_iload_n hx hb dX12_row_135 rfl (lv_at hl 1 rfl) ?_
          exact W.iret (v := z_55) hx hb hr (fun t ht hW => ⟨⟨_, (f_112, Γ_111), rfl, ⟨(by rw [if_pos (by omega)]; omega), (by rw [if_pos (by omega), eΓ_111, tg_f, hfl, show v4.toInt = 300 from by omega])⟩, by rw [ht]; exact hP, hI, hfr, hgr⟩, hS.F ht⟩) hS.2.2 dX12_row_136
        · have c_101 : v4.toInt < (300 : Int) := tl_nle c_101
          refine lv_aload_n hx hb dX12_row_100 rfl (lv_at hl 2 rfl) ?_
          refine tp_get (cy := cy) (ci := 12) (v := .ref x_2) (C := RX12) (T := TX12) (N := 49) hx hb hta inlX12 hown hK hP ho.1 ((tp_un hfr ho (by decide)).trans hf_1) rfl 0 (by decide) (hta _ wk_149) (fun _ h9 => h9) rfl dX12_row_101 ?_
          refine lv_sipush (v := 441) hx hb dX12_row_104 (by decide) ?_
          refine lv_sipush (v := 300) hx hb dX12_row_107 (by decide) ?_
          refine lv_iload_n hx hb dX12_row_110 rfl (lv_at hl 1 rfl) ?_
          refine lv_imul hx hb dX12_row_111 ?_
          refine lv_topi (fun z_114 ez_114 => ?_)
          try have iz_114 : z_114.toInt = (300 : Int) * z_55.toInt := by rw [ez_114]; exact tl_mulN 300 z_55 rfl rfl (by omega) (by omega)
          refine lv_iadd hx hb dX12_row_112 ?_
          refine lv_topi (fun z_115 ez_115 => ?_)
          try have iz_115 : z_115.toInt = (441 : Int) + z_114.toInt := by rw [ez_115]; exact tl_addN 441 z_114 rfl rfl (by omega) (by omega)
          refine lv_iload hx hb dX12_row_113 (lv_at hl 0 rfl) ?_
          refine lv_iadd hx hb dX12_row_115 ?_
          refine lv_topi (fun z_116 ez_116 => ?_)
          try have iz_116 : z_116.toInt = z_115.toInt + v4.toInt := by rw [ez_116]; exact tl_addN z_115 v4 rfl rfl (by omega) (by omega)
          refine lv_ldc (v := (-1000000)) hx hb hown (hta _ wk_182) dX12_row_116 ?_
          obtain ⟨g_118, hf_117, hg_119⟩ := (show tp_gi cy (7666) (Γ_100 (40, 7666, 0)) (f_99 x_2) from hI.at hx_2)
          have hn_120 : vp_in z_116 (7666) := tl_in (by omega) (by omega)
          have hj_121 : z_116.toNatClampNeg = (441 + 300 * Γ (40, 7666, 0) 1 + v4.toInt).toNat := by show z_116.toInt.toNat = _; omega
          have hv_122 : ((-1000000) : Int32).toInt = (-1000000 : Int) := by decide
          obtain ⟨Γ_123, eΓ_123⟩ : ∃ y : tk_G, y = tg Γ_100 (40, 7666, 0) ((441 + 300 * Γ (40, 7666, 0) 1 + v4.toInt).toNat) (-1000000 : Int) := ⟨_, rfl⟩
          have hI9 : tp_I cy L K Γ_123 (va_up f_99 x_2 (.inl (cy 0, 7666, .inl (upd g_118 z_116.toNatClampNeg (-1000000))))) := by rw [eΓ_123, ← hj_121, ← hv_122]; exact hI.setg hU rfl hx_2 (show tp_gi cy (7666) (tgu (Γ_100 (40, 7666, 0)) _ _) _ from ⟨_, rfl, tp_gi_upd hg_119⟩)
          have hfr9 : ∀ b, (K b).1 ∉ ([40] : List Nat) → va_up f_99 x_2 (.inl (cy 0, 7666, .inl (upd g_118 z_116.toNatClampNeg (-1000000)))) b = f b := tp_fr hfr hx_2 (by decide)
          refine tp_iast (cy := cy) hx hb hK hP hD hS hx_2.1 hf_117 hn_120 dX12_row_118 (fun H locs hP hD hS => ?_)
          have hP : va_P D vwCl (va_pl L (va_up f_99 x_2 (.inl (cy 0, 7666, .inl (upd g_118 z_116.toNatClampNeg (-1000000)))))) H := hP
          generalize hfe : va_up f_99 x_2 (.inl (cy 0, 7666, .inl (upd g_118 z_116.toNatClampNeg (-1000000)))) = f_124 at hP hI9 hfr9
          have hD : va_D A (va_pl L f_124) := tp_D hL hAL
          have hf_125 : f_124 x_2 = .inl (cy 0, 7666, .inl (upd g_118 z_116.toNatClampNeg (-1000000))) := by rw [← hfe]; exact va_up_self _ _ _
          clear hfe
          have hI := hI9
          have hfr := hfr9
          clear hI9 hfr9
          have wtΓ_123_0 : Γ_123 (40, 7666, 0) 0 = Γ_100 (40, 7666, 0) 0 := by rw [eΓ_123]; exact tg_i (by omega)
          have wtΓ_123_1 : Γ_123 (40, 7666, 0) 1 = Γ_100 (40, 7666, 0) 1 := by rw [eΓ_123]; exact tg_i (by omega)
          have wsΓ_123 : Γ_123 (40, 7666, 0) ((441 + 300 * Γ (40, 7666, 0) 1 + v4.toInt).toNat) = (-1000000 : Int) := by rw [eΓ_123]; exact tg_s
          have hgr : ∀ κ : tk_K, κ.1 ∉ ([40] : List Nat) → Γ_123 κ = Γ κ := tg_fr hgr eΓ_123 (by decide)
          obtain ⟨z_126, ez_126⟩ : ∃ y : Int32, y = v4 + 1 := ⟨_, rfl⟩
          refine lv_iinc (v := z_126) (lv' := [(4, .int z_126), (3, .int z_55), (0, .ref o), (1, .int p0), (2, .int p1)]) hx hb dX12_row_119 hl (k := 0) rfl (by rw [ez_126]; rfl) (by decide) rfl (fun ls hl => ?_)
          try have iz_126 : z_126.toInt = v4.toInt + 1 := by rw [ez_126]; exact tl_addL v4 1 (by decide) (by omega) (by omega)
          refine lv_goto (tgt := 92) hx hb dX12_row_122 (by decide) ?_
          exact ih92 (f_124, Γ_123, z_126) H locs ls (by show (300 - z_126.toInt).toNat < (300 - v4.toInt).toNat; omega) ⟨(show 0 ≤ z_126.toInt from (by omega)), (show z_126.toInt ≤ 300 from (by omega)), (show Γ_123 (40, 7666, 0) 1 = Γ (40, 7666, 0) 1 from (by omega)), (show Γ_123 (40, 7666, 0) = tm_fill (tgu (tgu (tgu (Γ (40, 7666, 0)) (9 + 3 * Γ (40, 7666, 0) 1 + 0).toNat (p0.toInt)) (9 + 3 * Γ (40, 7666, 0) 1 + 1).toNat (p1.toInt)) (9 + 3 * Γ (40, 7666, 0) 1 + 2).toNat (Γ (40, 7666, 0) 0)) (441 + 300 * Γ (40, 7666, 0) 1).toNat (441 + 300 * Γ (40, 7666, 0) 1 + z_126.toInt).toNat (-1000000) from (by rw [eΓ_123, tg_f, hfl]; exact tm_fill1 (by omega) (by omega))), hP, hI, hfr, hgr, hS, lv_sub hl [0, 1, 2, 3, 4] rfl⟩
      · have c_62 := hw_60.f c_62
        refine lv_iconst (v := (-1)) hx hb dX12_row_35 (by decide) ?_
        exact W.iret (v := (-1)) hx hb hr (fun t ht hW => ⟨⟨_, (f, Γ), rfl, ⟨(by rw [if_neg (by omega)]; rfl), (by rw [if_neg (by omega)])⟩, by rw [ht]; exact hP, hI, hfr, hgr⟩, hS.F ht⟩) hS.2.2 dX12_row_36
set_option maxHeartbeats 4000000 in
set_option maxRecDepth 100000 in
theorem r_X12_image (l : Launch) (D : va_G) (cy : Nat → ClassId) (sz : Nat) (L : List Nat) (K : Nat → tk_K) (Γ : tk_G) (f : Nat → va_E) (o : Nat) (p0 : Int32) (ho : tp_r L K 39 (0) 0 o) : Met l yX12_image (tl_w yX12_image cX12_image 3 (some .int)) ({ frames := 1, cells := 0, slots := 0, locals := 25 }) (va_Pc [.ref o, .int p0] (tp_P D cy L K Γ f sz)) (va_Qi (fun (r : Int32) (u : (Nat → va_E) × tk_G) => r.toInt = (if 0 ≤ p0.toInt ∧ p0.toInt ≤ 3 then Γ (40, 7666, 0) 1 else -1) ∧ (u.2 (71, 4, 0) = if 0 ≤ p0.toInt ∧ p0.toInt ≤ 3 then tgu (Γ (71, 4, 0)) p0.toInt.toNat 1 else Γ (71, 4, 0)) ∧ u.2 (70, 30664, 0) = if 0 ≤ p0.toInt ∧ p0.toInt ≤ 3 then tm_cp (Γ (70, 30664, 0)) (Γ (40, 7666, 0)) (7666 * p0.toInt).toNat (7666 * p0.toInt + 7666).toNat 0 else Γ (70, 30664, 0)) (tp_BG D cy L K Γ f [71, 70]) (tp_A L sz)) 0 0 (tp_A L sz) := by
  refine Met.ofW (cc := cX12_image) (maxL := 3) (ret := (some .int)) (by decide) rfl ?_
  intro p e s m args below meth c s₁ B hml hv
  obtain ⟨rfl, hsz, hP, hK, hL, hI, hN, hU⟩ := hv
  have hx := B.exec
  have hb := B.bytes
  have hr := B.returns
  have hta := tl_hta (atoms_spec (ws := tl_w yX12_image cX12_image 3 (some .int)) B.pre)
  have hown : s.vm.findClass RX12 = some m.cls := findClass_of_methodNamed B.named
  have hlocks := B.notSynchronized
  subst hsz
  have hI0 := hI
  generalize hAe : tp_A L s.heap.size = A
  have hA : ∀ q : Nat, s.heap.size ≤ q → A q := fun q h => by rw [← hAe]; exact Or.inr h
  have hAL : ∀ q ∈ L, A q := fun q h => by rw [← hAe]; exact Or.inl h
  have hAf : ∀ (H : Heap), s.heap.size ≤ H.size → ∀ q, tp_A L H.size q → A q := fun H h q hq => hq.elim (hAL q) (fun h2 => hA q (Nat.le_trans h h2))
  have hS : va_S A s.heap s.heap [] := va_S.rf
  have hD : va_D A (va_pl L f) := tp_D hL hAL
  have hfr : ∀ b, (K b).1 ∉ ([71, 70] : List Nat) → f b = f b := fun _ _ => rfl
  have hgr : ∀ κ : tk_K, κ.1 ∉ ([71, 70] : List Nat) → Γ κ = Γ κ := fun _ _ => rfl
  have hl := lv_entry ([.ref o, .int p0]) (n := 3) (Nat.le_of_ble_eq_true rfl)
  rw [lg_entry_eq]
  generalize (lg_sl ([.ref o, .int p0]) ++ List.replicate (3 - (lg_sl ([.ref o, .int p0])).length) Slot.unset).toArray = ls at hl ⊢
  have hl : lv_has ls 3 [(0, .ref o), (1, .int p0)] := hl
  refine lv_iload_n hx hb dX12_image_0 rfl (lv_at hl 1 rfl) ?_
  refine lv_i2l (v := p0.toInt64) hx hb dX12_image_1 (by first | rfl | decide) ?_
  refine lv_lconst (v := 0) hx hb dX12_image_2 (by decide) ?_
  refine lv_ldc2 (v := 3) hx hb hown (hta _ wk_221) dX12_image_3 ?_
  refine tl_si (tq_rS (As := [.long p0.toInt64, .long 0, .long 3]) (rest := []) ⟨hx, hb, hml, hown, hta⟩ (tp_P.pre hK hN hL hU hI hP) lk_X12_112 (r_X12_in l D cy s.heap.size L K Γ f p0.toInt64 0 3 ) rfl rfl ⟨Nat.le_of_ble_eq_true rfl, Nat.le_of_ble_eq_true rfl⟩ rfl hl.1 rfl (Nat.le_of_ble_eq_true rfl) dX12_image_6 ⟨Nat.le_of_ble_eq_true rfl, Nat.le_of_ble_eq_true rfl⟩) (fun r_2 hw_1 => ?_)
  simp only [Int32.toInt_toInt64] at hw_1
  have hw_1 : tl_E r_2 ((0 : Int) ≤ p0.toInt ∧ p0.toInt ≤ (3 : Int)) 1 0 := hw_1
  refine lv_if_ne (tgt := 14) hx hb dX12_image_9 (by decide) (fun c_3 => ?_) (fun c_3 => ?_)
  · have c_3 := hw_1.t c_3
    refine lv_aload_n hx hb dX12_image_14 rfl (lv_at hl 0 rfl) ?_
    obtain ⟨x_5, x_6, x_7, x_8, x_9, x_10, x_11, x_12, x_13, x_14, x_15, x_16, x_17, x_18, x_19, x_20, x_21, x_22, x_23, x_24, x_25, x_26, x_27, x_28, x_29, x_30, x_31, x_32, x_33, x_34, x_35, x_36, x_37, x_38, x_39, x_40, x_41, x_42, x_43, x_44, x_45, x_46, x_47, x_48, x_49, x_50, x_51, x_52, x_53, hf_4, hx_5, hx_6, hx_7, hx_8, hx_9, hx_10, hx_11, hx_12, hx_13, hx_14, hx_15, hx_16, hx_17, hx_18, hx_19, hx_20, hx_21, hx_22, hx_23, hx_24, hx_25, hx_26, hx_27, hx_28, hx_29, hx_30, hx_31, hx_32, hx_33, hx_35, hx_36, hx_37, hx_38, hx_39, hx_40, hx_41, hx_42, hx_43, hx_44, hx_45, hx_46, hx_47, hx_48, hx_49, hx_50, hx_51, hx_52, hx_53⟩ := (show tp_o_M L K (0) 0 (Γ (39, 0, 0)) (f o) from hI0.at ho)
    refine tp_get (cy := cy) (ci := 12) (v := .ref x_53) (C := RX12) (T := TX12) (N := 49) hx hb hta inlX12 hown hK hP ho.1 hf_4 rfl 48 (by decide) (hta _ wk_181) (fun _ h9 => h9) rfl dX12_image_15 ?_
    refine lv_iload_n hx hb dX12_image_18 rfl (lv_at hl 1 rfl) ?_
    refine lv_iconst (v := 1) hx hb dX12_image_19 (by decide) ?_
    obtain ⟨g_55, hf_54, hg_56⟩ := (show tp_gz cy (4) (Γ (71, 4, 0)) (f x_53) from hI.at hx_53)
    have hn_57 : vp_in p0 (4) := tl_in (by omega) (by omega)
    have nz_58 : (vp_nar .boolean (1 : Int32)).toInt = (1 : Int) := by decide
    obtain ⟨Γ_59, eΓ_59⟩ : ∃ y : tk_G, y = tg Γ (71, 4, 0) p0.toInt.toNat (1 : Int) := ⟨_, rfl⟩
    have hI9 : tp_I cy L K Γ_59 (va_up f x_53 (.inl (cy 2, 4, .inl (upd g_55 p0.toNatClampNeg (vp_nar .boolean 1))))) := by rw [eΓ_59]; exact hI.setg hU rfl hx_53 (show tp_gz cy (4) (tgu (Γ (71, 4, 0)) p0.toInt.toNat (1 : Int)) _ from ⟨_, rfl, tp_gz_upd hg_56 nz_58⟩)
    have hfr9 : ∀ b, (K b).1 ∉ ([71, 70] : List Nat) → va_up f x_53 (.inl (cy 2, 4, .inl (upd g_55 p0.toNatClampNeg (vp_nar .boolean 1)))) b = f b := tp_fr hfr hx_53 (by decide)
    refine tp_zast (cy := cy) hx hb hK hP hD hS hx_53.1 hf_54 hn_57 dX12_image_20 (fun H locs hP hD hS => ?_)
    have hP : va_P D vwCl (va_pl L (va_up f x_53 (.inl (cy 2, 4, .inl (upd g_55 p0.toNatClampNeg (vp_nar .boolean 1)))))) H := hP
    generalize hfe : va_up f x_53 (.inl (cy 2, 4, .inl (upd g_55 p0.toNatClampNeg (vp_nar .boolean 1)))) = f_60 at hP hI9 hfr9
    have hD : va_D A (va_pl L f_60) := tp_D hL hAL
    have hf_61 : f_60 x_53 = .inl (cy 2, 4, .inl (upd g_55 p0.toNatClampNeg (vp_nar .boolean 1))) := by rw [← hfe]; exact va_up_self _ _ _
    clear hfe
    have hI := hI9
    have hfr := hfr9
    clear hI9 hfr9
    have hgr : ∀ κ : tk_K, κ.1 ∉ ([71, 70] : List Nat) → Γ_59 κ = Γ κ := tg_fr hgr eΓ_59 (by decide)
    refine lv_iconst (v := 0) hx hb dX12_image_21 (by decide) ?_
    refine lv_istore_n (lv' := [(2, .int 0), (0, .ref o), (1, .int p0)]) hx hb dX12_image_22 rfl hl (by decide) rfl (fun ls hl => ?_)
    refine tl_ind (G := fun H locs ls => W p l e ((headSpec (tl_w yX12_image cX12_image 3 (some .int)) ({ frames := 1, cells := 0, slots := 0, locals := 25 })).room) s m #[.ref o, .int p0] below meth c H locs 0 0 (MQ below (va_Qi (fun (r : Int32) (u : (Nat → va_E) × tk_G) => r.toInt = (if 0 ≤ p0.toInt ∧ p0.toInt ≤ 3 then Γ (40, 7666, 0) 1 else -1) ∧ (u.2 (71, 4, 0) = if 0 ≤ p0.toInt ∧ p0.toInt ≤ 3 then tgu (Γ (71, 4, 0)) p0.toInt.toNat 1 else Γ (71, 4, 0)) ∧ u.2 (70, 30664, 0) = if 0 ≤ p0.toInt ∧ p0.toInt ≤ 3 then tm_cp (Γ (70, 30664, 0)) (Γ (40, 7666, 0)) (7666 * p0.toInt).toNat (7666 * p0.toInt + 7666).toNat 0 else Γ (70, 30664, 0)) (tp_BG D cy L K Γ f [71, 70]) A) #[.ref o, .int p0] s 0 0 A) (F0 m 23 ls [])) (α := (Nat → va_E) × tk_G × Int32) (fun aq => (7666 - aq.2.2.toInt).toNat) (fun aq H locs ls => (0 ≤ aq.2.2.toInt) ∧ (aq.2.2.toInt ≤ 7666) ∧ (aq.2.1 (71, 4, 0) = tgu (Γ (71, 4, 0)) p0.toInt.toNat 1) ∧ (aq.2.1 (70, 30664, 0) = tm_cp (Γ (70, 30664, 0)) (Γ (40, 7666, 0)) (7666 * p0.toInt).toNat (7666 * p0.toInt + aq.2.2.toInt).toNat 0) ∧ va_P D vwCl (va_pl L aq.1) H ∧ tp_I cy L K aq.2.1 aq.1 ∧ (∀ b, (K b).1 ∉ ([71, 70] : List Nat) → aq.1 b = f b) ∧ (∀ κ : tk_K, κ.1 ∉ ([71, 70] : List Nat) → aq.2.1 κ = Γ κ) ∧ va_S A s.heap H locs ∧ lv_has ls 3 [(2, .int aq.2.2), (0, .ref o), (1, .int p0)]) ?_ (f_60, Γ_59, (0 : Int32)) H locs ls ⟨(show 0 ≤ (0 : Int) from (by omega)), (show (0 : Int) ≤ 7666 from (by omega)), (show Γ_59 (71, 4, 0) = tgu (Γ (71, 4, 0)) p0.toInt.toNat 1 from (by rw [eΓ_59, tg_f])), (show Γ_59 (70, 30664, 0) = tm_cp (Γ (70, 30664, 0)) (Γ (40, 7666, 0)) (7666 * p0.toInt).toNat (7666 * p0.toInt + (0 : Int)).toNat 0 from (by rw [tm_cp0 (by omega), eΓ_59, tg_rf (by decide)])), hP, hI, hfr, hgr, hS, lv_sub hl [0, 1, 2] rfl⟩
    rintro ⟨f_62, Γ_63, v2⟩ H locs ls ⟨h0, h1, hm, hcp, hP, hI, hfr, hgr, hS, hl⟩ ih23
    have hgr : ∀ κ : tk_K, κ.1 ∉ ([71, 70] : List Nat) → Γ_63 κ = Γ κ := hgr
    have hP : va_P D vwCl (va_pl L f_62) H := hP
    have hI : tp_I cy L K Γ_63 f_62 := hI
    have hfr : ∀ b, (K b).1 ∉ ([71, 70] : List Nat) → f_62 b = f b := hfr
    have hD : va_D A (va_pl L f_62) := tp_D hL hAL
    have h0 : 0 ≤ v2.toInt := h0
    have h1 : v2.toInt ≤ 7666 := h1
    have hm : Γ_63 (71, 4, 0) = tgu (Γ (71, 4, 0)) p0.toInt.toNat 1 := hm
    have hcp : Γ_63 (70, 30664, 0) = tm_cp (Γ (70, 30664, 0)) (Γ (40, 7666, 0)) (7666 * p0.toInt).toNat (7666 * p0.toInt + v2.toInt).toNat 0 := hcp
    have hl : lv_has ls 3 [(2, .int v2), (0, .ref o), (1, .int p0)] := hl
    refine lv_iload_n hx hb dX12_image_23 rfl (lv_at hl 0 rfl) ?_
    refine lv_sipush (v := 7666) hx hb dX12_image_24 (by decide) ?_
    refine lv_icmp_ge (tgt := 54) hx hb dX12_image_27 (by decide) (fun c_64 => ?_) (fun c_64 => ?_)
    · have c_64 : (7666 : Int) ≤ v2.toInt := tl_le c_64
      refine lv_aload_n hx hb dX12_image_54 rfl (lv_at hl 1 rfl) ?_
      refine tp_get (cy := cy) (ci := 12) (v := .ref x_5) (C := RX12) (T := TX12) (N := 49) hx hb hta inlX12 hown hK hP ho.1 ((tp_un hfr ho (by decide)).trans hf_4) rfl 0 (by decide) (hta _ wk_149) (fun _ h9 => h9) rfl dX12_image_55 ?_
      refine lv_iconst (v := 1) hx hb dX12_image_58 (by decide) ?_
      obtain ⟨g_66, hf_65, hg_67⟩ := (show tp_gi cy (7666) (Γ (40, 7666, 0)) (f x_5) from hI0.at hx_5)
      have hn_68 : vp_in 1 (7666) := tl_in (by decide) (by decide)
      refine tp_iald (cy := cy) hx hb hK hP hx_5.1 ((tp_un hfr hx_5 (by decide)).trans hf_65) hn_68 dX12_image_59 ?_
      refine lv_topi (fun z_69 ez_69 => ?_)
      have iz_69 : z_69.toInt = Γ (40, 7666, 0) 1 := by rw [ez_69]; exact hg_67 _ (tp_pin hn_68)
      exact W.iret (v := z_69) hx hb hr (fun t ht hW => ⟨⟨_, (f_62, Γ_63), rfl, ⟨(by rw [if_pos (by omega)]; exact iz_69), (by rw [if_pos (by omega)]; exact hm), (by rw [if_pos (by omega), hcp, show v2.toInt = 7666 from by omega])⟩, by rw [ht]; exact hP, hI, hfr, hgr⟩, hS.F ht⟩) hS.2.2 dX12_image_60
    · have c_64 : v2.toInt < (7666 : Int) := tl_nle c_64
      refine lv_aload_n hx hb dX12_image_30 rfl (lv_at hl 1 rfl) ?_
      refine tp_get (cy := cy) (ci := 12) (v := .ref x_52) (C := RX12) (T := TX12) (N := 49) hx hb hta inlX12 hown hK hP ho.1 ((tp_un hfr ho (by decide)).trans hf_4) rfl 47 (by decide) (hta _ wk_180) (fun _ h9 => h9) rfl dX12_image_31 ?_
      refine lv_sipush (v := 7666) hx hb dX12_image_34 (by decide) ?_
      refine lv_iload_n hx hb dX12_image_37 rfl (lv_at hl 2 rfl) ?_
      refine lv_imul hx hb dX12_image_38 ?_
      refine lv_topi (fun z_70 ez_70 => ?_)
      try have iz_70 : z_70.toInt = (7666 : Int) * p0.toInt := by rw [ez_70]; exact tl_mulN 7666 p0 rfl rfl (by omega) (by omega)
      refine lv_iload_n hx hb dX12_image_39 rfl (lv_at hl 0 rfl) ?_
      refine lv_iadd hx hb dX12_image_40 ?_
      refine lv_topi (fun z_71 ez_71 => ?_)
      try have iz_71 : z_71.toInt = z_70.toInt + v2.toInt := by rw [ez_71]; exact tl_addN z_70 v2 rfl rfl (by omega) (by omega)
      refine lv_aload_n hx hb dX12_image_41 rfl (lv_at hl 1 rfl) ?_
      refine tp_get (cy := cy) (ci := 12) (v := .ref x_5) (C := RX12) (T := TX12) (N := 49) hx hb hta inlX12 hown hK hP ho.1 ((tp_un hfr ho (by decide)).trans hf_4) rfl 0 (by decide) (hta _ wk_149) (fun _ h9 => h9) rfl dX12_image_42 ?_
      refine lv_iload_n hx hb dX12_image_45 rfl (lv_at hl 0 rfl) ?_
      obtain ⟨g_73, hf_72, hg_74⟩ := (show tp_gi cy (7666) (Γ (40, 7666, 0)) (f x_5) from hI0.at hx_5)
      have hn_75 : vp_in v2 (7666) := tl_in (by omega) (by omega)
      refine tp_iald (cy := cy) hx hb hK hP hx_5.1 ((tp_un hfr hx_5 (by decide)).trans hf_72) hn_75 dX12_image_46 ?_
      refine lv_topi (fun z_76 ez_76 => ?_)
      have iz_76 : z_76.toInt = Γ (40, 7666, 0) v2.toInt.toNat := by rw [ez_76]; exact hg_74 _ (tp_pin hn_75)
      obtain ⟨g_78, hf_77, hg_79⟩ := (show tp_gi cy (30664) (Γ_63 (70, 30664, 0)) (f_62 x_52) from hI.at hx_52)
      have hn_80 : vp_in z_71 (30664) := tl_in (by omega) (by omega)
      have hj_81 : z_71.toNatClampNeg = (7666 * p0.toInt + v2.toInt).toNat := by show z_71.toInt.toNat = _; omega
      have hv_82 : z_76.toInt = z_76.toInt := rfl
      obtain ⟨Γ_83, eΓ_83⟩ : ∃ y : tk_G, y = tg Γ_63 (70, 30664, 0) ((7666 * p0.toInt + v2.toInt).toNat) z_76.toInt := ⟨_, rfl⟩
      have hI9 : tp_I cy L K Γ_83 (va_up f_62 x_52 (.inl (cy 0, 30664, .inl (upd g_78 z_71.toNatClampNeg z_76)))) := by rw [eΓ_83, ← hj_81, ← hv_82]; exact hI.setg hU rfl hx_52 (show tp_gi cy (30664) (tgu (Γ_63 (70, 30664, 0)) _ _) _ from ⟨_, rfl, tp_gi_upd hg_79⟩)
      have hfr9 : ∀ b, (K b).1 ∉ ([71, 70] : List Nat) → va_up f_62 x_52 (.inl (cy 0, 30664, .inl (upd g_78 z_71.toNatClampNeg z_76))) b = f b := tp_fr hfr hx_52 (by decide)
      refine tp_iast (cy := cy) hx hb hK hP hD hS hx_52.1 hf_77 hn_80 dX12_image_47 (fun H locs hP hD hS => ?_)
      have hP : va_P D vwCl (va_pl L (va_up f_62 x_52 (.inl (cy 0, 30664, .inl (upd g_78 z_71.toNatClampNeg z_76))))) H := hP
      generalize hfe : va_up f_62 x_52 (.inl (cy 0, 30664, .inl (upd g_78 z_71.toNatClampNeg z_76))) = f_84 at hP hI9 hfr9
      have hD : va_D A (va_pl L f_84) := tp_D hL hAL
      have hf_85 : f_84 x_52 = .inl (cy 0, 30664, .inl (upd g_78 z_71.toNatClampNeg z_76)) := by rw [← hfe]; exact va_up_self _ _ _
      clear hfe
      have hI := hI9
      have hfr := hfr9
      clear hI9 hfr9
      have wsΓ_83 : Γ_83 (70, 30664, 0) ((7666 * p0.toInt + v2.toInt).toNat) = z_76.toInt := by rw [eΓ_83]; exact tg_s
      have hgr : ∀ κ : tk_K, κ.1 ∉ ([71, 70] : List Nat) → Γ_83 κ = Γ κ := tg_fr hgr eΓ_83 (by decide)
      obtain ⟨z_86, ez_86⟩ : ∃ y : Int32, y = v2 + 1 := ⟨_, rfl⟩
      refine lv_iinc (v := z_86) (lv' := [(2, .int z_86), (0, .ref o), (1, .int p0)]) hx hb dX12_image_48 hl (k := 0) rfl (by rw [ez_86]; rfl) (by decide) rfl (fun ls hl => ?_)
      try have iz_86 : z_86.toInt = v2.toInt + 1 := by rw [ez_86]; exact tl_addL v2 1 (by decide) (by omega) (by omega)
      refine lv_goto (tgt := 23) hx hb dX12_image_51 (by decide) ?_
      exact ih23 (f_84, Γ_83, z_86) H locs ls (by show (7666 - z_86.toInt).toNat < (7666 - v2.toInt).toNat; omega) ⟨(show 0 ≤ z_86.toInt from (by omega)), (show z_86.toInt ≤ 7666 from (by omega)), (show Γ_83 (71, 4, 0) = tgu (Γ (71, 4, 0)) p0.toInt.toNat 1 from (by rw [eΓ_83, tg_rf (by decide)]; exact hm)), (show Γ_83 (70, 30664, 0) = tm_cp (Γ (70, 30664, 0)) (Γ (40, 7666, 0)) (7666 * p0.toInt).toNat (7666 * p0.toInt + z_86.toInt).toNat 0 from (by rw [eΓ_83, tg_f, hcp]; exact tm_cp1 (by omega) (by omega) (iz_76.trans (congrArg _ (by omega))))), hP, hI, hfr, hgr, hS, lv_sub hl [0, 1, 2] rfl⟩
  · have c_3 := hw_1.f c_3
    refine lv_iconst (v := (-1)) hx hb dX12_image_12 (by decide) ?_
    exact W.iret (v := (-1)) hx hb hr (fun t ht hW => ⟨⟨_, (f, Γ), rfl, ⟨(by rw [if_neg (by omega)]; rfl), (by rw [if_neg (by omega)]), (by rw [if_neg (by omega)])⟩, by rw [ht]; exact hP, hI, hfr, hgr⟩, hS.F ht⟩) hS.2.2 dX12_image_13
set_option maxHeartbeats 4000000 in
set_option maxRecDepth 100000 in
theorem r_X12_back (l : Launch) (D : va_G) (cy : Nat → ClassId) (sz : Nat) (L : List Nat) (K : Nat → tk_K) (Γ : tk_G) (f : Nat → va_E) (o : Nat) (p0 : Int32) (ho : tp_r L K 39 (0) 0 o) : Met l yX12_back (tl_w yX12_back cX12_back 3 (some .int)) ({ frames := 1, cells := 0, slots := 0, locals := 25 }) (va_Pc [.ref o, .int p0] (tp_P D cy L K Γ f sz)) (va_Qi (fun (r : Int32) (u : (Nat → va_E) × tk_G) => r.toInt = (if (0 ≤ p0.toInt ∧ p0.toInt ≤ 3) ∧ ¬ Γ (71, 4, 0) p0.toInt.toNat = 0 then u.2 (40, 7666, 0) 1 else -1) ∧ u.2 (40, 7666, 0) = if (0 ≤ p0.toInt ∧ p0.toInt ≤ 3) ∧ ¬ Γ (71, 4, 0) p0.toInt.toNat = 0 then tm_cp (Γ (40, 7666, 0)) (Γ (70, 30664, 0)) 0 (7666).toNat (7666 * p0.toInt).toNat else Γ (40, 7666, 0)) (tp_BG D cy L K Γ f [40]) (tp_A L sz)) 0 0 (tp_A L sz) := by
  refine Met.ofW (cc := cX12_back) (maxL := 3) (ret := (some .int)) (by decide) rfl ?_
  intro p e s m args below meth c s₁ B hml hv
  obtain ⟨rfl, hsz, hP, hK, hL, hI, hN, hU⟩ := hv
  have hx := B.exec
  have hb := B.bytes
  have hr := B.returns
  have hta := tl_hta (atoms_spec (ws := tl_w yX12_back cX12_back 3 (some .int)) B.pre)
  have hown : s.vm.findClass RX12 = some m.cls := findClass_of_methodNamed B.named
  have hlocks := B.notSynchronized
  subst hsz
  have hI0 := hI
  generalize hAe : tp_A L s.heap.size = A
  have hA : ∀ q : Nat, s.heap.size ≤ q → A q := fun q h => by rw [← hAe]; exact Or.inr h
  have hAL : ∀ q ∈ L, A q := fun q h => by rw [← hAe]; exact Or.inl h
  have hAf : ∀ (H : Heap), s.heap.size ≤ H.size → ∀ q, tp_A L H.size q → A q := fun H h q hq => hq.elim (hAL q) (fun h2 => hA q (Nat.le_trans h h2))
  have hS : va_S A s.heap s.heap [] := va_S.rf
  have hD : va_D A (va_pl L f) := tp_D hL hAL
  have hfr : ∀ b, (K b).1 ∉ ([40] : List Nat) → f b = f b := fun _ _ => rfl
  have hgr : ∀ κ : tk_K, κ.1 ∉ ([40] : List Nat) → Γ κ = Γ κ := fun _ _ => rfl
  have hl := lv_entry ([.ref o, .int p0]) (n := 3) (Nat.le_of_ble_eq_true rfl)
  rw [lg_entry_eq]
  generalize (lg_sl ([.ref o, .int p0]) ++ List.replicate (3 - (lg_sl ([.ref o, .int p0])).length) Slot.unset).toArray = ls at hl ⊢
  have hl : lv_has ls 3 [(0, .ref o), (1, .int p0)] := hl
  refine lv_iload_n hx hb dX12_back_0 rfl (lv_at hl 1 rfl) ?_
  refine lv_i2l (v := p0.toInt64) hx hb dX12_back_1 (by first | rfl | decide) ?_
  refine lv_lconst (v := 0) hx hb dX12_back_2 (by decide) ?_
  refine lv_ldc2 (v := 3) hx hb hown (hta _ wk_221) dX12_back_3 ?_
  refine tl_si (tq_rS (As := [.long p0.toInt64, .long 0, .long 3]) (rest := []) ⟨hx, hb, hml, hown, hta⟩ (tp_P.pre hK hN hL hU hI hP) lk_X12_112 (r_X12_in l D cy s.heap.size L K Γ f p0.toInt64 0 3 ) rfl rfl ⟨Nat.le_of_ble_eq_true rfl, Nat.le_of_ble_eq_true rfl⟩ rfl hl.1 rfl (Nat.le_of_ble_eq_true rfl) dX12_back_6 ⟨Nat.le_of_ble_eq_true rfl, Nat.le_of_ble_eq_true rfl⟩) (fun r_2 hw_1 => ?_)
  simp only [Int32.toInt_toInt64] at hw_1
  have hw_1 : tl_E r_2 ((0 : Int) ≤ p0.toInt ∧ p0.toInt ≤ (3 : Int)) 1 0 := hw_1
  refine lv_if_eq (tgt := 21) hx hb dX12_back_9 (by decide) (fun c_3 => ?_) (fun c_3 => ?_)
  · have c_3 := hw_1.f c_3
    refine lv_iconst (v := (-1)) hx hb dX12_back_21 (by decide) ?_
    exact W.iret (v := (-1)) hx hb hr (fun t ht hW => ⟨⟨_, (f, Γ), rfl, ⟨(by rw [if_neg (by omega)]; rfl), (by rw [if_neg (by omega)])⟩, by rw [ht]; exact hP, hI, hfr, hgr⟩, hS.F ht⟩) hS.2.2 dX12_back_22
  · have c_3 := hw_1.t c_3
    refine lv_aload_n hx hb dX12_back_12 rfl (lv_at hl 0 rfl) ?_
    obtain ⟨x_5, x_6, x_7, x_8, x_9, x_10, x_11, x_12, x_13, x_14, x_15, x_16, x_17, x_18, x_19, x_20, x_21, x_22, x_23, x_24, x_25, x_26, x_27, x_28, x_29, x_30, x_31, x_32, x_33, x_34, x_35, x_36, x_37, x_38, x_39, x_40, x_41, x_42, x_43, x_44, x_45, x_46, x_47, x_48, x_49, x_50, x_51, x_52, x_53, hf_4, hx_5, hx_6, hx_7, hx_8, hx_9, hx_10, hx_11, hx_12, hx_13, hx_14, hx_15, hx_16, hx_17, hx_18, hx_19, hx_20, hx_21, hx_22, hx_23, hx_24, hx_25, hx_26, hx_27, hx_28, hx_29, hx_30, hx_31, hx_32, hx_33, hx_35, hx_36, hx_37, hx_38, hx_39, hx_40, hx_41, hx_42, hx_43, hx_44, hx_45, hx_46, hx_47, hx_48, hx_49, hx_50, hx_51, hx_52, hx_53⟩ := (show tp_o_M L K (0) 0 (Γ (39, 0, 0)) (f o) from hI0.at ho)
    refine tp_get (cy := cy) (ci := 12) (v := .ref x_53) (C := RX12) (T := TX12) (N := 49) hx hb hta inlX12 hown hK hP ho.1 hf_4 rfl 48 (by decide) (hta _ wk_181) (fun _ h9 => h9) rfl dX12_back_13 ?_
    refine lv_iload_n hx hb dX12_back_16 rfl (lv_at hl 1 rfl) ?_
    obtain ⟨g_55, hf_54, hg_56⟩ := (show tp_gz cy (4) (Γ (71, 4, 0)) (f x_53) from hI0.at hx_53)
    have hn_57 : vp_in p0 (4) := tl_in (by omega) (by omega)
    refine tp_zald (cy := cy) hx hb hK hP hx_53.1 hf_54 hn_57 dX12_back_17 ?_
    refine lv_topi (fun z_58 ez_58 => ?_)
    have iz_58 : z_58.toInt = Γ (71, 4, 0) p0.toInt.toNat := by rw [ez_58]; exact hg_56 _ (tp_pin hn_57)
    refine lv_if_ne (tgt := 23) hx hb dX12_back_18 (by decide) (fun c_59 => ?_) (fun c_59 => ?_)
    · have c_59 : ¬ z_58.toInt = (0 : Int) := tl_neq c_59
      refine lv_iconst (v := 0) hx hb dX12_back_23 (by decide) ?_
      refine lv_istore_n (lv' := [(2, .int 0), (0, .ref o), (1, .int p0)]) hx hb dX12_back_24 rfl hl (by decide) rfl (fun ls hl => ?_)
      refine tq_start hP hS (fun H locs hP hS => ?_)
      refine tl_ind (G := fun H locs ls => W p l e ((headSpec (tl_w yX12_back cX12_back 3 (some .int)) ({ frames := 1, cells := 0, slots := 0, locals := 25 })).room) s m #[.ref o, .int p0] below meth c H locs 0 0 (MQ below (va_Qi (fun (r : Int32) (u : (Nat → va_E) × tk_G) => r.toInt = (if (0 ≤ p0.toInt ∧ p0.toInt ≤ 3) ∧ ¬ Γ (71, 4, 0) p0.toInt.toNat = 0 then u.2 (40, 7666, 0) 1 else -1) ∧ u.2 (40, 7666, 0) = if (0 ≤ p0.toInt ∧ p0.toInt ≤ 3) ∧ ¬ Γ (71, 4, 0) p0.toInt.toNat = 0 then tm_cp (Γ (40, 7666, 0)) (Γ (70, 30664, 0)) 0 (7666).toNat (7666 * p0.toInt).toNat else Γ (40, 7666, 0)) (tp_BG D cy L K Γ f [40]) A) #[.ref o, .int p0] s 0 0 A) (F0 m 25 ls [])) (α := (Nat → va_E) × tk_G × Int32) (fun aq => (7666 - aq.2.2.toInt).toNat) (fun aq H locs ls => (0 ≤ aq.2.2.toInt) ∧ (aq.2.2.toInt ≤ 7666) ∧ (aq.2.1 (40, 7666, 0) = tm_cp (Γ (40, 7666, 0)) (Γ (70, 30664, 0)) 0 (aq.2.2.toInt).toNat (7666 * p0.toInt).toNat) ∧ va_P D vwCl (va_pl L aq.1) H ∧ tp_I cy L K aq.2.1 aq.1 ∧ (∀ b, (K b).1 ∉ ([40] : List Nat) → aq.1 b = f b) ∧ (∀ κ : tk_K, κ.1 ∉ ([40] : List Nat) → aq.2.1 κ = Γ κ) ∧ va_S A s.heap H locs ∧ lv_has ls 3 [(2, .int aq.2.2), (0, .ref o), (1, .int p0)]) ?_ (f, Γ, (0 : Int32)) H locs ls ⟨(show 0 ≤ (0 : Int) from (by omega)), (show (0 : Int) ≤ 7666 from (by omega)), (show Γ (40, 7666, 0) = tm_cp (Γ (40, 7666, 0)) (Γ (70, 30664, 0)) 0 ((0 : Int)).toNat (7666 * p0.toInt).toNat from (by rw [tm_cp0 (by omega)])), hP, hI, hfr, hgr, hS, lv_sub hl [0, 1, 2] rfl⟩
      rintro ⟨f_60, Γ_61, v2⟩ H locs ls ⟨h0, h1, hcp, hP, hI, hfr, hgr, hS, hl⟩ ih25
      have hgr : ∀ κ : tk_K, κ.1 ∉ ([40] : List Nat) → Γ_61 κ = Γ κ := hgr
      have hP : va_P D vwCl (va_pl L f_60) H := hP
      have hI : tp_I cy L K Γ_61 f_60 := hI
      have hfr : ∀ b, (K b).1 ∉ ([40] : List Nat) → f_60 b = f b := hfr
      have hD : va_D A (va_pl L f_60) := tp_D hL hAL
      have h0 : 0 ≤ v2.toInt := h0
      have h1 : v2.toInt ≤ 7666 := h1
      have hcp : Γ_61 (40, 7666, 0) = tm_cp (Γ (40, 7666, 0)) (Γ (70, 30664, 0)) 0 (v2.toInt).toNat (7666 * p0.toInt).toNat := hcp
      have hl : lv_has ls 3 [(2, .int v2), (0, .ref o), (1, .int p0)] := hl
      refine lv_iload_n hx hb dX12_back_25 rfl (lv_at hl 0 rfl) ?_
      refine lv_sipush (v := 7666) hx hb dX12_back_26 (by decide) ?_
      refine lv_icmp_ge (tgt := 56) hx hb dX12_back_29 (by decide) (fun c_62 => ?_) (fun c_62 => ?_)
      · have c_62 : (7666 : Int) ≤ v2.toInt := tl_le c_62
        refine lv_aload_n hx hb dX12_back_56 rfl (lv_at hl 1 rfl) ?_
        refine tp_get (cy := cy) (ci := 12) (v := .ref x_5) (C := RX12) (T := TX12) (N := 49) hx hb hta inlX12 hown hK hP ho.1 ((tp_un hfr ho (by decide)).trans hf_4) rfl 0 (by decide) (hta _ wk_149) (fun _ h9 => h9) rfl dX12_back_57 ?_
        refine lv_iconst (v := 1) hx hb dX12_back_60 (by decide) ?_
        obtain ⟨g_64, hf_63, hg_65⟩ := (show tp_gi cy (7666) (Γ_61 (40, 7666, 0)) (f_60 x_5) from hI.at hx_5)
        have hn_66 : vp_in 1 (7666) := tl_in (by decide) (by decide)
        refine tp_iald (cy := cy) hx hb hK hP hx_5.1 hf_63 hn_66 dX12_back_61 ?_
        refine lv_topi (fun z_67 ez_67 => ?_)
        have iz_67 : z_67.toInt = Γ_61 (40, 7666, 0) 1 := by rw [ez_67]; exact hg_65 _ (tp_pin hn_66)
        exact W.iret (v := z_67) hx hb hr (fun t ht hW => ⟨⟨_, (f_60, Γ_61), rfl, ⟨(by rw [if_pos (by omega)]; exact iz_67), (by rw [if_pos (by omega), hcp, show v2.toInt = 7666 from by omega])⟩, by rw [ht]; exact hP, hI, hfr, hgr⟩, hS.F ht⟩) hS.2.2 dX12_back_62
      · have c_62 : v2.toInt < (7666 : Int) := tl_nle c_62
        refine lv_aload_n hx hb dX12_back_32 rfl (lv_at hl 1 rfl) ?_
        refine tp_get (cy := cy) (ci := 12) (v := .ref x_5) (C := RX12) (T := TX12) (N := 49) hx hb hta inlX12 hown hK hP ho.1 ((tp_un hfr ho (by decide)).trans hf_4) rfl 0 (by decide) (hta _ wk_149) (fun _ h9 => h9) rfl dX12_back_33 ?_
        refine lv_iload_n hx hb dX12_back_36 rfl (lv_at hl 0 rfl) ?_
        refine lv_aload_n hx hb dX12_back_37 rfl (lv_at hl 1 rfl) ?_
        refine tp_get (cy := cy) (ci := 12) (v := .ref x_52) (C := RX12) (T := TX12) (N := 49) hx hb hta inlX12 hown hK hP ho.1 ((tp_un hfr ho (by decide)).trans hf_4) rfl 47 (by decide) (hta _ wk_180) (fun _ h9 => h9) rfl dX12_back_38 ?_
        refine lv_sipush (v := 7666) hx hb dX12_back_41 (by decide) ?_
        refine lv_iload_n hx hb dX12_back_44 rfl (lv_at hl 2 rfl) ?_
        refine lv_imul hx hb dX12_back_45 ?_
        refine lv_topi (fun z_68 ez_68 => ?_)
        try have iz_68 : z_68.toInt = (7666 : Int) * p0.toInt := by rw [ez_68]; exact tl_mulN 7666 p0 rfl rfl (by omega) (by omega)
        refine lv_iload_n hx hb dX12_back_46 rfl (lv_at hl 0 rfl) ?_
        refine lv_iadd hx hb dX12_back_47 ?_
        refine lv_topi (fun z_69 ez_69 => ?_)
        try have iz_69 : z_69.toInt = z_68.toInt + v2.toInt := by rw [ez_69]; exact tl_addN z_68 v2 rfl rfl (by omega) (by omega)
        obtain ⟨g_71, hf_70, hg_72⟩ := (show tp_gi cy (30664) (Γ (70, 30664, 0)) (f x_52) from hI0.at hx_52)
        have hn_73 : vp_in z_69 (30664) := tl_in (by omega) (by omega)
        refine tp_iald (cy := cy) hx hb hK hP hx_52.1 ((tp_un hfr hx_52 (by decide)).trans hf_70) hn_73 dX12_back_48 ?_
        refine lv_topi (fun z_74 ez_74 => ?_)
        have iz_74 : z_74.toInt = Γ (70, 30664, 0) z_69.toInt.toNat := by rw [ez_74]; exact hg_72 _ (tp_pin hn_73)
        obtain ⟨g_76, hf_75, hg_77⟩ := (show tp_gi cy (7666) (Γ_61 (40, 7666, 0)) (f_60 x_5) from hI.at hx_5)
        have hn_78 : vp_in v2 (7666) := tl_in (by omega) (by omega)
        have hj_79 : v2.toNatClampNeg = v2.toInt.toNat := rfl
        have hv_80 : z_74.toInt = z_74.toInt := rfl
        obtain ⟨Γ_81, eΓ_81⟩ : ∃ y : tk_G, y = tg Γ_61 (40, 7666, 0) v2.toInt.toNat z_74.toInt := ⟨_, rfl⟩
        have hI9 : tp_I cy L K Γ_81 (va_up f_60 x_5 (.inl (cy 0, 7666, .inl (upd g_76 v2.toNatClampNeg z_74)))) := by rw [eΓ_81, ← hj_79, ← hv_80]; exact hI.setg hU rfl hx_5 (show tp_gi cy (7666) (tgu (Γ_61 (40, 7666, 0)) _ _) _ from ⟨_, rfl, tp_gi_upd hg_77⟩)
        have hfr9 : ∀ b, (K b).1 ∉ ([40] : List Nat) → va_up f_60 x_5 (.inl (cy 0, 7666, .inl (upd g_76 v2.toNatClampNeg z_74))) b = f b := tp_fr hfr hx_5 (by decide)
        refine tp_iast (cy := cy) hx hb hK hP hD hS hx_5.1 hf_75 hn_78 dX12_back_49 (fun H locs hP hD hS => ?_)
        have hP : va_P D vwCl (va_pl L (va_up f_60 x_5 (.inl (cy 0, 7666, .inl (upd g_76 v2.toNatClampNeg z_74))))) H := hP
        generalize hfe : va_up f_60 x_5 (.inl (cy 0, 7666, .inl (upd g_76 v2.toNatClampNeg z_74))) = f_82 at hP hI9 hfr9
        have hD : va_D A (va_pl L f_82) := tp_D hL hAL
        have hf_83 : f_82 x_5 = .inl (cy 0, 7666, .inl (upd g_76 v2.toNatClampNeg z_74)) := by rw [← hfe]; exact va_up_self _ _ _
        clear hfe
        have hI := hI9
        have hfr := hfr9
        clear hI9 hfr9
        have wsΓ_81 : Γ_81 (40, 7666, 0) v2.toInt.toNat = z_74.toInt := by rw [eΓ_81]; exact tg_s
        have hgr : ∀ κ : tk_K, κ.1 ∉ ([40] : List Nat) → Γ_81 κ = Γ κ := tg_fr hgr eΓ_81 (by decide)
        obtain ⟨z_84, ez_84⟩ : ∃ y : Int32, y = v2 + 1 := ⟨_, rfl⟩
        refine lv_iinc (v := z_84) (lv' := [(2, .int z_84), (0, .ref o), (1, .int p0)]) hx hb dX12_back_50 hl (k := 0) rfl (by rw [ez_84]; rfl) (by decide) rfl (fun ls hl => ?_)
        try have iz_84 : z_84.toInt = v2.toInt + 1 := by rw [ez_84]; exact tl_addL v2 1 (by decide) (by omega) (by omega)
        refine lv_goto (tgt := 25) hx hb dX12_back_53 (by decide) ?_
        exact ih25 (f_82, Γ_81, z_84) H locs ls (by show (7666 - z_84.toInt).toNat < (7666 - v2.toInt).toNat; omega) ⟨(show 0 ≤ z_84.toInt from (by omega)), (show z_84.toInt ≤ 7666 from (by omega)), (show Γ_81 (40, 7666, 0) = tm_cp (Γ (40, 7666, 0)) (Γ (70, 30664, 0)) 0 (z_84.toInt).toNat (7666 * p0.toInt).toNat from (by rw [eΓ_81, tg_f, hcp]; exact tm_cp1 (by omega) (by omega) (iz_74.trans (congrArg _ (by omega))))), hP, hI, hfr, hgr, hS, lv_sub hl [0, 1, 2] rfl⟩
    · have c_59 : z_58.toInt = (0 : Int) := tl_eq c_59
      refine lv_iconst (v := (-1)) hx hb dX12_back_21 (by decide) ?_
      exact W.iret (v := (-1)) hx hb hr (fun t ht hW => ⟨⟨_, (f, Γ), rfl, ⟨(by rw [if_neg (by omega)]; rfl), (by rw [if_neg (by omega)])⟩, by rw [ht]; exact hP, hI, hfr, hgr⟩, hS.F ht⟩) hS.2.2 dX12_back_22
