theorem dX11_amountOf_0 : decode cX11_amountOf 0 = .ok (.aload_n 0, 1) := by decide +kernel
theorem dX11_amountOf_1 : decode cX11_amountOf 1 = .ok (.getfield 10, 3) := by decide +kernel
theorem dX11_amountOf_4 : decode cX11_amountOf 4 = .ok (.getfield 170, 3) := by decide +kernel
theorem dX11_amountOf_7 : decode cX11_amountOf 7 = .ok (.astore_n 2, 1) := by decide +kernel
theorem dX11_amountOf_8 : decode cX11_amountOf 8 = .ok (.lconst 0, 1) := by decide +kernel
theorem dX11_amountOf_9 : decode cX11_amountOf 9 = .ok (.lstore_n 3, 1) := by decide +kernel
theorem dX11_amountOf_10 : decode cX11_amountOf 10 = .ok (.iconst 0, 1) := by decide +kernel
theorem dX11_amountOf_11 : decode cX11_amountOf 11 = .ok (.istore 5, 2) := by decide +kernel
theorem dX11_amountOf_13 : decode cX11_amountOf 13 = .ok (.iload 5, 2) := by decide +kernel
theorem dX11_amountOf_15 : decode cX11_amountOf 15 = .ok (.aload_n 2, 1) := by decide +kernel
theorem dX11_amountOf_16 : decode cX11_amountOf 16 = .ok (.getfield 173, 3) := by decide +kernel
theorem dX11_amountOf_19 : decode cX11_amountOf 19 = .ok (.if_icmp .ge 64, 3) := by decide +kernel
theorem dX11_amountOf_22 : decode cX11_amountOf 22 = .ok (.aload_n 2, 1) := by decide +kernel
theorem dX11_amountOf_23 : decode cX11_amountOf 23 = .ok (.iload 5, 2) := by decide +kernel
theorem dX11_amountOf_25 : decode cX11_amountOf 25 = .ok (.iconst 1, 1) := by decide +kernel
theorem dX11_amountOf_26 : decode cX11_amountOf 26 = .ok (.invokevirtual 157, 3) := by decide +kernel
theorem dX11_amountOf_29 : decode cX11_amountOf 29 = .ok (.istore 6, 2) := by decide +kernel
theorem dX11_amountOf_31 : decode cX11_amountOf 31 = .ok (.aload_n 2, 1) := by decide +kernel
theorem dX11_amountOf_32 : decode cX11_amountOf 32 = .ok (.iload 5, 2) := by decide +kernel
theorem dX11_amountOf_34 : decode cX11_amountOf 34 = .ok (.iconst 0, 1) := by decide +kernel
theorem dX11_amountOf_35 : decode cX11_amountOf 35 = .ok (.invokevirtual 157, 3) := by decide +kernel
theorem dX11_amountOf_38 : decode cX11_amountOf 38 = .ok (.iload_n 1, 1) := by decide +kernel
theorem dX11_amountOf_39 : decode cX11_amountOf 39 = .ok (.if_icmp .ne 38, 3) := by decide +kernel
theorem dX11_amountOf_42 : decode cX11_amountOf 42 = .ok (.aload_n 0, 1) := by decide +kernel
theorem dX11_amountOf_43 : decode cX11_amountOf 43 = .ok (.getfield 66, 3) := by decide +kernel
theorem dX11_amountOf_46 : decode cX11_amountOf 46 = .ok (.iload 6, 2) := by decide +kernel
theorem dX11_amountOf_48 : decode cX11_amountOf 48 = .ok (.invokevirtual 327, 3) := by decide +kernel
theorem dX11_amountOf_51 : decode cX11_amountOf 51 = .ok (.ifCond .eq 26, 3) := by decide +kernel
theorem dX11_amountOf_54 : decode cX11_amountOf 54 = .ok (.aload_n 0, 1) := by decide +kernel
theorem dX11_amountOf_55 : decode cX11_amountOf 55 = .ok (.getfield 66, 3) := by decide +kernel
theorem dX11_amountOf_58 : decode cX11_amountOf 58 = .ok (.iload 6, 2) := by decide +kernel
theorem dX11_amountOf_60 : decode cX11_amountOf 60 = .ok (.invokevirtual 354, 3) := by decide +kernel
theorem dX11_amountOf_63 : decode cX11_amountOf 63 = .ok (.ifCond .eq 14, 3) := by decide +kernel
theorem dX11_amountOf_66 : decode cX11_amountOf 66 = .ok (.lload_n 3, 1) := by decide +kernel
theorem dX11_amountOf_67 : decode cX11_amountOf 67 = .ok (.aload_n 2, 1) := by decide +kernel
theorem dX11_amountOf_68 : decode cX11_amountOf 68 = .ok (.iload 5, 2) := by decide +kernel
theorem dX11_amountOf_70 : decode cX11_amountOf 70 = .ok (.iconst 2, 1) := by decide +kernel
theorem dX11_amountOf_71 : decode cX11_amountOf 71 = .ok (.invokevirtual 157, 3) := by decide +kernel
theorem dX11_amountOf_74 : decode cX11_amountOf 74 = .ok (.i2l, 1) := by decide +kernel
theorem dX11_amountOf_75 : decode cX11_amountOf 75 = .ok (.ladd, 1) := by decide +kernel
theorem dX11_amountOf_76 : decode cX11_amountOf 76 = .ok (.lstore_n 3, 1) := by decide +kernel
theorem dX11_amountOf_77 : decode cX11_amountOf 77 = .ok (.iinc 5 1, 3) := by decide +kernel
theorem dX11_amountOf_80 : decode cX11_amountOf 80 = .ok (.goto (-67), 3) := by decide +kernel
theorem dX11_amountOf_83 : decode cX11_amountOf 83 = .ok (.lload_n 3, 1) := by decide +kernel
theorem dX11_amountOf_84 : decode cX11_amountOf 84 = .ok (.lconst 1, 1) := by decide +kernel
theorem dX11_amountOf_85 : decode cX11_amountOf 85 = .ok (.lcmp, 1) := by decide +kernel
theorem dX11_amountOf_86 : decode cX11_amountOf 86 = .ok (.ifCond .lt 13, 3) := by decide +kernel
theorem dX11_amountOf_89 : decode cX11_amountOf 89 = .ok (.aload_n 0, 1) := by decide +kernel
theorem dX11_amountOf_90 : decode cX11_amountOf 90 = .ok (.getfield 66, 3) := by decide +kernel
theorem dX11_amountOf_93 : decode cX11_amountOf 93 = .ok (.invokevirtual 289, 3) := by decide +kernel
theorem dX11_amountOf_96 : decode cX11_amountOf 96 = .ok (.ifCond .ne 7, 3) := by decide +kernel
theorem dX11_amountOf_99 : decode cX11_amountOf 99 = .ok (.ldc2_w 272, 3) := by decide +kernel
theorem dX11_amountOf_102 : decode cX11_amountOf 102 = .ok (.lreturn, 1) := by decide +kernel
theorem dX11_amountOf_103 : decode cX11_amountOf 103 = .ok (.aload_n 0, 1) := by decide +kernel
theorem dX11_amountOf_104 : decode cX11_amountOf 104 = .ok (.getfield 66, 3) := by decide +kernel
theorem dX11_amountOf_107 : decode cX11_amountOf 107 = .ok (.invokevirtual 264, 3) := by decide +kernel
theorem dX11_amountOf_110 : decode cX11_amountOf 110 = .ok (.i2l, 1) := by decide +kernel
theorem dX11_amountOf_111 : decode cX11_amountOf 111 = .ok (.lstore 5, 2) := by decide +kernel
theorem dX11_amountOf_113 : decode cX11_amountOf 113 = .ok (.lload 5, 2) := by decide +kernel
theorem dX11_amountOf_115 : decode cX11_amountOf 115 = .ok (.lconst 1, 1) := by decide +kernel
theorem dX11_amountOf_116 : decode cX11_amountOf 116 = .ok (.lcmp, 1) := by decide +kernel
theorem dX11_amountOf_117 : decode cX11_amountOf 117 = .ok (.ifCond .ge 7, 3) := by decide +kernel
theorem dX11_amountOf_120 : decode cX11_amountOf 120 = .ok (.lconst 0, 1) := by decide +kernel
theorem dX11_amountOf_121 : decode cX11_amountOf 121 = .ok (.goto 20, 3) := by decide +kernel
theorem dX11_amountOf_124 : decode cX11_amountOf 124 = .ok (.lload 5, 2) := by decide +kernel
theorem dX11_amountOf_126 : decode cX11_amountOf 126 = .ok (.aload_n 0, 1) := by decide +kernel
theorem dX11_amountOf_127 : decode cX11_amountOf 127 = .ok (.getfield 66, 3) := by decide +kernel
theorem dX11_amountOf_130 : decode cX11_amountOf 130 = .ok (.getfield 330, 3) := by decide +kernel
theorem dX11_amountOf_133 : decode cX11_amountOf 133 = .ok (.i2l, 1) := by decide +kernel
theorem dX11_amountOf_134 : decode cX11_amountOf 134 = .ok (.lmul, 1) := by decide +kernel
theorem dX11_amountOf_135 : decode cX11_amountOf 135 = .ok (.ldc2_w 316, 3) := by decide +kernel
theorem dX11_amountOf_138 : decode cX11_amountOf 138 = .ok (.lmul, 1) := by decide +kernel
theorem dX11_amountOf_139 : decode cX11_amountOf 139 = .ok (.lload_n 3, 1) := by decide +kernel
theorem dX11_amountOf_140 : decode cX11_amountOf 140 = .ok (.ldiv, 1) := by decide +kernel
theorem dX11_amountOf_141 : decode cX11_amountOf 141 = .ok (.lreturn, 1) := by decide +kernel
theorem wk_1101 : Cond.instanceMethod yX10_isTold ∈ tl_L := List.mem_filter.mpr ⟨lw_m5 (i := 58) rfl, rfl⟩
theorem wk_1102 : Cond.selects RX10 yX10_isTold yX10_isTold ∈ tl_L := List.mem_filter.mpr ⟨lw_s5 (i := 11) (q := (yX10_isTold, 18)) rfl, rfl⟩
theorem wk_1103 : Cond.code yX10_isTold cX10_isTold 2 (some .boolean) ∈ tl_L := List.mem_filter.mpr ⟨lw_m5 (i := 59) rfl, rfl⟩
theorem nk_15 : tl_N[15]? = some (Cond.fieldLinkNest "ThinLine" 173 "ThinLine$Table" "size" "I" "ThinLine") := by decide +kernel
theorem nk_22 : tl_N[22]? = some (Cond.fieldLinkNest "ThinLine" 170 "ThinLine$Book" "lines" "LThinLine$Table;" "ThinLine") := by decide +kernel
theorem lk_X11_157 : tl_kVN RX11 157 RX6 yX6_cell "ThinLine" cX6_cell 4 (some .int) 2 80 := ⟨wk_265, by decide +kernel, wk_263, wk_264, wk_64, ⟨by decide +kernel, by decide +kernel, by decide +kernel⟩⟩
theorem lk_X11_354 : tl_kVN RX11 354 RX10 yX10_isTold "ThinLine" cX10_isTold 2 (some .boolean) 1 132 := ⟨wk_1103, by decide +kernel, wk_1101, wk_1102, wk_41, ⟨by decide +kernel, by decide +kernel, by decide +kernel⟩⟩
theorem dX11_isElse_0 : decode cX11_isElse 0 = .ok (.aload_n 0, 1) := by decide +kernel
theorem dX11_isElse_1 : decode cX11_isElse 1 = .ok (.getfield 10, 3) := by decide +kernel
theorem dX11_isElse_4 : decode cX11_isElse 4 = .ok (.getfield 170, 3) := by decide +kernel
theorem dX11_isElse_7 : decode cX11_isElse 7 = .ok (.iload_n 2, 1) := by decide +kernel
theorem dX11_isElse_8 : decode cX11_isElse 8 = .ok (.iconst 1, 1) := by decide +kernel
theorem dX11_isElse_9 : decode cX11_isElse 9 = .ok (.invokevirtual 157, 3) := by decide +kernel
theorem dX11_isElse_12 : decode cX11_isElse 12 = .ok (.istore_n 3, 1) := by decide +kernel
theorem dX11_isElse_13 : decode cX11_isElse 13 = .ok (.aload_n 0, 1) := by decide +kernel
theorem dX11_isElse_14 : decode cX11_isElse 14 = .ok (.getfield 10, 3) := by decide +kernel
theorem dX11_isElse_17 : decode cX11_isElse 17 = .ok (.getfield 170, 3) := by decide +kernel
theorem dX11_isElse_20 : decode cX11_isElse 20 = .ok (.iload_n 2, 1) := by decide +kernel
theorem dX11_isElse_21 : decode cX11_isElse 21 = .ok (.iconst 0, 1) := by decide +kernel
theorem dX11_isElse_22 : decode cX11_isElse 22 = .ok (.invokevirtual 157, 3) := by decide +kernel
theorem dX11_isElse_25 : decode cX11_isElse 25 = .ok (.iload_n 1, 1) := by decide +kernel
theorem dX11_isElse_26 : decode cX11_isElse 26 = .ok (.if_icmp .ne 29, 3) := by decide +kernel
theorem dX11_isElse_29 : decode cX11_isElse 29 = .ok (.aload_n 0, 1) := by decide +kernel
theorem dX11_isElse_30 : decode cX11_isElse 30 = .ok (.getfield 66, 3) := by decide +kernel
theorem dX11_isElse_33 : decode cX11_isElse 33 = .ok (.iload_n 3, 1) := by decide +kernel
theorem dX11_isElse_34 : decode cX11_isElse 34 = .ok (.invokevirtual 327, 3) := by decide +kernel
theorem dX11_isElse_37 : decode cX11_isElse 37 = .ok (.ifCond .ne 18, 3) := by decide +kernel
theorem dX11_isElse_40 : decode cX11_isElse 40 = .ok (.aload_n 0, 1) := by decide +kernel
theorem dX11_isElse_41 : decode cX11_isElse 41 = .ok (.getfield 66, 3) := by decide +kernel
theorem dX11_isElse_44 : decode cX11_isElse 44 = .ok (.iload_n 3, 1) := by decide +kernel
theorem dX11_isElse_45 : decode cX11_isElse 45 = .ok (.invokevirtual 354, 3) := by decide +kernel
theorem dX11_isElse_48 : decode cX11_isElse 48 = .ok (.ifCond .eq 7, 3) := by decide +kernel
theorem dX11_isElse_51 : decode cX11_isElse 51 = .ok (.iconst 1, 1) := by decide +kernel
theorem dX11_isElse_52 : decode cX11_isElse 52 = .ok (.goto 4, 3) := by decide +kernel
theorem dX11_isElse_55 : decode cX11_isElse 55 = .ok (.iconst 0, 1) := by decide +kernel
theorem dX11_isElse_56 : decode cX11_isElse 56 = .ok (.ireturn, 1) := by decide +kernel
theorem dX11_elseOf_0 : decode cX11_elseOf 0 = .ok (.iconst 0, 1) := by decide +kernel
theorem dX11_elseOf_1 : decode cX11_elseOf 1 = .ok (.istore_n 2, 1) := by decide +kernel
theorem dX11_elseOf_2 : decode cX11_elseOf 2 = .ok (.iconst 0, 1) := by decide +kernel
theorem dX11_elseOf_3 : decode cX11_elseOf 3 = .ok (.istore_n 3, 1) := by decide +kernel
theorem dX11_elseOf_4 : decode cX11_elseOf 4 = .ok (.iload_n 3, 1) := by decide +kernel
theorem dX11_elseOf_5 : decode cX11_elseOf 5 = .ok (.aload_n 0, 1) := by decide +kernel
theorem dX11_elseOf_6 : decode cX11_elseOf 6 = .ok (.getfield 10, 3) := by decide +kernel
theorem dX11_elseOf_9 : decode cX11_elseOf 9 = .ok (.getfield 170, 3) := by decide +kernel
theorem dX11_elseOf_12 : decode cX11_elseOf 12 = .ok (.getfield 173, 3) := by decide +kernel
theorem dX11_elseOf_15 : decode cX11_elseOf 15 = .ok (.if_icmp .ge 26, 3) := by decide +kernel
theorem dX11_elseOf_18 : decode cX11_elseOf 18 = .ok (.iload_n 2, 1) := by decide +kernel
theorem dX11_elseOf_19 : decode cX11_elseOf 19 = .ok (.aload_n 0, 1) := by decide +kernel
theorem dX11_elseOf_20 : decode cX11_elseOf 20 = .ok (.iload_n 1, 1) := by decide +kernel
theorem dX11_elseOf_21 : decode cX11_elseOf 21 = .ok (.iload_n 3, 1) := by decide +kernel
theorem dX11_elseOf_22 : decode cX11_elseOf 22 = .ok (.invokevirtual 357, 3) := by decide +kernel
theorem dX11_elseOf_25 : decode cX11_elseOf 25 = .ok (.ifCond .eq 7, 3) := by decide +kernel
theorem dX11_elseOf_28 : decode cX11_elseOf 28 = .ok (.iconst 1, 1) := by decide +kernel
theorem dX11_elseOf_29 : decode cX11_elseOf 29 = .ok (.goto 4, 3) := by decide +kernel
theorem dX11_elseOf_32 : decode cX11_elseOf 32 = .ok (.iconst 0, 1) := by decide +kernel
theorem dX11_elseOf_33 : decode cX11_elseOf 33 = .ok (.iadd, 1) := by decide +kernel
theorem dX11_elseOf_34 : decode cX11_elseOf 34 = .ok (.istore_n 2, 1) := by decide +kernel
theorem dX11_elseOf_35 : decode cX11_elseOf 35 = .ok (.iinc 3 1, 3) := by decide +kernel
theorem dX11_elseOf_38 : decode cX11_elseOf 38 = .ok (.goto (-34), 3) := by decide +kernel
theorem dX11_elseOf_41 : decode cX11_elseOf 41 = .ok (.iload_n 2, 1) := by decide +kernel
theorem dX11_elseOf_42 : decode cX11_elseOf 42 = .ok (.ireturn, 1) := by decide +kernel
theorem wk_1108 : Cond.methodLink RX11 357 yX11_isElse ∈ tl_L := List.mem_filter.mpr ⟨lw_m5 (i := 64) rfl, rfl⟩
theorem wk_1109 : Cond.instanceMethod yX11_isElse ∈ tl_L := List.mem_filter.mpr ⟨lw_m5 (i := 66) rfl, rfl⟩
theorem wk_1110 : Cond.selects RX11 yX11_isElse yX11_isElse ∈ tl_L := List.mem_filter.mpr ⟨lw_s5 (i := 13) (q := (yX11_isElse, 16)) rfl, rfl⟩
theorem wk_1111 : Cond.code yX11_isElse cX11_isElse 4 (some .boolean) ∈ tl_L := List.mem_filter.mpr ⟨lw_m5 (i := 67) rfl, rfl⟩
theorem lk_X11_357 : tl_kV RX11 357 RX11 yX11_isElse cX11_isElse 4 (some .boolean) 2 := ⟨wk_1111, wk_1108, wk_1109, wk_1110, wk_2, ⟨by decide +kernel, by decide +kernel, by decide +kernel⟩⟩
theorem dX11_thereOf_0 : decode cX11_thereOf 0 = .ok (.iconst 0, 1) := by decide +kernel
theorem dX11_thereOf_1 : decode cX11_thereOf 1 = .ok (.istore 4, 2) := by decide +kernel
theorem dX11_thereOf_3 : decode cX11_thereOf 3 = .ok (.iconst 0, 1) := by decide +kernel
theorem dX11_thereOf_4 : decode cX11_thereOf 4 = .ok (.istore 5, 2) := by decide +kernel
theorem dX11_thereOf_6 : decode cX11_thereOf 6 = .ok (.lload_n 2, 1) := by decide +kernel
theorem dX11_thereOf_7 : decode cX11_thereOf 7 = .ok (.ldc2_w 272, 3) := by decide +kernel
theorem dX11_thereOf_10 : decode cX11_thereOf 10 = .ok (.lcmp, 1) := by decide +kernel
theorem dX11_thereOf_11 : decode cX11_thereOf 11 = .ok (.ifCond .eq 101, 3) := by decide +kernel
theorem dX11_thereOf_14 : decode cX11_thereOf 14 = .ok (.iload 5, 2) := by decide +kernel
theorem dX11_thereOf_16 : decode cX11_thereOf 16 = .ok (.aload_n 0, 1) := by decide +kernel
theorem dX11_thereOf_17 : decode cX11_thereOf 17 = .ok (.getfield 10, 3) := by decide +kernel
theorem dX11_thereOf_20 : decode cX11_thereOf 20 = .ok (.getfield 170, 3) := by decide +kernel
theorem dX11_thereOf_23 : decode cX11_thereOf 23 = .ok (.getfield 173, 3) := by decide +kernel
theorem dX11_thereOf_26 : decode cX11_thereOf 26 = .ok (.if_icmp .ge 86, 3) := by decide +kernel
theorem dX11_thereOf_29 : decode cX11_thereOf 29 = .ok (.aload_n 0, 1) := by decide +kernel
theorem dX11_thereOf_30 : decode cX11_thereOf 30 = .ok (.iload_n 1, 1) := by decide +kernel
theorem dX11_thereOf_31 : decode cX11_thereOf 31 = .ok (.iload 5, 2) := by decide +kernel
theorem dX11_thereOf_33 : decode cX11_thereOf 33 = .ok (.invokevirtual 357, 3) := by decide +kernel
theorem dX11_thereOf_36 : decode cX11_thereOf 36 = .ok (.ifCond .eq 70, 3) := by decide +kernel
theorem dX11_thereOf_39 : decode cX11_thereOf 39 = .ok (.lload_n 2, 1) := by decide +kernel
theorem dX11_thereOf_40 : decode cX11_thereOf 40 = .ok (.aload_n 0, 1) := by decide +kernel
theorem dX11_thereOf_41 : decode cX11_thereOf 41 = .ok (.getfield 10, 3) := by decide +kernel
theorem dX11_thereOf_44 : decode cX11_thereOf 44 = .ok (.getfield 170, 3) := by decide +kernel
theorem dX11_thereOf_47 : decode cX11_thereOf 47 = .ok (.iload 5, 2) := by decide +kernel
theorem dX11_thereOf_49 : decode cX11_thereOf 49 = .ok (.iconst 2, 1) := by decide +kernel
theorem dX11_thereOf_50 : decode cX11_thereOf 50 = .ok (.invokevirtual 157, 3) := by decide +kernel
theorem dX11_thereOf_53 : decode cX11_thereOf 53 = .ok (.i2l, 1) := by decide +kernel
theorem dX11_thereOf_54 : decode cX11_thereOf 54 = .ok (.lmul, 1) := by decide +kernel
theorem dX11_thereOf_55 : decode cX11_thereOf 55 = .ok (.ldc2_w 316, 3) := by decide +kernel
theorem dX11_thereOf_58 : decode cX11_thereOf 58 = .ok (.ldiv, 1) := by decide +kernel
theorem dX11_thereOf_59 : decode cX11_thereOf 59 = .ok (.lstore 6, 2) := by decide +kernel
theorem dX11_thereOf_61 : decode cX11_thereOf 61 = .ok (.aload_n 0, 1) := by decide +kernel
theorem dX11_thereOf_62 : decode cX11_thereOf 62 = .ok (.getfield 66, 3) := by decide +kernel
theorem dX11_thereOf_65 : decode cX11_thereOf 65 = .ok (.aload_n 0, 1) := by decide +kernel
theorem dX11_thereOf_66 : decode cX11_thereOf 66 = .ok (.getfield 10, 3) := by decide +kernel
theorem dX11_thereOf_69 : decode cX11_thereOf 69 = .ok (.getfield 170, 3) := by decide +kernel
theorem dX11_thereOf_72 : decode cX11_thereOf 72 = .ok (.iload 5, 2) := by decide +kernel
theorem dX11_thereOf_74 : decode cX11_thereOf 74 = .ok (.iconst 1, 1) := by decide +kernel
theorem dX11_thereOf_75 : decode cX11_thereOf 75 = .ok (.invokevirtual 157, 3) := by decide +kernel
theorem dX11_thereOf_78 : decode cX11_thereOf 78 = .ok (.invokevirtual 258, 3) := by decide +kernel
theorem dX11_thereOf_81 : decode cX11_thereOf 81 = .ok (.i2l, 1) := by decide +kernel
theorem dX11_thereOf_82 : decode cX11_thereOf 82 = .ok (.lstore 8, 2) := by decide +kernel
theorem dX11_thereOf_84 : decode cX11_thereOf 84 = .ok (.iload 4, 2) := by decide +kernel
theorem dX11_thereOf_86 : decode cX11_thereOf 86 = .ok (.ldc2_w 322, 3) := by decide +kernel
theorem dX11_thereOf_89 : decode cX11_thereOf 89 = .ok (.lload 8, 2) := by decide +kernel
theorem dX11_thereOf_91 : decode cX11_thereOf 91 = .ok (.lmul, 1) := by decide +kernel
theorem dX11_thereOf_92 : decode cX11_thereOf 92 = .ok (.lload 6, 2) := by decide +kernel
theorem dX11_thereOf_94 : decode cX11_thereOf 94 = .ok (.lcmp, 1) := by decide +kernel
theorem dX11_thereOf_95 : decode cX11_thereOf 95 = .ok (.ifCond .lt 7, 3) := by decide +kernel
theorem dX11_thereOf_98 : decode cX11_thereOf 98 = .ok (.iconst 1, 1) := by decide +kernel
theorem dX11_thereOf_99 : decode cX11_thereOf 99 = .ok (.goto 4, 3) := by decide +kernel
theorem dX11_thereOf_102 : decode cX11_thereOf 102 = .ok (.iconst 0, 1) := by decide +kernel
theorem dX11_thereOf_103 : decode cX11_thereOf 103 = .ok (.iadd, 1) := by decide +kernel
theorem dX11_thereOf_104 : decode cX11_thereOf 104 = .ok (.istore 4, 2) := by decide +kernel
theorem dX11_thereOf_106 : decode cX11_thereOf 106 = .ok (.iinc 5 1, 3) := by decide +kernel
theorem dX11_thereOf_109 : decode cX11_thereOf 109 = .ok (.goto (-103), 3) := by decide +kernel
theorem dX11_thereOf_112 : decode cX11_thereOf 112 = .ok (.iload 4, 2) := by decide +kernel
theorem dX11_thereOf_114 : decode cX11_thereOf 114 = .ok (.ireturn, 1) := by decide +kernel
theorem dX11_boundOf_0 : decode cX11_boundOf 0 = .ok (.ldc2_w 272, 3) := by decide +kernel
theorem dX11_boundOf_3 : decode cX11_boundOf 3 = .ok (.lstore_n 2, 1) := by decide +kernel
theorem dX11_boundOf_4 : decode cX11_boundOf 4 = .ok (.iconst 0, 1) := by decide +kernel
theorem dX11_boundOf_5 : decode cX11_boundOf 5 = .ok (.istore 4, 2) := by decide +kernel
theorem dX11_boundOf_7 : decode cX11_boundOf 7 = .ok (.aload_n 0, 1) := by decide +kernel
theorem dX11_boundOf_8 : decode cX11_boundOf 8 = .ok (.getfield 66, 3) := by decide +kernel
theorem dX11_boundOf_11 : decode cX11_boundOf 11 = .ok (.invokevirtual 252, 3) := by decide +kernel
theorem dX11_boundOf_14 : decode cX11_boundOf 14 = .ok (.ifCond .eq 123, 3) := by decide +kernel
theorem dX11_boundOf_17 : decode cX11_boundOf 17 = .ok (.iload 4, 2) := by decide +kernel
theorem dX11_boundOf_19 : decode cX11_boundOf 19 = .ok (.aload_n 0, 1) := by decide +kernel
theorem dX11_boundOf_20 : decode cX11_boundOf 20 = .ok (.getfield 10, 3) := by decide +kernel
theorem dX11_boundOf_23 : decode cX11_boundOf 23 = .ok (.getfield 170, 3) := by decide +kernel
theorem dX11_boundOf_26 : decode cX11_boundOf 26 = .ok (.getfield 173, 3) := by decide +kernel
theorem dX11_boundOf_29 : decode cX11_boundOf 29 = .ok (.if_icmp .ge 108, 3) := by decide +kernel
theorem dX11_boundOf_32 : decode cX11_boundOf 32 = .ok (.aload_n 0, 1) := by decide +kernel
theorem dX11_boundOf_33 : decode cX11_boundOf 33 = .ok (.getfield 10, 3) := by decide +kernel
theorem dX11_boundOf_36 : decode cX11_boundOf 36 = .ok (.getfield 170, 3) := by decide +kernel
theorem dX11_boundOf_39 : decode cX11_boundOf 39 = .ok (.iload 4, 2) := by decide +kernel
theorem dX11_boundOf_41 : decode cX11_boundOf 41 = .ok (.iconst 2, 1) := by decide +kernel
theorem dX11_boundOf_42 : decode cX11_boundOf 42 = .ok (.invokevirtual 157, 3) := by decide +kernel
theorem dX11_boundOf_45 : decode cX11_boundOf 45 = .ok (.istore 5, 2) := by decide +kernel
theorem dX11_boundOf_47 : decode cX11_boundOf 47 = .ok (.iload 5, 2) := by decide +kernel
theorem dX11_boundOf_49 : decode cX11_boundOf 49 = .ok (.ifCond .le 82, 3) := by decide +kernel
theorem dX11_boundOf_52 : decode cX11_boundOf 52 = .ok (.aload_n 0, 1) := by decide +kernel
theorem dX11_boundOf_53 : decode cX11_boundOf 53 = .ok (.iload_n 1, 1) := by decide +kernel
theorem dX11_boundOf_54 : decode cX11_boundOf 54 = .ok (.iload 4, 2) := by decide +kernel
theorem dX11_boundOf_56 : decode cX11_boundOf 56 = .ok (.invokevirtual 357, 3) := by decide +kernel
theorem dX11_boundOf_59 : decode cX11_boundOf 59 = .ok (.ifCond .eq 72, 3) := by decide +kernel
theorem dX11_boundOf_62 : decode cX11_boundOf 62 = .ok (.aload_n 0, 1) := by decide +kernel
theorem dX11_boundOf_63 : decode cX11_boundOf 63 = .ok (.getfield 66, 3) := by decide +kernel
theorem dX11_boundOf_66 : decode cX11_boundOf 66 = .ok (.invokevirtual 268, 3) := by decide +kernel
theorem dX11_boundOf_69 : decode cX11_boundOf 69 = .ok (.aload_n 0, 1) := by decide +kernel
theorem dX11_boundOf_70 : decode cX11_boundOf 70 = .ok (.getfield 66, 3) := by decide +kernel
theorem dX11_boundOf_73 : decode cX11_boundOf 73 = .ok (.aload_n 0, 1) := by decide +kernel
theorem dX11_boundOf_74 : decode cX11_boundOf 74 = .ok (.getfield 10, 3) := by decide +kernel
theorem dX11_boundOf_77 : decode cX11_boundOf 77 = .ok (.getfield 170, 3) := by decide +kernel
theorem dX11_boundOf_80 : decode cX11_boundOf 80 = .ok (.iload 4, 2) := by decide +kernel
theorem dX11_boundOf_82 : decode cX11_boundOf 82 = .ok (.iconst 1, 1) := by decide +kernel
theorem dX11_boundOf_83 : decode cX11_boundOf 83 = .ok (.invokevirtual 157, 3) := by decide +kernel
theorem dX11_boundOf_86 : decode cX11_boundOf 86 = .ok (.invokevirtual 258, 3) := by decide +kernel
theorem dX11_boundOf_89 : decode cX11_boundOf 89 = .ok (.i2l, 1) := by decide +kernel
theorem dX11_boundOf_90 : decode cX11_boundOf 90 = .ok (.lsub, 1) := by decide +kernel
theorem dX11_boundOf_91 : decode cX11_boundOf 91 = .ok (.lstore 6, 2) := by decide +kernel
theorem dX11_boundOf_93 : decode cX11_boundOf 93 = .ok (.lconst 0, 1) := by decide +kernel
theorem dX11_boundOf_94 : decode cX11_boundOf 94 = .ok (.lload 6, 2) := by decide +kernel
theorem dX11_boundOf_96 : decode cX11_boundOf 96 = .ok (.ldc2_w 316, 3) := by decide +kernel
theorem dX11_boundOf_99 : decode cX11_boundOf 99 = .ok (.lmul, 1) := by decide +kernel
theorem dX11_boundOf_100 : decode cX11_boundOf 100 = .ok (.iload 5, 2) := by decide +kernel
theorem dX11_boundOf_102 : decode cX11_boundOf 102 = .ok (.i2l, 1) := by decide +kernel
theorem dX11_boundOf_103 : decode cX11_boundOf 103 = .ok (.invokestatic 318, 3) := by decide +kernel
theorem dX11_boundOf_106 : decode cX11_boundOf 106 = .ok (.invokestatic 360, 3) := by decide +kernel
theorem dX11_boundOf_109 : decode cX11_boundOf 109 = .ok (.lstore 8, 2) := by decide +kernel
theorem dX11_boundOf_111 : decode cX11_boundOf 111 = .ok (.lload_n 2, 1) := by decide +kernel
theorem dX11_boundOf_112 : decode cX11_boundOf 112 = .ok (.ldc2_w 272, 3) := by decide +kernel
theorem dX11_boundOf_115 : decode cX11_boundOf 115 = .ok (.lcmp, 1) := by decide +kernel
theorem dX11_boundOf_116 : decode cX11_boundOf 116 = .ok (.ifCond .ne 8, 3) := by decide +kernel
theorem dX11_boundOf_119 : decode cX11_boundOf 119 = .ok (.lload 8, 2) := by decide +kernel
theorem dX11_boundOf_121 : decode cX11_boundOf 121 = .ok (.goto 9, 3) := by decide +kernel
theorem dX11_boundOf_124 : decode cX11_boundOf 124 = .ok (.lload_n 2, 1) := by decide +kernel
theorem dX11_boundOf_125 : decode cX11_boundOf 125 = .ok (.lload 8, 2) := by decide +kernel
theorem dX11_boundOf_127 : decode cX11_boundOf 127 = .ok (.invokestatic 362, 3) := by decide +kernel
theorem dX11_boundOf_130 : decode cX11_boundOf 130 = .ok (.lstore_n 2, 1) := by decide +kernel
theorem dX11_boundOf_131 : decode cX11_boundOf 131 = .ok (.iinc 4 1, 3) := by decide +kernel
theorem dX11_boundOf_134 : decode cX11_boundOf 134 = .ok (.goto (-127), 3) := by decide +kernel
theorem dX11_boundOf_137 : decode cX11_boundOf 137 = .ok (.lload_n 2, 1) := by decide +kernel
theorem dX11_boundOf_138 : decode cX11_boundOf 138 = .ok (.lreturn, 1) := by decide +kernel
theorem dX11_stuff_0 : decode cX11_stuff 0 = .ok (.iload_n 3, 1) := by decide +kernel
theorem dX11_stuff_1 : decode cX11_stuff 1 = .ok (.invokestatic 164, 3) := by decide +kernel
theorem dX11_stuff_4 : decode cX11_stuff 4 = .ok (.ifCond .eq 23, 3) := by decide +kernel
theorem dX11_stuff_7 : decode cX11_stuff 7 = .ok (.iload 4, 2) := by decide +kernel
theorem dX11_stuff_9 : decode cX11_stuff 9 = .ok (.iconst 0, 1) := by decide +kernel
theorem dX11_stuff_10 : decode cX11_stuff 10 = .ok (.iconst 3, 1) := by decide +kernel
theorem dX11_stuff_11 : decode cX11_stuff 11 = .ok (.invokestatic 105, 3) := by decide +kernel
theorem dX11_stuff_14 : decode cX11_stuff 14 = .ok (.ifCond .eq 13, 3) := by decide +kernel
theorem dX11_stuff_17 : decode cX11_stuff 17 = .ok (.aload_n 0, 1) := by decide +kernel
theorem dX11_stuff_18 : decode cX11_stuff 18 = .ok (.iload_n 1, 1) := by decide +kernel
theorem dX11_stuff_19 : decode cX11_stuff 19 = .ok (.iload_n 2, 1) := by decide +kernel
theorem dX11_stuff_20 : decode cX11_stuff 20 = .ok (.iconst (-1), 1) := by decide +kernel
theorem dX11_stuff_21 : decode cX11_stuff 21 = .ok (.invokevirtual 246, 3) := by decide +kernel
theorem dX11_stuff_24 : decode cX11_stuff 24 = .ok (.ifCond .ne 7, 3) := by decide +kernel
theorem dX11_stuff_27 : decode cX11_stuff 27 = .ok (.ldc2_w 322, 3) := by decide +kernel
theorem dX11_stuff_30 : decode cX11_stuff 30 = .ok (.lreturn, 1) := by decide +kernel
theorem dX11_stuff_31 : decode cX11_stuff 31 = .ok (.iload 4, 2) := by decide +kernel
theorem dX11_stuff_33 : decode cX11_stuff 33 = .ok (.tableswitch 52 0 2 #[27, 33, 40], 27) := by decide +kernel
theorem dX11_stuff_60 : decode cX11_stuff 60 = .ok (.aload_n 0, 1) := by decide +kernel
theorem dX11_stuff_61 : decode cX11_stuff 61 = .ok (.iload_n 3, 1) := by decide +kernel
theorem dX11_stuff_62 : decode cX11_stuff 62 = .ok (.invokevirtual 340, 3) := by decide +kernel
theorem dX11_stuff_65 : decode cX11_stuff 65 = .ok (.lreturn, 1) := by decide +kernel
theorem dX11_stuff_66 : decode cX11_stuff 66 = .ok (.aload_n 0, 1) := by decide +kernel
theorem dX11_stuff_67 : decode cX11_stuff 67 = .ok (.iload_n 3, 1) := by decide +kernel
theorem dX11_stuff_68 : decode cX11_stuff 68 = .ok (.invokevirtual 344, 3) := by decide +kernel
theorem dX11_stuff_71 : decode cX11_stuff 71 = .ok (.i2l, 1) := by decide +kernel
theorem dX11_stuff_72 : decode cX11_stuff 72 = .ok (.lreturn, 1) := by decide +kernel
theorem dX11_stuff_73 : decode cX11_stuff 73 = .ok (.aload_n 0, 1) := by decide +kernel
theorem dX11_stuff_74 : decode cX11_stuff 74 = .ok (.iload_n 3, 1) := by decide +kernel
theorem dX11_stuff_75 : decode cX11_stuff 75 = .ok (.aload_n 0, 1) := by decide +kernel
theorem dX11_stuff_76 : decode cX11_stuff 76 = .ok (.iload_n 3, 1) := by decide +kernel
theorem dX11_stuff_77 : decode cX11_stuff 77 = .ok (.invokevirtual 340, 3) := by decide +kernel
theorem dX11_stuff_80 : decode cX11_stuff 80 = .ok (.invokevirtual 347, 3) := by decide +kernel
theorem dX11_stuff_83 : decode cX11_stuff 83 = .ok (.i2l, 1) := by decide +kernel
theorem dX11_stuff_84 : decode cX11_stuff 84 = .ok (.lreturn, 1) := by decide +kernel
theorem dX11_stuff_85 : decode cX11_stuff 85 = .ok (.aload_n 0, 1) := by decide +kernel
theorem dX11_stuff_86 : decode cX11_stuff 86 = .ok (.iload_n 3, 1) := by decide +kernel
theorem dX11_stuff_87 : decode cX11_stuff 87 = .ok (.invokevirtual 351, 3) := by decide +kernel
theorem dX11_stuff_90 : decode cX11_stuff 90 = .ok (.lreturn, 1) := by decide +kernel
theorem wk_315 : Cond.methodLink RX11 164 yX11_isStuff ∈ tl_L := List.mem_filter.mpr ⟨lw_m3 (i := 36) rfl, rfl⟩
theorem wk_316 : Cond.static yX11_isStuff ∈ tl_L := List.mem_filter.mpr ⟨lw_m3 (i := 37) rfl, rfl⟩
theorem wk_317 : Cond.code yX11_isStuff cX11_isStuff 1 (some .boolean) ∈ tl_L := List.mem_filter.mpr ⟨lw_m3 (i := 38) rfl, rfl⟩
theorem wk_1097 : Cond.methodLink RX11 340 yX11_amountOf ∈ tl_L := List.mem_filter.mpr ⟨lw_m5 (i := 52) rfl, rfl⟩
theorem wk_1098 : Cond.instanceMethod yX11_amountOf ∈ tl_L := List.mem_filter.mpr ⟨lw_m5 (i := 54) rfl, rfl⟩
theorem wk_1099 : Cond.selects RX11 yX11_amountOf yX11_amountOf ∈ tl_L := List.mem_filter.mpr ⟨lw_s5 (i := 10) (q := (yX11_amountOf, 16)) rfl, rfl⟩
theorem wk_1100 : Cond.code yX11_amountOf cX11_amountOf 7 (some .long) ∈ tl_L := List.mem_filter.mpr ⟨lw_m5 (i := 55) rfl, rfl⟩
theorem wk_1104 : Cond.methodLink RX11 344 yX11_elseOf ∈ tl_L := List.mem_filter.mpr ⟨lw_m5 (i := 60) rfl, rfl⟩
theorem wk_1105 : Cond.instanceMethod yX11_elseOf ∈ tl_L := List.mem_filter.mpr ⟨lw_m5 (i := 62) rfl, rfl⟩
theorem wk_1106 : Cond.selects RX11 yX11_elseOf yX11_elseOf ∈ tl_L := List.mem_filter.mpr ⟨lw_s5 (i := 12) (q := (yX11_elseOf, 16)) rfl, rfl⟩
theorem wk_1107 : Cond.code yX11_elseOf cX11_elseOf 4 (some .int) ∈ tl_L := List.mem_filter.mpr ⟨lw_m5 (i := 63) rfl, rfl⟩
theorem wk_1112 : Cond.methodLink RX11 347 yX11_thereOf ∈ tl_L := List.mem_filter.mpr ⟨lw_m5 (i := 68) rfl, rfl⟩
theorem wk_1113 : Cond.instanceMethod yX11_thereOf ∈ tl_L := List.mem_filter.mpr ⟨lw_m5 (i := 70) rfl, rfl⟩
theorem wk_1114 : Cond.selects RX11 yX11_thereOf yX11_thereOf ∈ tl_L := List.mem_filter.mpr ⟨lw_s5 (i := 14) (q := (yX11_thereOf, 16)) rfl, rfl⟩
theorem wk_1115 : Cond.code yX11_thereOf cX11_thereOf 10 (some .int) ∈ tl_L := List.mem_filter.mpr ⟨lw_m5 (i := 71) rfl, rfl⟩
theorem wk_1116 : Cond.methodLink RX11 351 yX11_boundOf ∈ tl_L := List.mem_filter.mpr ⟨lw_m5 (i := 72) rfl, rfl⟩
theorem wk_1117 : Cond.instanceMethod yX11_boundOf ∈ tl_L := List.mem_filter.mpr ⟨lw_m5 (i := 74) rfl, rfl⟩
theorem wk_1118 : Cond.selects RX11 yX11_boundOf yX11_boundOf ∈ tl_L := List.mem_filter.mpr ⟨lw_s5 (i := 15) (q := (yX11_boundOf, 16)) rfl, rfl⟩
theorem wk_1119 : Cond.code yX11_boundOf cX11_boundOf 10 (some .long) ∈ tl_L := List.mem_filter.mpr ⟨lw_m5 (i := 75) rfl, rfl⟩
theorem lk_X11_164 : tl_kS RX11 164 yX11_isStuff cX11_isStuff 1 (some .boolean) 1 := ⟨wk_317, wk_315, wk_316, wk_2, ⟨by decide +kernel, by decide +kernel, by decide +kernel⟩⟩
theorem lk_X11_340 : tl_kV RX11 340 RX11 yX11_amountOf cX11_amountOf 7 (some .long) 1 := ⟨wk_1100, wk_1097, wk_1098, wk_1099, wk_2, ⟨by decide +kernel, by decide +kernel, by decide +kernel⟩⟩
theorem lk_X11_344 : tl_kV RX11 344 RX11 yX11_elseOf cX11_elseOf 4 (some .int) 1 := ⟨wk_1107, wk_1104, wk_1105, wk_1106, wk_2, ⟨by decide +kernel, by decide +kernel, by decide +kernel⟩⟩
theorem lk_X11_347 : tl_kV RX11 347 RX11 yX11_thereOf cX11_thereOf 10 (some .int) 2 := ⟨wk_1115, wk_1112, wk_1113, wk_1114, wk_2, ⟨by decide +kernel, by decide +kernel, by decide +kernel⟩⟩
theorem lk_X11_351 : tl_kV RX11 351 RX11 yX11_boundOf cX11_boundOf 10 (some .long) 1 := ⟨wk_1119, wk_1116, wk_1117, wk_1118, wk_2, ⟨by decide +kernel, by decide +kernel, by decide +kernel⟩⟩
theorem dX11_likeliest_0 : decode cX11_likeliest 0 = .ok (.aload_n 0, 1) := by decide +kernel
theorem dX11_likeliest_1 : decode cX11_likeliest 1 = .ok (.iload_n 1, 1) := by decide +kernel
theorem dX11_likeliest_2 : decode cX11_likeliest 2 = .ok (.iload_n 2, 1) := by decide +kernel
theorem dX11_likeliest_3 : decode cX11_likeliest 3 = .ok (.iconst (-1), 1) := by decide +kernel
theorem dX11_likeliest_4 : decode cX11_likeliest 4 = .ok (.invokevirtual 246, 3) := by decide +kernel
theorem dX11_likeliest_7 : decode cX11_likeliest 7 = .ok (.ifCond .ne 5, 3) := by decide +kernel
theorem dX11_likeliest_10 : decode cX11_likeliest 10 = .ok (.iconst (-1), 1) := by decide +kernel
theorem dX11_likeliest_11 : decode cX11_likeliest 11 = .ok (.ireturn, 1) := by decide +kernel
theorem dX11_likeliest_12 : decode cX11_likeliest 12 = .ok (.bipush (-2), 2) := by decide +kernel
theorem dX11_likeliest_14 : decode cX11_likeliest 14 = .ok (.istore_n 3, 1) := by decide +kernel
theorem dX11_likeliest_15 : decode cX11_likeliest 15 = .ok (.iconst 0, 1) := by decide +kernel
theorem dX11_likeliest_16 : decode cX11_likeliest 16 = .ok (.istore 4, 2) := by decide +kernel
theorem dX11_likeliest_18 : decode cX11_likeliest 18 = .ok (.iconst 1, 1) := by decide +kernel
theorem dX11_likeliest_19 : decode cX11_likeliest 19 = .ok (.istore 5, 2) := by decide +kernel
theorem dX11_likeliest_21 : decode cX11_likeliest 21 = .ok (.iconst 0, 1) := by decide +kernel
theorem dX11_likeliest_22 : decode cX11_likeliest 22 = .ok (.istore 6, 2) := by decide +kernel
theorem dX11_likeliest_24 : decode cX11_likeliest 24 = .ok (.iload 6, 2) := by decide +kernel
theorem dX11_likeliest_26 : decode cX11_likeliest 26 = .ok (.bipush 12, 2) := by decide +kernel
theorem dX11_likeliest_28 : decode cX11_likeliest 28 = .ok (.if_icmp .ge 76, 3) := by decide +kernel
theorem dX11_likeliest_31 : decode cX11_likeliest 31 = .ok (.aload_n 0, 1) := by decide +kernel
theorem dX11_likeliest_32 : decode cX11_likeliest 32 = .ok (.iload 6, 2) := by decide +kernel
theorem dX11_likeliest_34 : decode cX11_likeliest 34 = .ok (.invokevirtual 340, 3) := by decide +kernel
theorem dX11_likeliest_37 : decode cX11_likeliest 37 = .ok (.lstore 7, 2) := by decide +kernel
theorem dX11_likeliest_39 : decode cX11_likeliest 39 = .ok (.aload_n 0, 1) := by decide +kernel
theorem dX11_likeliest_40 : decode cX11_likeliest 40 = .ok (.iload 6, 2) := by decide +kernel
theorem dX11_likeliest_42 : decode cX11_likeliest 42 = .ok (.lload 7, 2) := by decide +kernel
theorem dX11_likeliest_44 : decode cX11_likeliest 44 = .ok (.invokevirtual 347, 3) := by decide +kernel
theorem dX11_likeliest_47 : decode cX11_likeliest 47 = .ok (.istore 9, 2) := by decide +kernel
theorem dX11_likeliest_49 : decode cX11_likeliest 49 = .ok (.iconst 1, 1) := by decide +kernel
theorem dX11_likeliest_50 : decode cX11_likeliest 50 = .ok (.aload_n 0, 1) := by decide +kernel
theorem dX11_likeliest_51 : decode cX11_likeliest 51 = .ok (.iload 6, 2) := by decide +kernel
theorem dX11_likeliest_53 : decode cX11_likeliest 53 = .ok (.invokevirtual 344, 3) := by decide +kernel
theorem dX11_likeliest_56 : decode cX11_likeliest 56 = .ok (.invokestatic 333, 3) := by decide +kernel
theorem dX11_likeliest_59 : decode cX11_likeliest 59 = .ok (.istore 10, 2) := by decide +kernel
theorem dX11_likeliest_61 : decode cX11_likeliest 61 = .ok (.lload 7, 2) := by decide +kernel
theorem dX11_likeliest_63 : decode cX11_likeliest 63 = .ok (.ldc2_w 272, 3) := by decide +kernel
theorem dX11_likeliest_66 : decode cX11_likeliest 66 = .ok (.lcmp, 1) := by decide +kernel
theorem dX11_likeliest_67 : decode cX11_likeliest 67 = .ok (.ifCond .eq 31, 3) := by decide +kernel
theorem dX11_likeliest_70 : decode cX11_likeliest 70 = .ok (.iload_n 3, 1) := by decide +kernel
theorem dX11_likeliest_71 : decode cX11_likeliest 71 = .ok (.ifCond .lt 16, 3) := by decide +kernel
theorem dX11_likeliest_74 : decode cX11_likeliest 74 = .ok (.iload 9, 2) := by decide +kernel
theorem dX11_likeliest_76 : decode cX11_likeliest 76 = .ok (.iload 5, 2) := by decide +kernel
theorem dX11_likeliest_78 : decode cX11_likeliest 78 = .ok (.imul, 1) := by decide +kernel
theorem dX11_likeliest_79 : decode cX11_likeliest 79 = .ok (.iload 4, 2) := by decide +kernel
theorem dX11_likeliest_81 : decode cX11_likeliest 81 = .ok (.iload 10, 2) := by decide +kernel
theorem dX11_likeliest_83 : decode cX11_likeliest 83 = .ok (.imul, 1) := by decide +kernel
theorem dX11_likeliest_84 : decode cX11_likeliest 84 = .ok (.if_icmp .le 14, 3) := by decide +kernel
theorem dX11_likeliest_87 : decode cX11_likeliest 87 = .ok (.iload 6, 2) := by decide +kernel
theorem dX11_likeliest_89 : decode cX11_likeliest 89 = .ok (.istore_n 3, 1) := by decide +kernel
theorem dX11_likeliest_90 : decode cX11_likeliest 90 = .ok (.iload 9, 2) := by decide +kernel
theorem dX11_likeliest_92 : decode cX11_likeliest 92 = .ok (.istore 4, 2) := by decide +kernel
theorem dX11_likeliest_94 : decode cX11_likeliest 94 = .ok (.iload 10, 2) := by decide +kernel
theorem dX11_likeliest_96 : decode cX11_likeliest 96 = .ok (.istore 5, 2) := by decide +kernel
theorem dX11_likeliest_98 : decode cX11_likeliest 98 = .ok (.iinc 6 1, 3) := by decide +kernel
theorem dX11_likeliest_101 : decode cX11_likeliest 101 = .ok (.goto (-77), 3) := by decide +kernel
theorem dX11_likeliest_104 : decode cX11_likeliest 104 = .ok (.iload_n 3, 1) := by decide +kernel
theorem dX11_likeliest_105 : decode cX11_likeliest 105 = .ok (.ireturn, 1) := by decide +kernel
set_option maxHeartbeats 4000000 in
set_option maxRecDepth 100000 in
theorem t_X11_amountOf (l : Launch) (D : va_G) (cy : Nat → ClassId) (sz : Nat) (L : List Nat) (K : Nat → tk_K) (Γ : tk_G) (f : Nat → va_E) (o : Nat) (p0 : Int32) (ho : tp_r L K 0 (0) 0 o) : Met l yX11_amountOf (tl_w yX11_amountOf cX11_amountOf 7 (some .long)) ({ frames := 3, cells := 0, slots := 0, locals := 63 }) (va_Pc [.ref o, .int p0] (tp_P D cy L K Γ f sz)) (vp_Sl (fun r : Int64 => True)) 0 0 (fun _ => False) := by
  refine Met.ofW (cc := cX11_amountOf) (maxL := 7) (ret := (some .long)) (by decide) rfl ?_
  intro p e s m args below meth c s₁ B hml hv
  obtain ⟨rfl, hsz, hP, hK, hL, hI, hN, hU⟩ := hv
  have hx := B.exec
  have hb := B.bytes
  have hr := B.returns
  have hta := tl_hta (atoms_spec (ws := tl_w yX11_amountOf cX11_amountOf 7 (some .long)) B.pre)
  have hown : s.vm.findClass RX11 = some m.cls := findClass_of_methodNamed B.named
  have hlocks := B.notSynchronized
  subst hsz
  have hI0 := hI
  have hl := lv_entry ([.ref o, .int p0]) (n := 7) (Nat.le_of_ble_eq_true rfl)
  rw [lg_entry_eq]
  generalize (lg_sl ([.ref o, .int p0]) ++ List.replicate (7 - (lg_sl ([.ref o, .int p0])).length) Slot.unset).toArray = ls at hl ⊢
  have hl : lv_has ls 7 [(0, .ref o), (1, .int p0)] := hl
  refine lv_aload_n hx hb dX11_amountOf_0 rfl (lv_at hl 0 rfl) ?_
  obtain ⟨x_2, x_3, x_4, x_5, x_6, x_7, x_8, x_9, x_10, x_11, x_12, x_13, x_14, x_15, x_16, x_17, hf_1, hx_2, hx_3, hx_4, hx_5, hx_6, hx_7, hx_8, hx_9, hx_10, hx_11, hx_12, hx_13, hx_14, hx_15, hx_16, hx_17⟩ := (show tp_o_X L K (0) 0 (Γ (0, 0, 0)) (f o) from hI0.at ho)
  refine tp_get (cy := cy) (ci := 11) (v := .ref x_2) (C := RX11) (T := TX11) (N := 16) hx hb hta inlX11 hown hK hP ho.1 hf_1 rfl 0 (by decide) (hta _ wk_15) (fun _ h9 => h9) rfl dX11_amountOf_1 ?_
  obtain ⟨x_19, x_20, x_21, x_22, x_23, x_24, x_25, x_26, x_27, hf_18, hx_19, hx_20, hx_21, hx_22, hx_23, hx_24, hx_25, hx_26, hx_27⟩ := (show tp_o_BOOK L K (0) 0 (Γ (1, 0, 0)) (f x_2) from hI0.at hx_2)
  refine tp_getN (cy := cy) (ci := 0) (v := .ref x_23) (C := RX0) (T := TX0) (N := 9) hx hb hta inlX0 hown hK hP hx_2.1 hf_18 rfl 4 (by decide) (va_Nw.use rfl (hN.1 22 _ nk_22)) (fun _ h9 => h9) rfl dX11_amountOf_4 ?_
  refine lv_astore_n (lv' := [(2, .ref x_23), (0, .ref o), (1, .int p0)]) hx hb dX11_amountOf_7 rfl hl (by decide) rfl (fun ls hl => ?_)
  refine lv_lconst (v := 0) hx hb dX11_amountOf_8 (by decide) ?_
  refine lv_lstore_n (lv' := [(3, .long 0), (2, .ref x_23), (0, .ref o), (1, .int p0)]) hx hb dX11_amountOf_9 rfl hl (by decide) rfl (fun ls hl => ?_)
  refine lv_iconst (v := 0) hx hb dX11_amountOf_10 (by decide) ?_
  refine lv_istore (lv' := [(5, .int 0), (3, .long 0), (2, .ref x_23), (0, .ref o), (1, .int p0)]) hx hb dX11_amountOf_11 hl (by decide) rfl (fun ls hl => ?_)
  refine tl_indR (G := fun ls => W p l e ((headSpec (tl_w yX11_amountOf cX11_amountOf 7 (some .long)) ({ frames := 3, cells := 0, slots := 0, locals := 63 })).room) s m #[.ref o, .int p0] below meth c s.heap [] 0 0 (MQ below (vp_Sl (fun r : Int64 => True)) #[.ref o, .int p0] s 0 0 (fun _ => False)) (F0 m 13 ls [])) (α := Int32 × Int64) (fun aq => (60 - aq.1.toInt).toNat) (fun aq ls => (0 ≤ aq.1.toInt) ∧ (aq.1.toInt ≤ 60) ∧ lv_has ls 7 [(5, .int aq.1), (3, .long aq.2), (2, .ref x_23), (0, .ref o), (1, .int p0)]) ?_ ((0 : Int32), (0 : Int64)) ls ⟨(show 0 ≤ (0 : Int) from (by omega)), (show (0 : Int) ≤ 60 from (by omega)), lv_sub hl [0, 1, 2, 3, 4] rfl⟩
  rintro ⟨v5, v3⟩ ls ⟨h0, h1, hl⟩ ih13
  have h0 : 0 ≤ v5.toInt := h0
  have h1 : v5.toInt ≤ 60 := h1
  have hl : lv_has ls 7 [(5, .int v5), (3, .long v3), (2, .ref x_23), (0, .ref o), (1, .int p0)] := hl
  refine lv_iload hx hb dX11_amountOf_13 (lv_at hl 0 rfl) ?_
  refine lv_aload_n hx hb dX11_amountOf_15 rfl (lv_at hl 2 rfl) ?_
  obtain ⟨x_29, x_30, x_31, hf_28, hx_29, hx_30, hx_31⟩ := (show tp_o_TABLE L K (60) 0 (Γ (7, 60, 0)) (f x_23) from hI0.at hx_23)
  refine tp_getN (cy := cy) (ci := 6) (v := .int x_31) (C := RX6) (T := TX6) (N := 3) hx hb hta inlX6 hown hK hP hx_23.1 hf_28 rfl 2 (by decide) (va_Nw.use rfl (hN.1 15 _ nk_15)) (fun _ h9 => h9) rfl dX11_amountOf_16 ?_
  refine lv_icmp_ge (tgt := 83) hx hb dX11_amountOf_19 (by decide) (fun c_32 => ?_) (fun c_32 => ?_)
  · have c_32 : x_31.toInt ≤ v5.toInt := tl_le c_32
    refine lv_lload_n hx hb dX11_amountOf_83 rfl (lv_at hl 1 rfl) ?_
    refine lv_lconst (v := 1) hx hb dX11_amountOf_84 (by decide) ?_
    refine W.lcmp hx hb dX11_amountOf_85 ?_
    refine lv_if_lt (tgt := 99) hx hb dX11_amountOf_86 (by decide) (fun c_33 => ?_) (fun c_33 => ?_)
    · have c_33 : v3.toInt < (1 : Int) := tl_cmp_lt c_33
      refine lv_ldc2 (v := (-1)) hx hb hown (hta _ wk_962) dX11_amountOf_99 ?_
      exact W.lret (v := (-1)) hx hb hr (fun t ht hW => ⟨_, rfl, trivial, ht⟩) (fun q h => by cases h) dX11_amountOf_102
    · have c_33 : v3.toInt ≥ (1 : Int) := tl_cmp_nlt c_33
      refine lv_aload_n hx hb dX11_amountOf_89 rfl (lv_at hl 3 rfl) ?_
      refine tp_get (cy := cy) (ci := 11) (v := .ref x_11) (C := RX11) (T := TX11) (N := 16) hx hb hta inlX11 hown hK hP ho.1 hf_1 rfl 9 (by decide) (hta _ wk_42) (fun _ h9 => h9) rfl dX11_amountOf_90 ?_
      obtain ⟨x_35, x_36, x_37, x_38, x_39, x_40, x_41, x_42, x_43, x_44, x_45, x_46, x_47, x_48, x_49, x_50, x_51, x_52, hf_34, hx_35, hx_36, hx_37, hx_38, hx_39, hx_40, hx_41, hx_42, hx_43, hx_45, hx_48⟩ := (show tp_o_VIEW L K (0) 0 (Γ (27, 0, 0)) (f x_11) from hI0.at hx_11)
      refine tl_si (tq_rVN hN (As := []) (rest := []) ⟨hx, hb, hml, hown, hta⟩ (tp_P.pre hK hN hL hU hI hP) (tp_recv hK hP hx_11.1 hf_34 rfl) lk_X11_289 (t_X10_hasDeep l D cy s.heap.size L K Γ f x_11 hx_11) rfl rfl ⟨Nat.le_of_ble_eq_true rfl, Nat.le_of_ble_eq_true rfl⟩ rfl hl.1 rfl (Nat.le_of_ble_eq_true rfl) dX11_amountOf_93 ⟨Nat.le_of_ble_eq_true rfl, Nat.le_of_ble_eq_true rfl⟩) (fun r_54 hw_53 => ?_)
      have hw_53 : tl_J r_54 (tv_gc (f x_11)) := hw_53
      refine lv_if_ne (tgt := 103) hx hb dX11_amountOf_96 (by decide) (fun c_55 => ?_) (fun c_55 => ?_)
      · have c_55 := hw_53.t c_55
        refine lv_aload_n hx hb dX11_amountOf_103 rfl (lv_at hl 3 rfl) ?_
        refine tp_get (cy := cy) (ci := 11) (v := .ref x_11) (C := RX11) (T := TX11) (N := 16) hx hb hta inlX11 hown hK hP ho.1 hf_1 rfl 9 (by decide) (hta _ wk_42) (fun _ h9 => h9) rfl dX11_amountOf_104 ?_
        refine tl_si (tq_rVN hN (As := []) (rest := []) ⟨hx, hb, hml, hown, hta⟩ (tp_P.pre hK hN hL hU hI hP) (tp_recv hK hP hx_11.1 hf_34 rfl) lk_X11_264 (t_X10_deepness l D cy s.heap.size L K Γ f x_11 hx_11) rfl rfl ⟨Nat.le_of_ble_eq_true rfl, Nat.le_of_ble_eq_true rfl⟩ rfl hl.1 rfl (Nat.le_of_ble_eq_true rfl) dX11_amountOf_107 ⟨Nat.le_of_ble_eq_true rfl, Nat.le_of_ble_eq_true rfl⟩) (fun r_57 hw_56 => ?_)
        refine lv_i2l (v := r_57.toInt64) hx hb dX11_amountOf_110 (by first | rfl | decide) ?_
        refine lv_lstore (lv' := [(5, .long r_57.toInt64), (3, .long v3), (2, .ref x_23), (0, .ref o), (1, .int p0)]) hx hb dX11_amountOf_111 hl (by decide) rfl (fun ls hl => ?_)
        refine lv_lload hx hb dX11_amountOf_113 (lv_at hl 0 rfl) ?_
        refine lv_lconst (v := 1) hx hb dX11_amountOf_115 (by decide) ?_
        refine W.lcmp hx hb dX11_amountOf_116 ?_
        refine lv_if_ge (tgt := 124) hx hb dX11_amountOf_117 (by decide) (fun c_58 => ?_) (fun c_58 => ?_)
        · have c_58 : r_57.toInt ≥ (1 : Int) := by have h9 := tl_cmp_ge c_58; simp only [Int32.toInt_toInt64] at h9; exact h9
          refine lv_lload hx hb dX11_amountOf_124 (lv_at hl 0 rfl) ?_
          refine lv_aload_n hx hb dX11_amountOf_126 rfl (lv_at hl 3 rfl) ?_
          refine tp_get (cy := cy) (ci := 11) (v := .ref x_11) (C := RX11) (T := TX11) (N := 16) hx hb hta inlX11 hown hK hP ho.1 hf_1 rfl 9 (by decide) (hta _ wk_42) (fun _ h9 => h9) rfl dX11_amountOf_127 ?_
          refine tp_getN (cy := cy) (ci := 10) (v := .int x_49) (C := RX10) (T := TX10) (N := 18) hx hb hta inlX10 hown hK hP hx_11.1 hf_34 rfl 14 (by decide) (va_Nw.use rfl (hN.1 69 _ nk_69)) (fun _ h9 => h9) rfl dX11_amountOf_130 ?_
          refine lv_i2l (v := x_49.toInt64) hx hb dX11_amountOf_133 (by first | rfl | decide) ?_
          refine lv_lmul hx hb dX11_amountOf_134 ?_
          refine lv_topl (fun z_59 ez_59 => ?_)
          refine lv_ldc2 (v := 1000) hx hb hown (hta _ wk_1054) dX11_amountOf_135 ?_
          refine lv_lmul hx hb dX11_amountOf_138 ?_
          refine lv_topl (fun z_60 ez_60 => ?_)
          refine lv_lload_n hx hb dX11_amountOf_139 rfl (lv_at hl 1 rfl) ?_
          refine lv_ldiv hx hb dX11_amountOf_140 (tl_ne0L (by omega)) ?_
          refine lv_topl (fun z_61 ez_61 => ?_)
          exact W.lret (v := z_61) hx hb hr (fun t ht hW => ⟨_, rfl, trivial, ht⟩) (fun q h => by cases h) dX11_amountOf_141
        · have c_58 : r_57.toInt < (1 : Int) := by have h9 := tl_cmp_nge c_58; simp only [Int32.toInt_toInt64] at h9; exact h9
          refine lv_lconst (v := 0) hx hb dX11_amountOf_120 (by decide) ?_
          refine lv_goto (tgt := 141) hx hb dX11_amountOf_121 (by decide) ?_
          exact W.lret (v := 0) hx hb hr (fun t ht hW => ⟨_, rfl, trivial, ht⟩) (fun q h => by cases h) dX11_amountOf_141
      · have c_55 := c_55
        refine lv_ldc2 (v := (-1)) hx hb hown (hta _ wk_962) dX11_amountOf_99 ?_
        exact W.lret (v := (-1)) hx hb hr (fun t ht hW => ⟨_, rfl, trivial, ht⟩) (fun q h => by cases h) dX11_amountOf_102
  · have c_32 : v5.toInt < x_31.toInt := tl_nle c_32
    refine lv_aload_n hx hb dX11_amountOf_22 rfl (lv_at hl 2 rfl) ?_
    refine lv_iload hx hb dX11_amountOf_23 (lv_at hl 0 rfl) ?_
    refine lv_iconst (v := 1) hx hb dX11_amountOf_25 (by decide) ?_
    refine tl_si (tq_rVN hN (As := [.int v5, .int 1]) (rest := []) ⟨hx, hb, hml, hown, hta⟩ (tp_P.pre hK hN hL hU hI hP) (tp_recv hK hP hx_23.1 hf_28 rfl) lk_X11_157 (t_X6_cell l D cy s.heap.size L K Γ f 60 0 x_23 v5 1 hx_23 (by first | omega | (simp only [Int32.toInt_toInt64]; omega) | decide | assumption)) rfl rfl ⟨Nat.le_of_ble_eq_true rfl, Nat.le_of_ble_eq_true rfl⟩ rfl hl.1 rfl (Nat.le_of_ble_eq_true rfl) dX11_amountOf_26 ⟨Nat.le_of_ble_eq_true rfl, Nat.le_of_ble_eq_true rfl⟩) (fun r_63 hw_62 => ?_)
    refine lv_istore (lv' := [(6, .int r_63), (5, .int v5), (3, .long v3), (2, .ref x_23), (0, .ref o), (1, .int p0)]) hx hb dX11_amountOf_29 hl (by decide) rfl (fun ls hl => ?_)
    refine lv_aload_n hx hb dX11_amountOf_31 rfl (lv_at hl 3 rfl) ?_
    refine lv_iload hx hb dX11_amountOf_32 (lv_at hl 1 rfl) ?_
    refine lv_iconst (v := 0) hx hb dX11_amountOf_34 (by decide) ?_
    refine tl_si (tq_rVN hN (As := [.int v5, .int 0]) (rest := []) ⟨hx, hb, hml, hown, hta⟩ (tp_P.pre hK hN hL hU hI hP) (tp_recv hK hP hx_23.1 hf_28 rfl) lk_X11_157 (t_X6_cell l D cy s.heap.size L K Γ f 60 0 x_23 v5 0 hx_23 (by first | omega | (simp only [Int32.toInt_toInt64]; omega) | decide | assumption)) rfl rfl ⟨Nat.le_of_ble_eq_true rfl, Nat.le_of_ble_eq_true rfl⟩ rfl hl.1 rfl (Nat.le_of_ble_eq_true rfl) dX11_amountOf_35 ⟨Nat.le_of_ble_eq_true rfl, Nat.le_of_ble_eq_true rfl⟩) (fun r_65 hw_64 => ?_)
    refine lv_iload_n hx hb dX11_amountOf_38 rfl (lv_at hl 5 rfl) ?_
    refine lv_icmp_ne (tgt := 77) hx hb dX11_amountOf_39 (by decide) (fun c_66 => ?_) (fun c_66 => ?_)
    · have c_66 : ¬ r_65.toInt = p0.toInt := tl_neq c_66
      obtain ⟨z_67, ez_67⟩ : ∃ y : Int32, y = v5 + 1 := ⟨_, rfl⟩
      refine lv_iinc (v := z_67) (lv' := [(5, .int z_67), (6, .int r_63), (3, .long v3), (2, .ref x_23), (0, .ref o), (1, .int p0)]) hx hb dX11_amountOf_77 hl (k := 1) rfl (by rw [ez_67]; rfl) (by decide) rfl (fun ls hl => ?_)
      try have iz_67 : z_67.toInt = v5.toInt + 1 := by rw [ez_67]; exact tl_addL v5 1 (by decide) (by omega) (by omega)
      refine lv_goto (tgt := 13) hx hb dX11_amountOf_80 (by decide) ?_
      exact ih13 (z_67, v3) ls (by show (60 - z_67.toInt).toNat < (60 - v5.toInt).toNat; omega) ⟨(show 0 ≤ z_67.toInt from (by omega)), (show z_67.toInt ≤ 60 from (by omega)), lv_sub hl [0, 2, 3, 4, 5] rfl⟩
    · have c_66 : r_65.toInt = p0.toInt := tl_eq c_66
      refine lv_aload_n hx hb dX11_amountOf_42 rfl (lv_at hl 4 rfl) ?_
      refine tp_get (cy := cy) (ci := 11) (v := .ref x_11) (C := RX11) (T := TX11) (N := 16) hx hb hta inlX11 hown hK hP ho.1 hf_1 rfl 9 (by decide) (hta _ wk_42) (fun _ h9 => h9) rfl dX11_amountOf_43 ?_
      refine lv_iload hx hb dX11_amountOf_46 (lv_at hl 0 rfl) ?_
      obtain ⟨x_69, x_70, x_71, x_72, x_73, x_74, x_75, x_76, x_77, x_78, x_79, x_80, x_81, x_82, x_83, x_84, x_85, x_86, hf_68, hx_69, hx_70, hx_71, hx_72, hx_73, hx_74, hx_75, hx_76, hx_77, hx_79, hx_82⟩ := (show tp_o_VIEW L K (0) 0 (Γ (27, 0, 0)) (f x_11) from hI0.at hx_11)
      refine tl_si (tq_rVN hN (As := [.int r_63]) (rest := []) ⟨hx, hb, hml, hown, hta⟩ (tp_P.pre hK hN hL hU hI hP) (tp_recv hK hP hx_11.1 hf_68 rfl) lk_X11_327 (t_X10_isInGap l D cy s.heap.size L K Γ f x_11 r_63 hx_11) rfl rfl ⟨Nat.le_of_ble_eq_true rfl, Nat.le_of_ble_eq_true rfl⟩ rfl hl.1 rfl (Nat.le_of_ble_eq_true rfl) dX11_amountOf_48 ⟨Nat.le_of_ble_eq_true rfl, Nat.le_of_ble_eq_true rfl⟩) (fun r_88 hw_87 => ?_)
      have hw_87 : tl_J r_88 (True) := hw_87
      refine lv_if_eq (tgt := 77) hx hb dX11_amountOf_51 (by decide) (fun c_89 => ?_) (fun c_89 => ?_)
      · have c_89 := c_89
        obtain ⟨z_90, ez_90⟩ : ∃ y : Int32, y = v5 + 1 := ⟨_, rfl⟩
        refine lv_iinc (v := z_90) (lv' := [(5, .int z_90), (6, .int r_63), (3, .long v3), (2, .ref x_23), (0, .ref o), (1, .int p0)]) hx hb dX11_amountOf_77 hl (k := 1) rfl (by rw [ez_90]; rfl) (by decide) rfl (fun ls hl => ?_)
        try have iz_90 : z_90.toInt = v5.toInt + 1 := by rw [ez_90]; exact tl_addL v5 1 (by decide) (by omega) (by omega)
        refine lv_goto (tgt := 13) hx hb dX11_amountOf_80 (by decide) ?_
        exact ih13 (z_90, v3) ls (by show (60 - z_90.toInt).toNat < (60 - v5.toInt).toNat; omega) ⟨(show 0 ≤ z_90.toInt from (by omega)), (show z_90.toInt ≤ 60 from (by omega)), lv_sub hl [0, 2, 3, 4, 5] rfl⟩
      · have c_89 := hw_87.t c_89
        refine lv_aload_n hx hb dX11_amountOf_54 rfl (lv_at hl 4 rfl) ?_
        refine tp_get (cy := cy) (ci := 11) (v := .ref x_11) (C := RX11) (T := TX11) (N := 16) hx hb hta inlX11 hown hK hP ho.1 hf_1 rfl 9 (by decide) (hta _ wk_42) (fun _ h9 => h9) rfl dX11_amountOf_55 ?_
        refine lv_iload hx hb dX11_amountOf_58 (lv_at hl 0 rfl) ?_
        refine tl_si (tq_rVN hN (As := [.int r_63]) (rest := []) ⟨hx, hb, hml, hown, hta⟩ (tp_P.pre hK hN hL hU hI hP) (tp_recv hK hP hx_11.1 hf_68 rfl) lk_X11_354 (t_X10_isTold l D cy s.heap.size L K Γ f x_11 r_63 hx_11) rfl rfl ⟨Nat.le_of_ble_eq_true rfl, Nat.le_of_ble_eq_true rfl⟩ rfl hl.1 rfl (Nat.le_of_ble_eq_true rfl) dX11_amountOf_60 ⟨Nat.le_of_ble_eq_true rfl, Nat.le_of_ble_eq_true rfl⟩) (fun r_92 hw_91 => ?_)
        have hw_91 : tl_J r_92 (True) := hw_91
        refine lv_if_eq (tgt := 77) hx hb dX11_amountOf_63 (by decide) (fun c_93 => ?_) (fun c_93 => ?_)
        · have c_93 := c_93
          obtain ⟨z_94, ez_94⟩ : ∃ y : Int32, y = v5 + 1 := ⟨_, rfl⟩
          refine lv_iinc (v := z_94) (lv' := [(5, .int z_94), (6, .int r_63), (3, .long v3), (2, .ref x_23), (0, .ref o), (1, .int p0)]) hx hb dX11_amountOf_77 hl (k := 1) rfl (by rw [ez_94]; rfl) (by decide) rfl (fun ls hl => ?_)
          try have iz_94 : z_94.toInt = v5.toInt + 1 := by rw [ez_94]; exact tl_addL v5 1 (by decide) (by omega) (by omega)
          refine lv_goto (tgt := 13) hx hb dX11_amountOf_80 (by decide) ?_
          exact ih13 (z_94, v3) ls (by show (60 - z_94.toInt).toNat < (60 - v5.toInt).toNat; omega) ⟨(show 0 ≤ z_94.toInt from (by omega)), (show z_94.toInt ≤ 60 from (by omega)), lv_sub hl [0, 2, 3, 4, 5] rfl⟩
        · have c_93 := hw_91.t c_93
          refine lv_lload_n hx hb dX11_amountOf_66 rfl (lv_at hl 2 rfl) ?_
          refine lv_aload_n hx hb dX11_amountOf_67 rfl (lv_at hl 3 rfl) ?_
          refine lv_iload hx hb dX11_amountOf_68 (lv_at hl 1 rfl) ?_
          refine lv_iconst (v := 2) hx hb dX11_amountOf_70 (by decide) ?_
          refine tl_si (tq_rVN hN (As := [.int v5, .int 2]) (rest := [.long v3]) ⟨hx, hb, hml, hown, hta⟩ (tp_P.pre hK hN hL hU hI hP) (tp_recv hK hP hx_23.1 hf_28 rfl) lk_X11_157 (t_X6_cell l D cy s.heap.size L K Γ f 60 0 x_23 v5 2 hx_23 (by first | omega | (simp only [Int32.toInt_toInt64]; omega) | decide | assumption)) rfl rfl ⟨Nat.le_of_ble_eq_true rfl, Nat.le_of_ble_eq_true rfl⟩ rfl hl.1 rfl (Nat.le_of_ble_eq_true rfl) dX11_amountOf_71 ⟨Nat.le_of_ble_eq_true rfl, Nat.le_of_ble_eq_true rfl⟩) (fun r_96 hw_95 => ?_)
          refine lv_i2l (v := r_96.toInt64) hx hb dX11_amountOf_74 (by first | rfl | decide) ?_
          refine lv_ladd hx hb dX11_amountOf_75 ?_
          refine lv_topl (fun z_97 ez_97 => ?_)
          refine lv_lstore_n (lv' := [(3, .long z_97), (6, .int r_63), (5, .int v5), (2, .ref x_23), (0, .ref o), (1, .int p0)]) hx hb dX11_amountOf_76 rfl hl (by decide) rfl (fun ls hl => ?_)
          obtain ⟨z_98, ez_98⟩ : ∃ y : Int32, y = v5 + 1 := ⟨_, rfl⟩
          refine lv_iinc (v := z_98) (lv' := [(5, .int z_98), (3, .long z_97), (6, .int r_63), (2, .ref x_23), (0, .ref o), (1, .int p0)]) hx hb dX11_amountOf_77 hl (k := 2) rfl (by rw [ez_98]; rfl) (by decide) rfl (fun ls hl => ?_)
          try have iz_98 : z_98.toInt = v5.toInt + 1 := by rw [ez_98]; exact tl_addL v5 1 (by decide) (by omega) (by omega)
          refine lv_goto (tgt := 13) hx hb dX11_amountOf_80 (by decide) ?_
          exact ih13 (z_98, z_97) ls (by show (60 - z_98.toInt).toNat < (60 - v5.toInt).toNat; omega) ⟨(show 0 ≤ z_98.toInt from (by omega)), (show z_98.toInt ≤ 60 from (by omega)), lv_sub hl [0, 1, 3, 4, 5] rfl⟩
set_option maxHeartbeats 4000000 in
set_option maxRecDepth 100000 in
theorem t_X11_isElse (l : Launch) (D : va_G) (cy : Nat → ClassId) (sz : Nat) (L : List Nat) (K : Nat → tk_K) (Γ : tk_G) (f : Nat → va_E) (o : Nat) (p0 : Int32) (p1 : Int32) (ho : tp_r L K 0 (0) 0 o) : Met l yX11_isElse (tl_w yX11_isElse cX11_isElse 4 (some .boolean)) ({ frames := 3, cells := 0, slots := 0, locals := 63 }) (va_Pc [.ref o, .int p0, .int p1] (tp_P D cy L K Γ f sz)) (vp_Si (fun r : Int32 => tl_J r (True))) 0 0 (fun _ => False) := by
  refine Met.ofW (cc := cX11_isElse) (maxL := 4) (ret := (some .boolean)) (by decide) rfl ?_
  intro p e s m args below meth c s₁ B hml hv
  obtain ⟨rfl, hsz, hP, hK, hL, hI, hN, hU⟩ := hv
  have hx := B.exec
  have hb := B.bytes
  have hr := B.returns
  have hta := tl_hta (atoms_spec (ws := tl_w yX11_isElse cX11_isElse 4 (some .boolean)) B.pre)
  have hown : s.vm.findClass RX11 = some m.cls := findClass_of_methodNamed B.named
  have hlocks := B.notSynchronized
  subst hsz
  have hI0 := hI
  have hl := lv_entry ([.ref o, .int p0, .int p1]) (n := 4) (Nat.le_of_ble_eq_true rfl)
  rw [lg_entry_eq]
  generalize (lg_sl ([.ref o, .int p0, .int p1]) ++ List.replicate (4 - (lg_sl ([.ref o, .int p0, .int p1])).length) Slot.unset).toArray = ls at hl ⊢
  have hl : lv_has ls 4 [(0, .ref o), (1, .int p0), (2, .int p1)] := hl
  refine lv_aload_n hx hb dX11_isElse_0 rfl (lv_at hl 0 rfl) ?_
  obtain ⟨x_2, x_3, x_4, x_5, x_6, x_7, x_8, x_9, x_10, x_11, x_12, x_13, x_14, x_15, x_16, x_17, hf_1, hx_2, hx_3, hx_4, hx_5, hx_6, hx_7, hx_8, hx_9, hx_10, hx_11, hx_12, hx_13, hx_14, hx_15, hx_16, hx_17⟩ := (show tp_o_X L K (0) 0 (Γ (0, 0, 0)) (f o) from hI0.at ho)
  refine tp_get (cy := cy) (ci := 11) (v := .ref x_2) (C := RX11) (T := TX11) (N := 16) hx hb hta inlX11 hown hK hP ho.1 hf_1 rfl 0 (by decide) (hta _ wk_15) (fun _ h9 => h9) rfl dX11_isElse_1 ?_
  obtain ⟨x_19, x_20, x_21, x_22, x_23, x_24, x_25, x_26, x_27, hf_18, hx_19, hx_20, hx_21, hx_22, hx_23, hx_24, hx_25, hx_26, hx_27⟩ := (show tp_o_BOOK L K (0) 0 (Γ (1, 0, 0)) (f x_2) from hI0.at hx_2)
  refine tp_getN (cy := cy) (ci := 0) (v := .ref x_23) (C := RX0) (T := TX0) (N := 9) hx hb hta inlX0 hown hK hP hx_2.1 hf_18 rfl 4 (by decide) (va_Nw.use rfl (hN.1 22 _ nk_22)) (fun _ h9 => h9) rfl dX11_isElse_4 ?_
  refine lv_iload_n hx hb dX11_isElse_7 rfl (lv_at hl 2 rfl) ?_
  refine lv_iconst (v := 1) hx hb dX11_isElse_8 (by decide) ?_
  obtain ⟨x_29, x_30, x_31, hf_28, hx_29, hx_30, hx_31⟩ := (show tp_o_TABLE L K (60) 0 (Γ (7, 60, 0)) (f x_23) from hI0.at hx_23)
  refine tl_si (tq_rVN hN (As := [.int p1, .int 1]) (rest := []) ⟨hx, hb, hml, hown, hta⟩ (tp_P.pre hK hN hL hU hI hP) (tp_recv hK hP hx_23.1 hf_28 rfl) lk_X11_157 (t_X6_cell l D cy s.heap.size L K Γ f 60 0 x_23 p1 1 hx_23 (by first | omega | (simp only [Int32.toInt_toInt64]; omega) | decide | assumption)) rfl rfl ⟨Nat.le_of_ble_eq_true rfl, Nat.le_of_ble_eq_true rfl⟩ rfl hl.1 rfl (Nat.le_of_ble_eq_true rfl) dX11_isElse_9 ⟨Nat.le_of_ble_eq_true rfl, Nat.le_of_ble_eq_true rfl⟩) (fun r_33 hw_32 => ?_)
  refine lv_istore_n (lv' := [(3, .int r_33), (0, .ref o), (1, .int p0), (2, .int p1)]) hx hb dX11_isElse_12 rfl hl (by decide) rfl (fun ls hl => ?_)
  refine lv_aload_n hx hb dX11_isElse_13 rfl (lv_at hl 1 rfl) ?_
  refine tp_get (cy := cy) (ci := 11) (v := .ref x_2) (C := RX11) (T := TX11) (N := 16) hx hb hta inlX11 hown hK hP ho.1 hf_1 rfl 0 (by decide) (hta _ wk_15) (fun _ h9 => h9) rfl dX11_isElse_14 ?_
  refine tp_getN (cy := cy) (ci := 0) (v := .ref x_23) (C := RX0) (T := TX0) (N := 9) hx hb hta inlX0 hown hK hP hx_2.1 hf_18 rfl 4 (by decide) (va_Nw.use rfl (hN.1 22 _ nk_22)) (fun _ h9 => h9) rfl dX11_isElse_17 ?_
  refine lv_iload_n hx hb dX11_isElse_20 rfl (lv_at hl 3 rfl) ?_
  refine lv_iconst (v := 0) hx hb dX11_isElse_21 (by decide) ?_
  refine tl_si (tq_rVN hN (As := [.int p1, .int 0]) (rest := []) ⟨hx, hb, hml, hown, hta⟩ (tp_P.pre hK hN hL hU hI hP) (tp_recv hK hP hx_23.1 hf_28 rfl) lk_X11_157 (t_X6_cell l D cy s.heap.size L K Γ f 60 0 x_23 p1 0 hx_23 (by first | omega | (simp only [Int32.toInt_toInt64]; omega) | decide | assumption)) rfl rfl ⟨Nat.le_of_ble_eq_true rfl, Nat.le_of_ble_eq_true rfl⟩ rfl hl.1 rfl (Nat.le_of_ble_eq_true rfl) dX11_isElse_22 ⟨Nat.le_of_ble_eq_true rfl, Nat.le_of_ble_eq_true rfl⟩) (fun r_35 hw_34 => ?_)
  refine lv_iload_n hx hb dX11_isElse_25 rfl (lv_at hl 2 rfl) ?_
  refine lv_icmp_ne (tgt := 55) hx hb dX11_isElse_26 (by decide) (fun c_36 => ?_) (fun c_36 => ?_)
  · have c_36 : ¬ r_35.toInt = p0.toInt := tl_neq c_36
    refine lv_iconst (v := 0) hx hb dX11_isElse_55 (by decide) ?_
    exact W.zret (ty := .boolean) (v := 0) hx hb hr rfl (fun t ht hW => ⟨_, rfl, (Or.inr rfl), ht⟩) (fun q h => by cases h) dX11_isElse_56
  · have c_36 : r_35.toInt = p0.toInt := tl_eq c_36
    refine lv_aload_n hx hb dX11_isElse_29 rfl (lv_at hl 1 rfl) ?_
    refine tp_get (cy := cy) (ci := 11) (v := .ref x_11) (C := RX11) (T := TX11) (N := 16) hx hb hta inlX11 hown hK hP ho.1 hf_1 rfl 9 (by decide) (hta _ wk_42) (fun _ h9 => h9) rfl dX11_isElse_30 ?_
    refine lv_iload_n hx hb dX11_isElse_33 rfl (lv_at hl 0 rfl) ?_
    obtain ⟨x_38, x_39, x_40, x_41, x_42, x_43, x_44, x_45, x_46, x_47, x_48, x_49, x_50, x_51, x_52, x_53, x_54, x_55, hf_37, hx_38, hx_39, hx_40, hx_41, hx_42, hx_43, hx_44, hx_45, hx_46, hx_48, hx_51⟩ := (show tp_o_VIEW L K (0) 0 (Γ (27, 0, 0)) (f x_11) from hI0.at hx_11)
    refine tl_si (tq_rVN hN (As := [.int r_33]) (rest := []) ⟨hx, hb, hml, hown, hta⟩ (tp_P.pre hK hN hL hU hI hP) (tp_recv hK hP hx_11.1 hf_37 rfl) lk_X11_327 (t_X10_isInGap l D cy s.heap.size L K Γ f x_11 r_33 hx_11) rfl rfl ⟨Nat.le_of_ble_eq_true rfl, Nat.le_of_ble_eq_true rfl⟩ rfl hl.1 rfl (Nat.le_of_ble_eq_true rfl) dX11_isElse_34 ⟨Nat.le_of_ble_eq_true rfl, Nat.le_of_ble_eq_true rfl⟩) (fun r_57 hw_56 => ?_)
    have hw_56 : tl_J r_57 (True) := hw_56
    refine lv_if_ne (tgt := 55) hx hb dX11_isElse_37 (by decide) (fun c_58 => ?_) (fun c_58 => ?_)
    · have c_58 := hw_56.t c_58
      refine lv_iconst (v := 0) hx hb dX11_isElse_55 (by decide) ?_
      exact W.zret (ty := .boolean) (v := 0) hx hb hr rfl (fun t ht hW => ⟨_, rfl, (Or.inr rfl), ht⟩) (fun q h => by cases h) dX11_isElse_56
    · have c_58 := c_58
      refine lv_aload_n hx hb dX11_isElse_40 rfl (lv_at hl 1 rfl) ?_
      refine tp_get (cy := cy) (ci := 11) (v := .ref x_11) (C := RX11) (T := TX11) (N := 16) hx hb hta inlX11 hown hK hP ho.1 hf_1 rfl 9 (by decide) (hta _ wk_42) (fun _ h9 => h9) rfl dX11_isElse_41 ?_
      refine lv_iload_n hx hb dX11_isElse_44 rfl (lv_at hl 0 rfl) ?_
      refine tl_si (tq_rVN hN (As := [.int r_33]) (rest := []) ⟨hx, hb, hml, hown, hta⟩ (tp_P.pre hK hN hL hU hI hP) (tp_recv hK hP hx_11.1 hf_37 rfl) lk_X11_354 (t_X10_isTold l D cy s.heap.size L K Γ f x_11 r_33 hx_11) rfl rfl ⟨Nat.le_of_ble_eq_true rfl, Nat.le_of_ble_eq_true rfl⟩ rfl hl.1 rfl (Nat.le_of_ble_eq_true rfl) dX11_isElse_45 ⟨Nat.le_of_ble_eq_true rfl, Nat.le_of_ble_eq_true rfl⟩) (fun r_60 hw_59 => ?_)
      have hw_59 : tl_J r_60 (True) := hw_59
      refine lv_if_eq (tgt := 55) hx hb dX11_isElse_48 (by decide) (fun c_61 => ?_) (fun c_61 => ?_)
      · have c_61 := c_61
        refine lv_iconst (v := 0) hx hb dX11_isElse_55 (by decide) ?_
        exact W.zret (ty := .boolean) (v := 0) hx hb hr rfl (fun t ht hW => ⟨_, rfl, (Or.inr rfl), ht⟩) (fun q h => by cases h) dX11_isElse_56
      · have c_61 := hw_59.t c_61
        refine lv_iconst (v := 1) hx hb dX11_isElse_51 (by decide) ?_
        refine lv_goto (tgt := 56) hx hb dX11_isElse_52 (by decide) ?_
        exact W.zret (ty := .boolean) (v := 1) hx hb hr rfl (fun t ht hW => ⟨_, rfl, (Or.inl ⟨rfl, trivial⟩), ht⟩) (fun q h => by cases h) dX11_isElse_56
set_option maxHeartbeats 4000000 in
set_option maxRecDepth 100000 in
theorem t_X11_elseOf (l : Launch) (D : va_G) (cy : Nat → ClassId) (sz : Nat) (L : List Nat) (K : Nat → tk_K) (Γ : tk_G) (f : Nat → va_E) (o : Nat) (p0 : Int32) (ho : tp_r L K 0 (0) 0 o) : Met l yX11_elseOf (tl_w yX11_elseOf cX11_elseOf 4 (some .int)) ({ frames := 4, cells := 0, slots := 0, locals := 86 }) (va_Pc [.ref o, .int p0] (tp_P D cy L K Γ f sz)) (vp_Si (fun r : Int32 => True)) 0 0 (fun _ => False) := by
  refine Met.ofW (cc := cX11_elseOf) (maxL := 4) (ret := (some .int)) (by decide) rfl ?_
  intro p e s m args below meth c s₁ B hml hv
  obtain ⟨rfl, hsz, hP, hK, hL, hI, hN, hU⟩ := hv
  have hx := B.exec
  have hb := B.bytes
  have hr := B.returns
  have hta := tl_hta (atoms_spec (ws := tl_w yX11_elseOf cX11_elseOf 4 (some .int)) B.pre)
  have hown : s.vm.findClass RX11 = some m.cls := findClass_of_methodNamed B.named
  have hlocks := B.notSynchronized
  subst hsz
  have hI0 := hI
  have hl := lv_entry ([.ref o, .int p0]) (n := 4) (Nat.le_of_ble_eq_true rfl)
  rw [lg_entry_eq]
  generalize (lg_sl ([.ref o, .int p0]) ++ List.replicate (4 - (lg_sl ([.ref o, .int p0])).length) Slot.unset).toArray = ls at hl ⊢
  have hl : lv_has ls 4 [(0, .ref o), (1, .int p0)] := hl
  refine lv_iconst (v := 0) hx hb dX11_elseOf_0 (by decide) ?_
  refine lv_istore_n (lv' := [(2, .int 0), (0, .ref o), (1, .int p0)]) hx hb dX11_elseOf_1 rfl hl (by decide) rfl (fun ls hl => ?_)
  refine lv_iconst (v := 0) hx hb dX11_elseOf_2 (by decide) ?_
  refine lv_istore_n (lv' := [(3, .int 0), (2, .int 0), (0, .ref o), (1, .int p0)]) hx hb dX11_elseOf_3 rfl hl (by decide) rfl (fun ls hl => ?_)
  refine tl_indR (G := fun ls => W p l e ((headSpec (tl_w yX11_elseOf cX11_elseOf 4 (some .int)) ({ frames := 4, cells := 0, slots := 0, locals := 86 })).room) s m #[.ref o, .int p0] below meth c s.heap [] 0 0 (MQ below (vp_Si (fun r : Int32 => True)) #[.ref o, .int p0] s 0 0 (fun _ => False)) (F0 m 4 ls [])) (α := Int32 × Int32) (fun aq => (60 - aq.1.toInt).toNat) (fun aq ls => (0 ≤ aq.1.toInt) ∧ (aq.1.toInt ≤ 60) ∧ lv_has ls 4 [(3, .int aq.1), (2, .int aq.2), (0, .ref o), (1, .int p0)]) ?_ ((0 : Int32), (0 : Int32)) ls ⟨(show 0 ≤ (0 : Int) from (by omega)), (show (0 : Int) ≤ 60 from (by omega)), lv_sub hl [0, 1, 2, 3] rfl⟩
  rintro ⟨v3, v2⟩ ls ⟨h0, h1, hl⟩ ih4
  have h0 : 0 ≤ v3.toInt := h0
  have h1 : v3.toInt ≤ 60 := h1
  have hl : lv_has ls 4 [(3, .int v3), (2, .int v2), (0, .ref o), (1, .int p0)] := hl
  refine lv_iload_n hx hb dX11_elseOf_4 rfl (lv_at hl 0 rfl) ?_
  refine lv_aload_n hx hb dX11_elseOf_5 rfl (lv_at hl 2 rfl) ?_
  obtain ⟨x_2, x_3, x_4, x_5, x_6, x_7, x_8, x_9, x_10, x_11, x_12, x_13, x_14, x_15, x_16, x_17, hf_1, hx_2, hx_3, hx_4, hx_5, hx_6, hx_7, hx_8, hx_9, hx_10, hx_11, hx_12, hx_13, hx_14, hx_15, hx_16, hx_17⟩ := (show tp_o_X L K (0) 0 (Γ (0, 0, 0)) (f o) from hI0.at ho)
  refine tp_get (cy := cy) (ci := 11) (v := .ref x_2) (C := RX11) (T := TX11) (N := 16) hx hb hta inlX11 hown hK hP ho.1 hf_1 rfl 0 (by decide) (hta _ wk_15) (fun _ h9 => h9) rfl dX11_elseOf_6 ?_
  obtain ⟨x_19, x_20, x_21, x_22, x_23, x_24, x_25, x_26, x_27, hf_18, hx_19, hx_20, hx_21, hx_22, hx_23, hx_24, hx_25, hx_26, hx_27⟩ := (show tp_o_BOOK L K (0) 0 (Γ (1, 0, 0)) (f x_2) from hI0.at hx_2)
  refine tp_getN (cy := cy) (ci := 0) (v := .ref x_23) (C := RX0) (T := TX0) (N := 9) hx hb hta inlX0 hown hK hP hx_2.1 hf_18 rfl 4 (by decide) (va_Nw.use rfl (hN.1 22 _ nk_22)) (fun _ h9 => h9) rfl dX11_elseOf_9 ?_
  obtain ⟨x_29, x_30, x_31, hf_28, hx_29, hx_30, hx_31⟩ := (show tp_o_TABLE L K (60) 0 (Γ (7, 60, 0)) (f x_23) from hI0.at hx_23)
  refine tp_getN (cy := cy) (ci := 6) (v := .int x_31) (C := RX6) (T := TX6) (N := 3) hx hb hta inlX6 hown hK hP hx_23.1 hf_28 rfl 2 (by decide) (va_Nw.use rfl (hN.1 15 _ nk_15)) (fun _ h9 => h9) rfl dX11_elseOf_12 ?_
  refine lv_icmp_ge (tgt := 41) hx hb dX11_elseOf_15 (by decide) (fun c_32 => ?_) (fun c_32 => ?_)
  · have c_32 : x_31.toInt ≤ v3.toInt := tl_le c_32
    refine lv_iload_n hx hb dX11_elseOf_41 rfl (lv_at hl 1 rfl) ?_
    exact W.iret (v := v2) hx hb hr (fun t ht hW => ⟨_, rfl, trivial, ht⟩) (fun q h => by cases h) dX11_elseOf_42
  · have c_32 : v3.toInt < x_31.toInt := tl_nle c_32
    refine lv_iload_n hx hb dX11_elseOf_18 rfl (lv_at hl 1 rfl) ?_
    refine lv_aload_n hx hb dX11_elseOf_19 rfl (lv_at hl 2 rfl) ?_
    refine lv_iload_n hx hb dX11_elseOf_20 rfl (lv_at hl 3 rfl) ?_
    refine lv_iload_n hx hb dX11_elseOf_21 rfl (lv_at hl 0 rfl) ?_
    refine tl_si (tq_rV (As := [.int p0, .int v3]) (rest := [.int v2]) ⟨hx, hb, hml, hown, hta⟩ (tp_P.pre hK hN hL hU hI hP) (tp_recv hK hP ho.1 hf_1 rfl) lk_X11_357 (t_X11_isElse l D cy s.heap.size L K Γ f o p0 v3 ho) rfl rfl ⟨Nat.le_of_ble_eq_true rfl, Nat.le_of_ble_eq_true rfl⟩ rfl hl.1 rfl (Nat.le_of_ble_eq_true rfl) dX11_elseOf_22 ⟨Nat.le_of_ble_eq_true rfl, Nat.le_of_ble_eq_true rfl⟩) (fun r_34 hw_33 => ?_)
    have hw_33 : tl_J r_34 (True) := hw_33
    refine lv_if_eq (tgt := 32) hx hb dX11_elseOf_25 (by decide) (fun c_35 => ?_) (fun c_35 => ?_)
    · have c_35 := c_35
      refine lv_iconst (v := 0) hx hb dX11_elseOf_32 (by decide) ?_
      refine lv_iadd hx hb dX11_elseOf_33 ?_
      refine lv_topi (fun z_36 ez_36 => ?_)
      try have iz_36 : z_36.toInt = v2.toInt + (0 : Int) := by rw [ez_36]; exact tl_addN v2 0 rfl rfl (by omega) (by omega)
      refine lv_istore_n (lv' := [(2, .int z_36), (3, .int v3), (0, .ref o), (1, .int p0)]) hx hb dX11_elseOf_34 rfl hl (by decide) rfl (fun ls hl => ?_)
      obtain ⟨z_37, ez_37⟩ : ∃ y : Int32, y = v3 + 1 := ⟨_, rfl⟩
      refine lv_iinc (v := z_37) (lv' := [(3, .int z_37), (2, .int z_36), (0, .ref o), (1, .int p0)]) hx hb dX11_elseOf_35 hl (k := 1) rfl (by rw [ez_37]; rfl) (by decide) rfl (fun ls hl => ?_)
      try have iz_37 : z_37.toInt = v3.toInt + 1 := by rw [ez_37]; exact tl_addL v3 1 (by decide) (by omega) (by omega)
      refine lv_goto (tgt := 4) hx hb dX11_elseOf_38 (by decide) ?_
      exact ih4 (z_37, z_36) ls (by show (60 - z_37.toInt).toNat < (60 - v3.toInt).toNat; omega) ⟨(show 0 ≤ z_37.toInt from (by omega)), (show z_37.toInt ≤ 60 from (by omega)), lv_sub hl [0, 1, 2, 3] rfl⟩
    · have c_35 := hw_33.t c_35
      refine lv_iconst (v := 1) hx hb dX11_elseOf_28 (by decide) ?_
      refine lv_goto (tgt := 33) hx hb dX11_elseOf_29 (by decide) ?_
      refine lv_iadd hx hb dX11_elseOf_33 ?_
      refine lv_topi (fun z_38 ez_38 => ?_)
      try have iz_38 : z_38.toInt = v2.toInt + (1 : Int) := by rw [ez_38]; exact tl_addN v2 1 rfl rfl (by omega) (by omega)
      refine lv_istore_n (lv' := [(2, .int z_38), (3, .int v3), (0, .ref o), (1, .int p0)]) hx hb dX11_elseOf_34 rfl hl (by decide) rfl (fun ls hl => ?_)
      obtain ⟨z_39, ez_39⟩ : ∃ y : Int32, y = v3 + 1 := ⟨_, rfl⟩
      refine lv_iinc (v := z_39) (lv' := [(3, .int z_39), (2, .int z_38), (0, .ref o), (1, .int p0)]) hx hb dX11_elseOf_35 hl (k := 1) rfl (by rw [ez_39]; rfl) (by decide) rfl (fun ls hl => ?_)
      try have iz_39 : z_39.toInt = v3.toInt + 1 := by rw [ez_39]; exact tl_addL v3 1 (by decide) (by omega) (by omega)
      refine lv_goto (tgt := 4) hx hb dX11_elseOf_38 (by decide) ?_
      exact ih4 (z_39, z_38) ls (by show (60 - z_39.toInt).toNat < (60 - v3.toInt).toNat; omega) ⟨(show 0 ≤ z_39.toInt from (by omega)), (show z_39.toInt ≤ 60 from (by omega)), lv_sub hl [0, 1, 2, 3] rfl⟩
set_option maxHeartbeats 4000000 in
set_option maxRecDepth 100000 in
theorem t_X11_thereOf (l : Launch) (D : va_G) (cy : Nat → ClassId) (sz : Nat) (L : List Nat) (K : Nat → tk_K) (Γ : tk_G) (f : Nat → va_E) (o : Nat) (p0 : Int32) (p1 : Int64) (ho : tp_r L K 0 (0) 0 o) : Met l yX11_thereOf (tl_w yX11_thereOf cX11_thereOf 10 (some .int)) ({ frames := 4, cells := 0, slots := 0, locals := 86 }) (va_Pc [.ref o, .int p0, .long p1] (tp_P D cy L K Γ f sz)) (vp_Si (fun r : Int32 => True)) 0 0 (fun _ => False) := by
  refine Met.ofW (cc := cX11_thereOf) (maxL := 10) (ret := (some .int)) (by decide) rfl ?_
  intro p e s m args below meth c s₁ B hml hv
  obtain ⟨rfl, hsz, hP, hK, hL, hI, hN, hU⟩ := hv
  have hx := B.exec
  have hb := B.bytes
  have hr := B.returns
  have hta := tl_hta (atoms_spec (ws := tl_w yX11_thereOf cX11_thereOf 10 (some .int)) B.pre)
  have hown : s.vm.findClass RX11 = some m.cls := findClass_of_methodNamed B.named
  have hlocks := B.notSynchronized
  subst hsz
  have hI0 := hI
  have hl := lv_entry ([.ref o, .int p0, .long p1]) (n := 10) (Nat.le_of_ble_eq_true rfl)
  rw [lg_entry_eq]
  generalize (lg_sl ([.ref o, .int p0, .long p1]) ++ List.replicate (10 - (lg_sl ([.ref o, .int p0, .long p1])).length) Slot.unset).toArray = ls at hl ⊢
  have hl : lv_has ls 10 [(0, .ref o), (1, .int p0), (2, .long p1)] := hl
  refine lv_iconst (v := 0) hx hb dX11_thereOf_0 (by decide) ?_
  refine lv_istore (lv' := [(4, .int 0), (0, .ref o), (1, .int p0), (2, .long p1)]) hx hb dX11_thereOf_1 hl (by decide) rfl (fun ls hl => ?_)
  refine lv_iconst (v := 0) hx hb dX11_thereOf_3 (by decide) ?_
  refine lv_istore (lv' := [(5, .int 0), (4, .int 0), (0, .ref o), (1, .int p0), (2, .long p1)]) hx hb dX11_thereOf_4 hl (by decide) rfl (fun ls hl => ?_)
  refine tl_indR (G := fun ls => W p l e ((headSpec (tl_w yX11_thereOf cX11_thereOf 10 (some .int)) ({ frames := 4, cells := 0, slots := 0, locals := 86 })).room) s m #[.ref o, .int p0, .long p1] below meth c s.heap [] 0 0 (MQ below (vp_Si (fun r : Int32 => True)) #[.ref o, .int p0, .long p1] s 0 0 (fun _ => False)) (F0 m 6 ls [])) (α := Int32 × Int32) (fun aq => (60 - aq.1.toInt).toNat) (fun aq ls => (0 ≤ aq.1.toInt) ∧ (aq.1.toInt ≤ 60) ∧ lv_has ls 10 [(5, .int aq.1), (4, .int aq.2), (0, .ref o), (1, .int p0), (2, .long p1)]) ?_ ((0 : Int32), (0 : Int32)) ls ⟨(show 0 ≤ (0 : Int) from (by omega)), (show (0 : Int) ≤ 60 from (by omega)), lv_sub hl [0, 1, 2, 3, 4] rfl⟩
  rintro ⟨v5, v4⟩ ls ⟨h0, h1, hl⟩ ih6
  have h0 : 0 ≤ v5.toInt := h0
  have h1 : v5.toInt ≤ 60 := h1
  have hl : lv_has ls 10 [(5, .int v5), (4, .int v4), (0, .ref o), (1, .int p0), (2, .long p1)] := hl
  refine lv_lload_n hx hb dX11_thereOf_6 rfl (lv_at hl 4 rfl) ?_
  refine lv_ldc2 (v := (-1)) hx hb hown (hta _ wk_962) dX11_thereOf_7 ?_
  refine W.lcmp hx hb dX11_thereOf_10 ?_
  refine lv_if_eq (tgt := 112) hx hb dX11_thereOf_11 (by decide) (fun c_1 => ?_) (fun c_1 => ?_)
  · have c_1 : p1.toInt = (-1 : Int) := tl_cmp_eq c_1
    refine lv_iload hx hb dX11_thereOf_112 (lv_at hl 1 rfl) ?_
    exact W.iret (v := v4) hx hb hr (fun t ht hW => ⟨_, rfl, trivial, ht⟩) (fun q h => by cases h) dX11_thereOf_114
  · have c_1 : ¬ p1.toInt = (-1 : Int) := tl_cmp_neq c_1
    refine lv_iload hx hb dX11_thereOf_14 (lv_at hl 0 rfl) ?_
    refine lv_aload_n hx hb dX11_thereOf_16 rfl (lv_at hl 2 rfl) ?_
    obtain ⟨x_3, x_4, x_5, x_6, x_7, x_8, x_9, x_10, x_11, x_12, x_13, x_14, x_15, x_16, x_17, x_18, hf_2, hx_3, hx_4, hx_5, hx_6, hx_7, hx_8, hx_9, hx_10, hx_11, hx_12, hx_13, hx_14, hx_15, hx_16, hx_17, hx_18⟩ := (show tp_o_X L K (0) 0 (Γ (0, 0, 0)) (f o) from hI0.at ho)
    refine tp_get (cy := cy) (ci := 11) (v := .ref x_3) (C := RX11) (T := TX11) (N := 16) hx hb hta inlX11 hown hK hP ho.1 hf_2 rfl 0 (by decide) (hta _ wk_15) (fun _ h9 => h9) rfl dX11_thereOf_17 ?_
    obtain ⟨x_20, x_21, x_22, x_23, x_24, x_25, x_26, x_27, x_28, hf_19, hx_20, hx_21, hx_22, hx_23, hx_24, hx_25, hx_26, hx_27, hx_28⟩ := (show tp_o_BOOK L K (0) 0 (Γ (1, 0, 0)) (f x_3) from hI0.at hx_3)
    refine tp_getN (cy := cy) (ci := 0) (v := .ref x_24) (C := RX0) (T := TX0) (N := 9) hx hb hta inlX0 hown hK hP hx_3.1 hf_19 rfl 4 (by decide) (va_Nw.use rfl (hN.1 22 _ nk_22)) (fun _ h9 => h9) rfl dX11_thereOf_20 ?_
    obtain ⟨x_30, x_31, x_32, hf_29, hx_30, hx_31, hx_32⟩ := (show tp_o_TABLE L K (60) 0 (Γ (7, 60, 0)) (f x_24) from hI0.at hx_24)
    refine tp_getN (cy := cy) (ci := 6) (v := .int x_32) (C := RX6) (T := TX6) (N := 3) hx hb hta inlX6 hown hK hP hx_24.1 hf_29 rfl 2 (by decide) (va_Nw.use rfl (hN.1 15 _ nk_15)) (fun _ h9 => h9) rfl dX11_thereOf_23 ?_
    refine lv_icmp_ge (tgt := 112) hx hb dX11_thereOf_26 (by decide) (fun c_33 => ?_) (fun c_33 => ?_)
    · have c_33 : x_32.toInt ≤ v5.toInt := tl_le c_33
      refine lv_iload hx hb dX11_thereOf_112 (lv_at hl 1 rfl) ?_
      exact W.iret (v := v4) hx hb hr (fun t ht hW => ⟨_, rfl, trivial, ht⟩) (fun q h => by cases h) dX11_thereOf_114
    · have c_33 : v5.toInt < x_32.toInt := tl_nle c_33
      refine lv_aload_n hx hb dX11_thereOf_29 rfl (lv_at hl 2 rfl) ?_
      refine lv_iload_n hx hb dX11_thereOf_30 rfl (lv_at hl 3 rfl) ?_
      refine lv_iload hx hb dX11_thereOf_31 (lv_at hl 0 rfl) ?_
      refine tl_si (tq_rV (As := [.int p0, .int v5]) (rest := []) ⟨hx, hb, hml, hown, hta⟩ (tp_P.pre hK hN hL hU hI hP) (tp_recv hK hP ho.1 hf_2 rfl) lk_X11_357 (t_X11_isElse l D cy s.heap.size L K Γ f o p0 v5 ho) rfl rfl ⟨Nat.le_of_ble_eq_true rfl, Nat.le_of_ble_eq_true rfl⟩ rfl hl.1 rfl (Nat.le_of_ble_eq_true rfl) dX11_thereOf_33 ⟨Nat.le_of_ble_eq_true rfl, Nat.le_of_ble_eq_true rfl⟩) (fun r_35 hw_34 => ?_)
      have hw_34 : tl_J r_35 (True) := hw_34
      refine lv_if_eq (tgt := 106) hx hb dX11_thereOf_36 (by decide) (fun c_36 => ?_) (fun c_36 => ?_)
      · have c_36 := c_36
        obtain ⟨z_37, ez_37⟩ : ∃ y : Int32, y = v5 + 1 := ⟨_, rfl⟩
        refine lv_iinc (v := z_37) (lv' := [(5, .int z_37), (4, .int v4), (0, .ref o), (1, .int p0), (2, .long p1)]) hx hb dX11_thereOf_106 hl (k := 0) rfl (by rw [ez_37]; rfl) (by decide) rfl (fun ls hl => ?_)
        try have iz_37 : z_37.toInt = v5.toInt + 1 := by rw [ez_37]; exact tl_addL v5 1 (by decide) (by omega) (by omega)
        refine lv_goto (tgt := 6) hx hb dX11_thereOf_109 (by decide) ?_
        exact ih6 (z_37, v4) ls (by show (60 - z_37.toInt).toNat < (60 - v5.toInt).toNat; omega) ⟨(show 0 ≤ z_37.toInt from (by omega)), (show z_37.toInt ≤ 60 from (by omega)), lv_sub hl [0, 1, 2, 3, 4] rfl⟩
      · have c_36 := hw_34.t c_36
        refine lv_lload_n hx hb dX11_thereOf_39 rfl (lv_at hl 4 rfl) ?_
        refine lv_aload_n hx hb dX11_thereOf_40 rfl (lv_at hl 2 rfl) ?_
        refine tp_get (cy := cy) (ci := 11) (v := .ref x_3) (C := RX11) (T := TX11) (N := 16) hx hb hta inlX11 hown hK hP ho.1 hf_2 rfl 0 (by decide) (hta _ wk_15) (fun _ h9 => h9) rfl dX11_thereOf_41 ?_
        refine tp_getN (cy := cy) (ci := 0) (v := .ref x_24) (C := RX0) (T := TX0) (N := 9) hx hb hta inlX0 hown hK hP hx_3.1 hf_19 rfl 4 (by decide) (va_Nw.use rfl (hN.1 22 _ nk_22)) (fun _ h9 => h9) rfl dX11_thereOf_44 ?_
        refine lv_iload hx hb dX11_thereOf_47 (lv_at hl 0 rfl) ?_
        refine lv_iconst (v := 2) hx hb dX11_thereOf_49 (by decide) ?_
        refine tl_si (tq_rVN hN (As := [.int v5, .int 2]) (rest := [.long p1]) ⟨hx, hb, hml, hown, hta⟩ (tp_P.pre hK hN hL hU hI hP) (tp_recv hK hP hx_24.1 hf_29 rfl) lk_X11_157 (t_X6_cell l D cy s.heap.size L K Γ f 60 0 x_24 v5 2 hx_24 (by first | omega | (simp only [Int32.toInt_toInt64]; omega) | decide | assumption)) rfl rfl ⟨Nat.le_of_ble_eq_true rfl, Nat.le_of_ble_eq_true rfl⟩ rfl hl.1 rfl (Nat.le_of_ble_eq_true rfl) dX11_thereOf_50 ⟨Nat.le_of_ble_eq_true rfl, Nat.le_of_ble_eq_true rfl⟩) (fun r_39 hw_38 => ?_)
        refine lv_i2l (v := r_39.toInt64) hx hb dX11_thereOf_53 (by first | rfl | decide) ?_
        refine lv_lmul hx hb dX11_thereOf_54 ?_
        refine lv_topl (fun z_40 ez_40 => ?_)
        refine lv_ldc2 (v := 1000) hx hb hown (hta _ wk_1054) dX11_thereOf_55 ?_
        refine lv_ldiv hx hb dX11_thereOf_58 (by decide) ?_
        refine lv_topl (fun z_41 ez_41 => ?_)
        refine lv_lstore (lv' := [(6, .long z_41), (5, .int v5), (4, .int v4), (0, .ref o), (1, .int p0), (2, .long p1)]) hx hb dX11_thereOf_59 hl (by decide) rfl (fun ls hl => ?_)
        refine lv_aload_n hx hb dX11_thereOf_61 rfl (lv_at hl 3 rfl) ?_
        refine tp_get (cy := cy) (ci := 11) (v := .ref x_12) (C := RX11) (T := TX11) (N := 16) hx hb hta inlX11 hown hK hP ho.1 hf_2 rfl 9 (by decide) (hta _ wk_42) (fun _ h9 => h9) rfl dX11_thereOf_62 ?_
        refine lv_aload_n hx hb dX11_thereOf_65 rfl (lv_at hl 3 rfl) ?_
        refine tp_get (cy := cy) (ci := 11) (v := .ref x_3) (C := RX11) (T := TX11) (N := 16) hx hb hta inlX11 hown hK hP ho.1 hf_2 rfl 0 (by decide) (hta _ wk_15) (fun _ h9 => h9) rfl dX11_thereOf_66 ?_
        refine tp_getN (cy := cy) (ci := 0) (v := .ref x_24) (C := RX0) (T := TX0) (N := 9) hx hb hta inlX0 hown hK hP hx_3.1 hf_19 rfl 4 (by decide) (va_Nw.use rfl (hN.1 22 _ nk_22)) (fun _ h9 => h9) rfl dX11_thereOf_69 ?_
        refine lv_iload hx hb dX11_thereOf_72 (lv_at hl 1 rfl) ?_
        refine lv_iconst (v := 1) hx hb dX11_thereOf_74 (by decide) ?_
        refine tl_si (tq_rVN hN (As := [.int v5, .int 1]) (rest := [.ref x_12]) ⟨hx, hb, hml, hown, hta⟩ (tp_P.pre hK hN hL hU hI hP) (tp_recv hK hP hx_24.1 hf_29 rfl) lk_X11_157 (t_X6_cell l D cy s.heap.size L K Γ f 60 0 x_24 v5 1 hx_24 (by first | omega | (simp only [Int32.toInt_toInt64]; omega) | decide | assumption)) rfl rfl ⟨Nat.le_of_ble_eq_true rfl, Nat.le_of_ble_eq_true rfl⟩ rfl hl.1 rfl (Nat.le_of_ble_eq_true rfl) dX11_thereOf_75 ⟨Nat.le_of_ble_eq_true rfl, Nat.le_of_ble_eq_true rfl⟩) (fun r_43 hw_42 => ?_)
        obtain ⟨x_45, x_46, x_47, x_48, x_49, x_50, x_51, x_52, x_53, x_54, x_55, x_56, x_57, x_58, x_59, x_60, x_61, x_62, hf_44, hx_45, hx_46, hx_47, hx_48, hx_49, hx_50, hx_51, hx_52, hx_53, hx_55, hx_58⟩ := (show tp_o_VIEW L K (0) 0 (Γ (27, 0, 0)) (f x_12) from hI0.at hx_12)
        refine tl_si (tq_rVN hN (As := [.int r_43]) (rest := []) ⟨hx, hb, hml, hown, hta⟩ (tp_P.pre hK hN hL hU hI hP) (tp_recv hK hP hx_12.1 hf_44 rfl) lk_X11_258 (t_X10_leftAt l D cy s.heap.size L K Γ f x_12 r_43 hx_12) rfl rfl ⟨Nat.le_of_ble_eq_true rfl, Nat.le_of_ble_eq_true rfl⟩ rfl hl.1 rfl (Nat.le_of_ble_eq_true rfl) dX11_thereOf_78 ⟨Nat.le_of_ble_eq_true rfl, Nat.le_of_ble_eq_true rfl⟩) (fun r_64 hw_63 => ?_)
        refine lv_i2l (v := r_64.toInt64) hx hb dX11_thereOf_81 (by first | rfl | decide) ?_
        refine lv_lstore (lv' := [(8, .long r_64.toInt64), (6, .long z_41), (5, .int v5), (4, .int v4), (0, .ref o), (1, .int p0), (2, .long p1)]) hx hb dX11_thereOf_82 hl (by decide) rfl (fun ls hl => ?_)
        refine lv_iload hx hb dX11_thereOf_84 (lv_at hl 3 rfl) ?_
        refine lv_ldc2 (v := (-2)) hx hb hown (hta _ wk_1055) dX11_thereOf_86 ?_
        refine lv_lload hx hb dX11_thereOf_89 (lv_at hl 0 rfl) ?_
        refine lv_lmul hx hb dX11_thereOf_91 ?_
        refine lv_topl (fun z_65 ez_65 => ?_)
        refine lv_lload hx hb dX11_thereOf_92 (lv_at hl 1 rfl) ?_
        refine W.lcmp hx hb dX11_thereOf_94 ?_
        refine lv_if_lt (tgt := 102) hx hb dX11_thereOf_95 (by decide) (fun c_66 => ?_) (fun c_66 => ?_)
        · have c_66 : z_65.toInt < z_41.toInt := tl_cmp_lt c_66
          refine lv_iconst (v := 0) hx hb dX11_thereOf_102 (by decide) ?_
          refine lv_iadd hx hb dX11_thereOf_103 ?_
          refine lv_topi (fun z_67 ez_67 => ?_)
          try have iz_67 : z_67.toInt = v4.toInt + (0 : Int) := by rw [ez_67]; exact tl_addN v4 0 rfl rfl (by omega) (by omega)
          refine lv_istore (lv' := [(4, .int z_67), (8, .long r_64.toInt64), (6, .long z_41), (5, .int v5), (0, .ref o), (1, .int p0), (2, .long p1)]) hx hb dX11_thereOf_104 hl (by decide) rfl (fun ls hl => ?_)
          obtain ⟨z_68, ez_68⟩ : ∃ y : Int32, y = v5 + 1 := ⟨_, rfl⟩
          refine lv_iinc (v := z_68) (lv' := [(5, .int z_68), (4, .int z_67), (8, .long r_64.toInt64), (6, .long z_41), (0, .ref o), (1, .int p0), (2, .long p1)]) hx hb dX11_thereOf_106 hl (k := 3) rfl (by rw [ez_68]; rfl) (by decide) rfl (fun ls hl => ?_)
          try have iz_68 : z_68.toInt = v5.toInt + 1 := by rw [ez_68]; exact tl_addL v5 1 (by decide) (by omega) (by omega)
          refine lv_goto (tgt := 6) hx hb dX11_thereOf_109 (by decide) ?_
          exact ih6 (z_68, z_67) ls (by show (60 - z_68.toInt).toNat < (60 - v5.toInt).toNat; omega) ⟨(show 0 ≤ z_68.toInt from (by omega)), (show z_68.toInt ≤ 60 from (by omega)), lv_sub hl [0, 1, 4, 5, 6] rfl⟩
        · have c_66 : z_65.toInt ≥ z_41.toInt := tl_cmp_nlt c_66
          refine lv_iconst (v := 1) hx hb dX11_thereOf_98 (by decide) ?_
          refine lv_goto (tgt := 103) hx hb dX11_thereOf_99 (by decide) ?_
          refine lv_iadd hx hb dX11_thereOf_103 ?_
          refine lv_topi (fun z_69 ez_69 => ?_)
          try have iz_69 : z_69.toInt = v4.toInt + (1 : Int) := by rw [ez_69]; exact tl_addN v4 1 rfl rfl (by omega) (by omega)
          refine lv_istore (lv' := [(4, .int z_69), (8, .long r_64.toInt64), (6, .long z_41), (5, .int v5), (0, .ref o), (1, .int p0), (2, .long p1)]) hx hb dX11_thereOf_104 hl (by decide) rfl (fun ls hl => ?_)
          obtain ⟨z_70, ez_70⟩ : ∃ y : Int32, y = v5 + 1 := ⟨_, rfl⟩
          refine lv_iinc (v := z_70) (lv' := [(5, .int z_70), (4, .int z_69), (8, .long r_64.toInt64), (6, .long z_41), (0, .ref o), (1, .int p0), (2, .long p1)]) hx hb dX11_thereOf_106 hl (k := 3) rfl (by rw [ez_70]; rfl) (by decide) rfl (fun ls hl => ?_)
          try have iz_70 : z_70.toInt = v5.toInt + 1 := by rw [ez_70]; exact tl_addL v5 1 (by decide) (by omega) (by omega)
          refine lv_goto (tgt := 6) hx hb dX11_thereOf_109 (by decide) ?_
          exact ih6 (z_70, z_69) ls (by show (60 - z_70.toInt).toNat < (60 - v5.toInt).toNat; omega) ⟨(show 0 ≤ z_70.toInt from (by omega)), (show z_70.toInt ≤ 60 from (by omega)), lv_sub hl [0, 1, 4, 5, 6] rfl⟩
set_option maxHeartbeats 4000000 in
set_option maxRecDepth 100000 in
theorem t_X11_boundOf (l : Launch) (D : va_G) (cy : Nat → ClassId) (sz : Nat) (L : List Nat) (K : Nat → tk_K) (Γ : tk_G) (f : Nat → va_E) (o : Nat) (p0 : Int32) (ho : tp_r L K 0 (0) 0 o) : Met l yX11_boundOf (tl_w yX11_boundOf cX11_boundOf 10 (some .long)) ({ frames := 4, cells := 0, slots := 0, locals := 86 }) (va_Pc [.ref o, .int p0] (tp_P D cy L K Γ f sz)) (vp_Sl (fun r : Int64 => True)) 0 0 (fun _ => False) := by
  refine Met.ofW (cc := cX11_boundOf) (maxL := 10) (ret := (some .long)) (by decide) rfl ?_
  intro p e s m args below meth c s₁ B hml hv
  obtain ⟨rfl, hsz, hP, hK, hL, hI, hN, hU⟩ := hv
  have hx := B.exec
  have hb := B.bytes
  have hr := B.returns
  have hta := tl_hta (atoms_spec (ws := tl_w yX11_boundOf cX11_boundOf 10 (some .long)) B.pre)
  have hown : s.vm.findClass RX11 = some m.cls := findClass_of_methodNamed B.named
  have hlocks := B.notSynchronized
  subst hsz
  have hI0 := hI
  have hl := lv_entry ([.ref o, .int p0]) (n := 10) (Nat.le_of_ble_eq_true rfl)
  rw [lg_entry_eq]
  generalize (lg_sl ([.ref o, .int p0]) ++ List.replicate (10 - (lg_sl ([.ref o, .int p0])).length) Slot.unset).toArray = ls at hl ⊢
  have hl : lv_has ls 10 [(0, .ref o), (1, .int p0)] := hl
  refine lv_ldc2 (v := (-1)) hx hb hown (hta _ wk_962) dX11_boundOf_0 ?_
  refine lv_lstore_n (lv' := [(2, .long (-1)), (0, .ref o), (1, .int p0)]) hx hb dX11_boundOf_3 rfl hl (by decide) rfl (fun ls hl => ?_)
  refine lv_iconst (v := 0) hx hb dX11_boundOf_4 (by decide) ?_
  refine lv_istore (lv' := [(4, .int 0), (2, .long (-1)), (0, .ref o), (1, .int p0)]) hx hb dX11_boundOf_5 hl (by decide) rfl (fun ls hl => ?_)
  refine tl_indR (G := fun ls => W p l e ((headSpec (tl_w yX11_boundOf cX11_boundOf 10 (some .long)) ({ frames := 4, cells := 0, slots := 0, locals := 86 })).room) s m #[.ref o, .int p0] below meth c s.heap [] 0 0 (MQ below (vp_Sl (fun r : Int64 => True)) #[.ref o, .int p0] s 0 0 (fun _ => False)) (F0 m 7 ls [])) (α := Int32 × Int64) (fun aq => (60 - aq.1.toInt).toNat) (fun aq ls => (0 ≤ aq.1.toInt) ∧ (aq.1.toInt ≤ 60) ∧ lv_has ls 10 [(4, .int aq.1), (2, .long aq.2), (0, .ref o), (1, .int p0)]) ?_ ((0 : Int32), ((-1) : Int64)) ls ⟨(show 0 ≤ (0 : Int) from (by omega)), (show (0 : Int) ≤ 60 from (by omega)), lv_sub hl [0, 1, 2, 3] rfl⟩
  rintro ⟨v4, v2⟩ ls ⟨h0, h1, hl⟩ ih7
  have h0 : 0 ≤ v4.toInt := h0
  have h1 : v4.toInt ≤ 60 := h1
  have hl : lv_has ls 10 [(4, .int v4), (2, .long v2), (0, .ref o), (1, .int p0)] := hl
  refine lv_aload_n hx hb dX11_boundOf_7 rfl (lv_at hl 2 rfl) ?_
  obtain ⟨x_2, x_3, x_4, x_5, x_6, x_7, x_8, x_9, x_10, x_11, x_12, x_13, x_14, x_15, x_16, x_17, hf_1, hx_2, hx_3, hx_4, hx_5, hx_6, hx_7, hx_8, hx_9, hx_10, hx_11, hx_12, hx_13, hx_14, hx_15, hx_16, hx_17⟩ := (show tp_o_X L K (0) 0 (Γ (0, 0, 0)) (f o) from hI0.at ho)
  refine tp_get (cy := cy) (ci := 11) (v := .ref x_11) (C := RX11) (T := TX11) (N := 16) hx hb hta inlX11 hown hK hP ho.1 hf_1 rfl 9 (by decide) (hta _ wk_42) (fun _ h9 => h9) rfl dX11_boundOf_8 ?_
  obtain ⟨x_19, x_20, x_21, x_22, x_23, x_24, x_25, x_26, x_27, x_28, x_29, x_30, x_31, x_32, x_33, x_34, x_35, x_36, hf_18, hx_19, hx_20, hx_21, hx_22, hx_23, hx_24, hx_25, hx_26, hx_27, hx_29, hx_32⟩ := (show tp_o_VIEW L K (0) 0 (Γ (27, 0, 0)) (f x_11) from hI0.at hx_11)
  refine tl_si (tq_rVN hN (As := []) (rest := []) ⟨hx, hb, hml, hown, hta⟩ (tp_P.pre hK hN hL hU hI hP) (tp_recv hK hP hx_11.1 hf_18 rfl) lk_X11_252 (t_X10_isLaid l D cy s.heap.size L K Γ f x_11 hx_11) rfl rfl ⟨Nat.le_of_ble_eq_true rfl, Nat.le_of_ble_eq_true rfl⟩ rfl hl.1 rfl (Nat.le_of_ble_eq_true rfl) dX11_boundOf_11 ⟨Nat.le_of_ble_eq_true rfl, Nat.le_of_ble_eq_true rfl⟩) (fun r_38 hw_37 => ?_)
  have hw_37 : tl_J r_38 (True) := hw_37
  refine lv_if_eq (tgt := 137) hx hb dX11_boundOf_14 (by decide) (fun c_39 => ?_) (fun c_39 => ?_)
  · have c_39 := c_39
    refine lv_lload_n hx hb dX11_boundOf_137 rfl (lv_at hl 1 rfl) ?_
    exact W.lret (v := v2) hx hb hr (fun t ht hW => ⟨_, rfl, trivial, ht⟩) (fun q h => by cases h) dX11_boundOf_138
  · have c_39 := hw_37.t c_39
    refine lv_iload hx hb dX11_boundOf_17 (lv_at hl 0 rfl) ?_
    refine lv_aload_n hx hb dX11_boundOf_19 rfl (lv_at hl 2 rfl) ?_
    refine tp_get (cy := cy) (ci := 11) (v := .ref x_2) (C := RX11) (T := TX11) (N := 16) hx hb hta inlX11 hown hK hP ho.1 hf_1 rfl 0 (by decide) (hta _ wk_15) (fun _ h9 => h9) rfl dX11_boundOf_20 ?_
    obtain ⟨x_41, x_42, x_43, x_44, x_45, x_46, x_47, x_48, x_49, hf_40, hx_41, hx_42, hx_43, hx_44, hx_45, hx_46, hx_47, hx_48, hx_49⟩ := (show tp_o_BOOK L K (0) 0 (Γ (1, 0, 0)) (f x_2) from hI0.at hx_2)
    refine tp_getN (cy := cy) (ci := 0) (v := .ref x_45) (C := RX0) (T := TX0) (N := 9) hx hb hta inlX0 hown hK hP hx_2.1 hf_40 rfl 4 (by decide) (va_Nw.use rfl (hN.1 22 _ nk_22)) (fun _ h9 => h9) rfl dX11_boundOf_23 ?_
    obtain ⟨x_51, x_52, x_53, hf_50, hx_51, hx_52, hx_53⟩ := (show tp_o_TABLE L K (60) 0 (Γ (7, 60, 0)) (f x_45) from hI0.at hx_45)
    refine tp_getN (cy := cy) (ci := 6) (v := .int x_53) (C := RX6) (T := TX6) (N := 3) hx hb hta inlX6 hown hK hP hx_45.1 hf_50 rfl 2 (by decide) (va_Nw.use rfl (hN.1 15 _ nk_15)) (fun _ h9 => h9) rfl dX11_boundOf_26 ?_
    refine lv_icmp_ge (tgt := 137) hx hb dX11_boundOf_29 (by decide) (fun c_54 => ?_) (fun c_54 => ?_)
    · have c_54 : x_53.toInt ≤ v4.toInt := tl_le c_54
      refine lv_lload_n hx hb dX11_boundOf_137 rfl (lv_at hl 1 rfl) ?_
      exact W.lret (v := v2) hx hb hr (fun t ht hW => ⟨_, rfl, trivial, ht⟩) (fun q h => by cases h) dX11_boundOf_138
    · have c_54 : v4.toInt < x_53.toInt := tl_nle c_54
      refine lv_aload_n hx hb dX11_boundOf_32 rfl (lv_at hl 2 rfl) ?_
      refine tp_get (cy := cy) (ci := 11) (v := .ref x_2) (C := RX11) (T := TX11) (N := 16) hx hb hta inlX11 hown hK hP ho.1 hf_1 rfl 0 (by decide) (hta _ wk_15) (fun _ h9 => h9) rfl dX11_boundOf_33 ?_
      refine tp_getN (cy := cy) (ci := 0) (v := .ref x_45) (C := RX0) (T := TX0) (N := 9) hx hb hta inlX0 hown hK hP hx_2.1 hf_40 rfl 4 (by decide) (va_Nw.use rfl (hN.1 22 _ nk_22)) (fun _ h9 => h9) rfl dX11_boundOf_36 ?_
      refine lv_iload hx hb dX11_boundOf_39 (lv_at hl 0 rfl) ?_
      refine lv_iconst (v := 2) hx hb dX11_boundOf_41 (by decide) ?_
      refine tl_si (tq_rVN hN (As := [.int v4, .int 2]) (rest := []) ⟨hx, hb, hml, hown, hta⟩ (tp_P.pre hK hN hL hU hI hP) (tp_recv hK hP hx_45.1 hf_50 rfl) lk_X11_157 (t_X6_cell l D cy s.heap.size L K Γ f 60 0 x_45 v4 2 hx_45 (by first | omega | (simp only [Int32.toInt_toInt64]; omega) | decide | assumption)) rfl rfl ⟨Nat.le_of_ble_eq_true rfl, Nat.le_of_ble_eq_true rfl⟩ rfl hl.1 rfl (Nat.le_of_ble_eq_true rfl) dX11_boundOf_42 ⟨Nat.le_of_ble_eq_true rfl, Nat.le_of_ble_eq_true rfl⟩) (fun r_56 hw_55 => ?_)
      refine lv_istore (lv' := [(5, .int r_56), (4, .int v4), (2, .long v2), (0, .ref o), (1, .int p0)]) hx hb dX11_boundOf_45 hl (by decide) rfl (fun ls hl => ?_)
      refine lv_iload hx hb dX11_boundOf_47 (lv_at hl 0 rfl) ?_
      refine lv_if_le (tgt := 131) hx hb dX11_boundOf_49 (by decide) (fun c_57 => ?_) (fun c_57 => ?_)
      · have c_57 : r_56.toInt ≤ (0 : Int) := tl_le c_57
        obtain ⟨z_58, ez_58⟩ : ∃ y : Int32, y = v4 + 1 := ⟨_, rfl⟩
        refine lv_iinc (v := z_58) (lv' := [(4, .int z_58), (5, .int r_56), (2, .long v2), (0, .ref o), (1, .int p0)]) hx hb dX11_boundOf_131 hl (k := 1) rfl (by rw [ez_58]; rfl) (by decide) rfl (fun ls hl => ?_)
        try have iz_58 : z_58.toInt = v4.toInt + 1 := by rw [ez_58]; exact tl_addL v4 1 (by decide) (by omega) (by omega)
        refine lv_goto (tgt := 7) hx hb dX11_boundOf_134 (by decide) ?_
        exact ih7 (z_58, v2) ls (by show (60 - z_58.toInt).toNat < (60 - v4.toInt).toNat; omega) ⟨(show 0 ≤ z_58.toInt from (by omega)), (show z_58.toInt ≤ 60 from (by omega)), lv_sub hl [0, 2, 3, 4] rfl⟩
      · have c_57 : (0 : Int) < r_56.toInt := tl_nle c_57
        refine lv_aload_n hx hb dX11_boundOf_52 rfl (lv_at hl 3 rfl) ?_
        refine lv_iload_n hx hb dX11_boundOf_53 rfl (lv_at hl 4 rfl) ?_
        refine lv_iload hx hb dX11_boundOf_54 (lv_at hl 1 rfl) ?_
        refine tl_si (tq_rV (As := [.int p0, .int v4]) (rest := []) ⟨hx, hb, hml, hown, hta⟩ (tp_P.pre hK hN hL hU hI hP) (tp_recv hK hP ho.1 hf_1 rfl) lk_X11_357 (t_X11_isElse l D cy s.heap.size L K Γ f o p0 v4 ho) rfl rfl ⟨Nat.le_of_ble_eq_true rfl, Nat.le_of_ble_eq_true rfl⟩ rfl hl.1 rfl (Nat.le_of_ble_eq_true rfl) dX11_boundOf_56 ⟨Nat.le_of_ble_eq_true rfl, Nat.le_of_ble_eq_true rfl⟩) (fun r_60 hw_59 => ?_)
        have hw_59 : tl_J r_60 (True) := hw_59
        refine lv_if_eq (tgt := 131) hx hb dX11_boundOf_59 (by decide) (fun c_61 => ?_) (fun c_61 => ?_)
        · have c_61 := c_61
          obtain ⟨z_62, ez_62⟩ : ∃ y : Int32, y = v4 + 1 := ⟨_, rfl⟩
          refine lv_iinc (v := z_62) (lv' := [(4, .int z_62), (5, .int r_56), (2, .long v2), (0, .ref o), (1, .int p0)]) hx hb dX11_boundOf_131 hl (k := 1) rfl (by rw [ez_62]; rfl) (by decide) rfl (fun ls hl => ?_)
          try have iz_62 : z_62.toInt = v4.toInt + 1 := by rw [ez_62]; exact tl_addL v4 1 (by decide) (by omega) (by omega)
          refine lv_goto (tgt := 7) hx hb dX11_boundOf_134 (by decide) ?_
          exact ih7 (z_62, v2) ls (by show (60 - z_62.toInt).toNat < (60 - v4.toInt).toNat; omega) ⟨(show 0 ≤ z_62.toInt from (by omega)), (show z_62.toInt ≤ 60 from (by omega)), lv_sub hl [0, 2, 3, 4] rfl⟩
        · have c_61 := hw_59.t c_61
          refine lv_aload_n hx hb dX11_boundOf_62 rfl (lv_at hl 3 rfl) ?_
          refine tp_get (cy := cy) (ci := 11) (v := .ref x_11) (C := RX11) (T := TX11) (N := 16) hx hb hta inlX11 hown hK hP ho.1 hf_1 rfl 9 (by decide) (hta _ wk_42) (fun _ h9 => h9) rfl dX11_boundOf_63 ?_
          refine tl_sl (tq_rVN hN (As := []) (rest := []) ⟨hx, hb, hml, hown, hta⟩ (tp_P.pre hK hN hL hU hI hP) (tp_recv hK hP hx_11.1 hf_18 rfl) lk_X11_268 (t_X10_noisiness l D cy s.heap.size L K Γ f x_11 hx_11) rfl rfl ⟨Nat.le_of_ble_eq_true rfl, Nat.le_of_ble_eq_true rfl⟩ rfl hl.1 rfl (Nat.le_of_ble_eq_true rfl) dX11_boundOf_66 ⟨Nat.le_of_ble_eq_true rfl, Nat.le_of_ble_eq_true rfl⟩) (fun r_64 hw_63 => ?_)
          have hw_63 : 1 ≤ r_64.toInt := hw_63
          refine lv_aload_n hx hb dX11_boundOf_69 rfl (lv_at hl 3 rfl) ?_
          refine tp_get (cy := cy) (ci := 11) (v := .ref x_11) (C := RX11) (T := TX11) (N := 16) hx hb hta inlX11 hown hK hP ho.1 hf_1 rfl 9 (by decide) (hta _ wk_42) (fun _ h9 => h9) rfl dX11_boundOf_70 ?_
          refine lv_aload_n hx hb dX11_boundOf_73 rfl (lv_at hl 3 rfl) ?_
          refine tp_get (cy := cy) (ci := 11) (v := .ref x_2) (C := RX11) (T := TX11) (N := 16) hx hb hta inlX11 hown hK hP ho.1 hf_1 rfl 0 (by decide) (hta _ wk_15) (fun _ h9 => h9) rfl dX11_boundOf_74 ?_
          refine tp_getN (cy := cy) (ci := 0) (v := .ref x_45) (C := RX0) (T := TX0) (N := 9) hx hb hta inlX0 hown hK hP hx_2.1 hf_40 rfl 4 (by decide) (va_Nw.use rfl (hN.1 22 _ nk_22)) (fun _ h9 => h9) rfl dX11_boundOf_77 ?_
          refine lv_iload hx hb dX11_boundOf_80 (lv_at hl 1 rfl) ?_
          refine lv_iconst (v := 1) hx hb dX11_boundOf_82 (by decide) ?_
          refine tl_si (tq_rVN hN (As := [.int v4, .int 1]) (rest := [.ref x_11, .long r_64]) ⟨hx, hb, hml, hown, hta⟩ (tp_P.pre hK hN hL hU hI hP) (tp_recv hK hP hx_45.1 hf_50 rfl) lk_X11_157 (t_X6_cell l D cy s.heap.size L K Γ f 60 0 x_45 v4 1 hx_45 (by first | omega | (simp only [Int32.toInt_toInt64]; omega) | decide | assumption)) rfl rfl ⟨Nat.le_of_ble_eq_true rfl, Nat.le_of_ble_eq_true rfl⟩ rfl hl.1 rfl (Nat.le_of_ble_eq_true rfl) dX11_boundOf_83 ⟨Nat.le_of_ble_eq_true rfl, Nat.le_of_ble_eq_true rfl⟩) (fun r_66 hw_65 => ?_)
          refine tl_si (tq_rVN hN (As := [.int r_66]) (rest := [.long r_64]) ⟨hx, hb, hml, hown, hta⟩ (tp_P.pre hK hN hL hU hI hP) (tp_recv hK hP hx_11.1 hf_18 rfl) lk_X11_258 (t_X10_leftAt l D cy s.heap.size L K Γ f x_11 r_66 hx_11) rfl rfl ⟨Nat.le_of_ble_eq_true rfl, Nat.le_of_ble_eq_true rfl⟩ rfl hl.1 rfl (Nat.le_of_ble_eq_true rfl) dX11_boundOf_86 ⟨Nat.le_of_ble_eq_true rfl, Nat.le_of_ble_eq_true rfl⟩) (fun r_68 hw_67 => ?_)
          refine lv_i2l (v := r_68.toInt64) hx hb dX11_boundOf_89 (by first | rfl | decide) ?_
          refine lv_lsub hx hb dX11_boundOf_90 ?_
          refine lv_topl (fun z_69 ez_69 => ?_)
          refine lv_lstore (lv' := [(6, .long z_69), (5, .int r_56), (4, .int v4), (2, .long v2), (0, .ref o), (1, .int p0)]) hx hb dX11_boundOf_91 hl (by decide) rfl (fun ls hl => ?_)
          refine lv_lconst (v := 0) hx hb dX11_boundOf_93 (by decide) ?_
          refine lv_lload hx hb dX11_boundOf_94 (lv_at hl 0 rfl) ?_
          refine lv_ldc2 (v := 1000) hx hb hown (hta _ wk_1054) dX11_boundOf_96 ?_
          refine lv_lmul hx hb dX11_boundOf_99 ?_
          refine lv_topl (fun z_70 ez_70 => ?_)
          refine lv_iload hx hb dX11_boundOf_100 (lv_at hl 1 rfl) ?_
          refine lv_i2l (v := r_56.toInt64) hx hb dX11_boundOf_102 (by first | rfl | decide) ?_
          refine tl_sl (tq_rS (As := [.long z_70, .long r_56.toInt64]) (rest := [.long 0]) ⟨hx, hb, hml, hown, hta⟩ (tp_P.pre hK hN hL hU hI hP) lk_X11_318 (t_J9_floorDiv_f86c9 l D cy s.heap.size L K Γ f z_70 r_56.toInt64 (by first | omega | (simp only [Int32.toInt_toInt64]; omega) | decide | assumption)) rfl rfl ⟨Nat.le_of_ble_eq_true rfl, Nat.le_of_ble_eq_true rfl⟩ rfl hl.1 rfl (Nat.le_of_ble_eq_true rfl) dX11_boundOf_103 ⟨Nat.le_of_ble_eq_true rfl, Nat.le_of_ble_eq_true rfl⟩) (fun r_72 hw_71 => ?_)
          refine va_mmax_long hx hb (by rw [hml]; exact hl.1.symm) hown (hta _ wk_762) (hta _ wk_763) (hta _ wk_83) (hta _ wk_764) (Nat.le_of_ble_eq_true rfl) (Nat.le_of_ble_eq_true rfl) (Nat.le_of_ble_eq_true rfl) (Nat.le_of_ble_eq_true rfl) dX11_boundOf_106 ?_
          refine lv_topl (fun z_73 ez_73 => ?_)
          have iz_73 : (z_73.toInt = (r_72 : Int64).toInt ∧ (0 : Int64).toInt ≤ (r_72 : Int64).toInt) ∨ (z_73.toInt = (0 : Int64).toInt ∧ (r_72 : Int64).toInt ≤ (0 : Int64).toInt) := by rw [ez_73]; exact tl_maxFL.symm
          refine lv_lstore (lv' := [(8, .long z_73), (6, .long z_69), (5, .int r_56), (4, .int v4), (2, .long v2), (0, .ref o), (1, .int p0)]) hx hb dX11_boundOf_109 hl (by decide) rfl (fun ls hl => ?_)
          refine lv_lload_n hx hb dX11_boundOf_111 rfl (lv_at hl 4 rfl) ?_
          refine lv_ldc2 (v := (-1)) hx hb hown (hta _ wk_962) dX11_boundOf_112 ?_
          refine W.lcmp hx hb dX11_boundOf_115 ?_
          refine lv_if_ne (tgt := 124) hx hb dX11_boundOf_116 (by decide) (fun c_74 => ?_) (fun c_74 => ?_)
          · have c_74 : ¬ v2.toInt = (-1 : Int) := tl_cmp_ne c_74
            refine lv_lload_n hx hb dX11_boundOf_124 rfl (lv_at hl 4 rfl) ?_
            refine lv_lload hx hb dX11_boundOf_125 (lv_at hl 0 rfl) ?_
            refine va_mmin_long hx hb (by rw [hml]; exact hl.1.symm) hown (hta _ wk_759) (hta _ wk_760) (hta _ wk_83) (hta _ wk_761) (Nat.le_of_ble_eq_true rfl) (Nat.le_of_ble_eq_true rfl) (Nat.le_of_ble_eq_true rfl) (Nat.le_of_ble_eq_true rfl) dX11_boundOf_127 ?_
            refine lv_topl (fun z_75 ez_75 => ?_)
            refine lv_lstore_n (lv' := [(2, .long z_75), (8, .long z_73), (6, .long z_69), (5, .int r_56), (4, .int v4), (0, .ref o), (1, .int p0)]) hx hb dX11_boundOf_130 rfl hl (by decide) rfl (fun ls hl => ?_)
            obtain ⟨z_76, ez_76⟩ : ∃ y : Int32, y = v4 + 1 := ⟨_, rfl⟩
            refine lv_iinc (v := z_76) (lv' := [(4, .int z_76), (2, .long z_75), (8, .long z_73), (6, .long z_69), (5, .int r_56), (0, .ref o), (1, .int p0)]) hx hb dX11_boundOf_131 hl (k := 4) rfl (by rw [ez_76]; rfl) (by decide) rfl (fun ls hl => ?_)
            try have iz_76 : z_76.toInt = v4.toInt + 1 := by rw [ez_76]; exact tl_addL v4 1 (by decide) (by omega) (by omega)
            refine lv_goto (tgt := 7) hx hb dX11_boundOf_134 (by decide) ?_
            exact ih7 (z_76, z_75) ls (by show (60 - z_76.toInt).toNat < (60 - v4.toInt).toNat; omega) ⟨(show 0 ≤ z_76.toInt from (by omega)), (show z_76.toInt ≤ 60 from (by omega)), lv_sub hl [0, 1, 5, 6] rfl⟩
          · have c_74 : v2.toInt = (-1 : Int) := tl_cmp_nne c_74
            refine lv_lload hx hb dX11_boundOf_119 (lv_at hl 0 rfl) ?_
            refine lv_goto (tgt := 130) hx hb dX11_boundOf_121 (by decide) ?_
            refine lv_lstore_n (lv' := [(2, .long z_73), (8, .long z_73), (6, .long z_69), (5, .int r_56), (4, .int v4), (0, .ref o), (1, .int p0)]) hx hb dX11_boundOf_130 rfl hl (by decide) rfl (fun ls hl => ?_)
            obtain ⟨z_77, ez_77⟩ : ∃ y : Int32, y = v4 + 1 := ⟨_, rfl⟩
            refine lv_iinc (v := z_77) (lv' := [(4, .int z_77), (2, .long z_73), (8, .long z_73), (6, .long z_69), (5, .int r_56), (0, .ref o), (1, .int p0)]) hx hb dX11_boundOf_131 hl (k := 4) rfl (by rw [ez_77]; rfl) (by decide) rfl (fun ls hl => ?_)
            try have iz_77 : z_77.toInt = v4.toInt + 1 := by rw [ez_77]; exact tl_addL v4 1 (by decide) (by omega) (by omega)
            refine lv_goto (tgt := 7) hx hb dX11_boundOf_134 (by decide) ?_
            exact ih7 (z_77, z_73) ls (by show (60 - z_77.toInt).toNat < (60 - v4.toInt).toNat; omega) ⟨(show 0 ≤ z_77.toInt from (by omega)), (show z_77.toInt ≤ 60 from (by omega)), lv_sub hl [0, 1, 5, 6] rfl⟩
set_option maxHeartbeats 4000000 in
set_option maxRecDepth 100000 in
theorem t_X11_stuff (l : Launch) (D : va_G) (cy : Nat → ClassId) (sz : Nat) (L : List Nat) (K : Nat → tk_K) (Γ : tk_G) (f : Nat → va_E) (o : Nat) (p0 : Int32) (p1 : Int32) (p2 : Int32) (p3 : Int32) (ho : tp_r L K 0 (0) 0 o) : Met l yX11_stuff (tl_w yX11_stuff cX11_stuff 5 (some .long)) ({ frames := 5, cells := 0, slots := 0, locals := 115 }) (va_Pc [.ref o, .int p0, .int p1, .int p2, .int p3] (tp_P D cy L K Γ f sz)) (va_Ql (fun (r : Int64) (u : Nat → va_E) => True) (tp_B D cy L K Γ f [28, 29, 23, 24, 27, 30, 31, 32]) (tp_A L sz)) 0 0 (tp_A L sz) := by
  refine Met.ofW (cc := cX11_stuff) (maxL := 5) (ret := (some .long)) (by decide) rfl ?_
  intro p e s m args below meth c s₁ B hml hv
  obtain ⟨rfl, hsz, hP, hK, hL, hI, hN, hU⟩ := hv
  have hx := B.exec
  have hb := B.bytes
  have hr := B.returns
  have hta := tl_hta (atoms_spec (ws := tl_w yX11_stuff cX11_stuff 5 (some .long)) B.pre)
  have hown : s.vm.findClass RX11 = some m.cls := findClass_of_methodNamed B.named
  have hlocks := B.notSynchronized
  subst hsz
  have hI0 := hI
  generalize hAe : tp_A L s.heap.size = A
  have hA : ∀ q : Nat, s.heap.size ≤ q → A q := fun q h => by rw [← hAe]; exact Or.inr h
  have hAL : ∀ q ∈ L, A q := fun q h => by rw [← hAe]; exact Or.inl h
  have hAf : ∀ (H : Heap), s.heap.size ≤ H.size → ∀ q, tp_A L H.size q → A q := fun H h q hq => hq.elim (hAL q) (fun h2 => hA q (Nat.le_trans h h2))
  have hS : va_S A s.heap s.heap [] := va_S.rf
  have hD : va_D A (va_pl L f) := tp_D hL hAL
  have hfr : ∀ b, (K b).1 ∉ ([28, 29, 23, 24, 27, 30, 31, 32] : List Nat) → f b = f b := fun _ _ => rfl
  have hl := lv_entry ([.ref o, .int p0, .int p1, .int p2, .int p3]) (n := 5) (Nat.le_of_ble_eq_true rfl)
  rw [lg_entry_eq]
  generalize (lg_sl ([.ref o, .int p0, .int p1, .int p2, .int p3]) ++ List.replicate (5 - (lg_sl ([.ref o, .int p0, .int p1, .int p2, .int p3])).length) Slot.unset).toArray = ls at hl ⊢
  have hl : lv_has ls 5 [(0, .ref o), (1, .int p0), (2, .int p1), (3, .int p2), (4, .int p3)] := hl
  refine lv_iload_n hx hb dX11_stuff_0 rfl (lv_at hl 3 rfl) ?_
  refine tl_si (tq_rS (As := [.int p2]) (rest := []) ⟨hx, hb, hml, hown, hta⟩ (tp_P.pre hK hN hL hU hI hP) lk_X11_164 (t_X11_isStuff l D cy s.heap.size L K Γ f p2 ) rfl rfl ⟨Nat.le_of_ble_eq_true rfl, Nat.le_of_ble_eq_true rfl⟩ rfl hl.1 rfl (Nat.le_of_ble_eq_true rfl) dX11_stuff_1 ⟨Nat.le_of_ble_eq_true rfl, Nat.le_of_ble_eq_true rfl⟩) (fun r_2 hw_1 => ?_)
  have hw_1 : tl_E r_2 (0 ≤ p2.toInt ∧ p2.toInt ≤ 11) 1 0 := hw_1
  refine lv_if_eq (tgt := 27) hx hb dX11_stuff_4 (by decide) (fun c_3 => ?_) (fun c_3 => ?_)
  · have c_3 := hw_1.f c_3
    refine lv_ldc2 (v := (-2)) hx hb hown (hta _ wk_1055) dX11_stuff_27 ?_
    exact W.lret (v := (-2)) hx hb hr (fun t ht hW => ⟨⟨_, f, rfl, trivial, by rw [ht]; exact hP, hI, hfr⟩, hS.F ht⟩) hS.2.2 dX11_stuff_30
  · have c_3 := hw_1.t c_3
    refine lv_iload hx hb dX11_stuff_7 (lv_at hl 4 rfl) ?_
    refine lv_iconst (v := 0) hx hb dX11_stuff_9 (by decide) ?_
    refine lv_iconst (v := 3) hx hb dX11_stuff_10 (by decide) ?_
    refine tl_si (tq_rS (As := [.int p3, .int 0, .int 3]) (rest := []) ⟨hx, hb, hml, hown, hta⟩ (tp_P.pre hK hN hL hU hI hP) lk_X11_105 (t_X11_isIn l D cy s.heap.size L K Γ f p3 0 3 ) rfl rfl ⟨Nat.le_of_ble_eq_true rfl, Nat.le_of_ble_eq_true rfl⟩ rfl hl.1 rfl (Nat.le_of_ble_eq_true rfl) dX11_stuff_11 ⟨Nat.le_of_ble_eq_true rfl, Nat.le_of_ble_eq_true rfl⟩) (fun r_5 hw_4 => ?_)
    have hw_4 : tl_E r_5 ((0 : Int) ≤ p3.toInt ∧ p3.toInt ≤ (3 : Int)) 1 0 := hw_4
    refine lv_if_eq (tgt := 27) hx hb dX11_stuff_14 (by decide) (fun c_6 => ?_) (fun c_6 => ?_)
    · have c_6 := hw_4.f c_6
      refine lv_ldc2 (v := (-2)) hx hb hown (hta _ wk_1055) dX11_stuff_27 ?_
      exact W.lret (v := (-2)) hx hb hr (fun t ht hW => ⟨⟨_, f, rfl, trivial, by rw [ht]; exact hP, hI, hfr⟩, hS.F ht⟩) hS.2.2 dX11_stuff_30
    · have c_6 := hw_4.t c_6
      refine lv_aload_n hx hb dX11_stuff_17 rfl (lv_at hl 0 rfl) ?_
      refine lv_iload_n hx hb dX11_stuff_18 rfl (lv_at hl 1 rfl) ?_
      refine lv_iload_n hx hb dX11_stuff_19 rfl (lv_at hl 2 rfl) ?_
      refine lv_iconst (v := (-1)) hx hb dX11_stuff_20 (by decide) ?_
      obtain ⟨x_8, x_9, x_10, x_11, x_12, x_13, x_14, x_15, x_16, x_17, x_18, x_19, x_20, x_21, x_22, x_23, hf_7, hx_8, hx_9, hx_10, hx_11, hx_12, hx_13, hx_14, hx_15, hx_16, hx_17, hx_18, hx_19, hx_20, hx_21, hx_22, hx_23⟩ := (show tp_o_X L K (0) 0 (Γ (0, 0, 0)) (f o) from hI0.at ho)
      refine tq_ci hS (hAf _ hS.1) (tq_rV (As := [.int p0, .int p1, .int (-1)]) (rest := []) ⟨hx, hb, hml, hown, hta⟩ (tp_P.pre hK hN hL hU hI hP) (tp_recv hK hP ho.1 hf_7 rfl) lk_X11_246 (t_X11_look l D cy s.heap.size L K Γ f o p0 p1 (-1) ho) rfl rfl ⟨Nat.le_of_ble_eq_true rfl, Nat.le_of_ble_eq_true rfl⟩ rfl hl.1 rfl (Nat.le_of_ble_eq_true rfl) dX11_stuff_21 ⟨Nat.le_of_ble_eq_true rfl, Nat.le_of_ble_eq_true rfl⟩) (fun r_25 f_26 H locs hw_24 hP hI hc_27 hS => ?_)
      have hD : va_D A (va_pl L f_26) := tp_D hL hAL
      have hfr := tp_fr2 hfr hc_27 (by decide)
      have hw_24 : tl_J r_25 (tv_gx f f_26 o) := hw_24
      refine lv_if_ne (tgt := 31) hx hb dX11_stuff_24 (by decide) (fun c_28 => ?_) (fun c_28 => ?_)
      · have c_28 := hw_24.t c_28
        refine lv_iload hx hb dX11_stuff_31 (lv_at hl 4 rfl) ?_
        rcases (show p3.toInt = 0 ∨ p3.toInt = 1 ∨ p3.toInt = 2 ∨ (p3.toInt < 0 ∨ 2 < p3.toInt) by omega) with c_29 | c_29 | c_29 | c_29
        · refine lv_tableIn (tgt := 60) hx hb dX11_stuff_33 (by omega) (by omega) (by rw [c_29]; rfl) (by decide) ?_
          refine lv_aload_n hx hb dX11_stuff_60 rfl (lv_at hl 0 rfl) ?_
          refine lv_iload_n hx hb dX11_stuff_61 rfl (lv_at hl 3 rfl) ?_
          refine tl_sl (tq_rV (As := [.int p2]) (rest := []) ⟨hx, hb, hml, hown, hta⟩ (tp_P.pre hK hN hL hU hI hP) (tp_recv hK hP ho.1 ((tp_un hfr ho (by decide)).trans hf_7) rfl) lk_X11_340 (t_X11_amountOf l D cy H.size L K Γ f_26 o p2 ho) rfl rfl ⟨Nat.le_of_ble_eq_true rfl, Nat.le_of_ble_eq_true rfl⟩ rfl hl.1 rfl (Nat.le_of_ble_eq_true rfl) dX11_stuff_62 ⟨Nat.le_of_ble_eq_true rfl, Nat.le_of_ble_eq_true rfl⟩) (fun r_31 hw_30 => ?_)
          exact W.lret (v := r_31) hx hb hr (fun t ht hW => ⟨⟨_, f_26, rfl, trivial, by rw [ht]; exact hP, hI, hfr⟩, hS.F ht⟩) hS.2.2 dX11_stuff_65
        · refine lv_tableIn (tgt := 66) hx hb dX11_stuff_33 (by omega) (by omega) (by rw [c_29]; rfl) (by decide) ?_
          refine lv_aload_n hx hb dX11_stuff_66 rfl (lv_at hl 0 rfl) ?_
          refine lv_iload_n hx hb dX11_stuff_67 rfl (lv_at hl 3 rfl) ?_
          refine tl_si (tq_rV (As := [.int p2]) (rest := []) ⟨hx, hb, hml, hown, hta⟩ (tp_P.pre hK hN hL hU hI hP) (tp_recv hK hP ho.1 ((tp_un hfr ho (by decide)).trans hf_7) rfl) lk_X11_344 (t_X11_elseOf l D cy H.size L K Γ f_26 o p2 ho) rfl rfl ⟨Nat.le_of_ble_eq_true rfl, Nat.le_of_ble_eq_true rfl⟩ rfl hl.1 rfl (Nat.le_of_ble_eq_true rfl) dX11_stuff_68 ⟨Nat.le_of_ble_eq_true rfl, Nat.le_of_ble_eq_true rfl⟩) (fun r_33 hw_32 => ?_)
          refine lv_i2l (v := r_33.toInt64) hx hb dX11_stuff_71 (by first | rfl | decide) ?_
          exact W.lret (v := r_33.toInt64) hx hb hr (fun t ht hW => ⟨⟨_, f_26, rfl, trivial, by rw [ht]; exact hP, hI, hfr⟩, hS.F ht⟩) hS.2.2 dX11_stuff_72
        · refine lv_tableIn (tgt := 73) hx hb dX11_stuff_33 (by omega) (by omega) (by rw [c_29]; rfl) (by decide) ?_
          refine lv_aload_n hx hb dX11_stuff_73 rfl (lv_at hl 0 rfl) ?_
          refine lv_iload_n hx hb dX11_stuff_74 rfl (lv_at hl 3 rfl) ?_
          refine lv_aload_n hx hb dX11_stuff_75 rfl (lv_at hl 0 rfl) ?_
          refine lv_iload_n hx hb dX11_stuff_76 rfl (lv_at hl 3 rfl) ?_
          refine tl_sl (tq_rV (As := [.int p2]) (rest := [.int p2, .ref o]) ⟨hx, hb, hml, hown, hta⟩ (tp_P.pre hK hN hL hU hI hP) (tp_recv hK hP ho.1 ((tp_un hfr ho (by decide)).trans hf_7) rfl) lk_X11_340 (t_X11_amountOf l D cy H.size L K Γ f_26 o p2 ho) rfl rfl ⟨Nat.le_of_ble_eq_true rfl, Nat.le_of_ble_eq_true rfl⟩ rfl hl.1 rfl (Nat.le_of_ble_eq_true rfl) dX11_stuff_77 ⟨Nat.le_of_ble_eq_true rfl, Nat.le_of_ble_eq_true rfl⟩) (fun r_35 hw_34 => ?_)
          refine tl_si (tq_rV (As := [.int p2, .long r_35]) (rest := []) ⟨hx, hb, hml, hown, hta⟩ (tp_P.pre hK hN hL hU hI hP) (tp_recv hK hP ho.1 ((tp_un hfr ho (by decide)).trans hf_7) rfl) lk_X11_347 (t_X11_thereOf l D cy H.size L K Γ f_26 o p2 r_35 ho) rfl rfl ⟨Nat.le_of_ble_eq_true rfl, Nat.le_of_ble_eq_true rfl⟩ rfl hl.1 rfl (Nat.le_of_ble_eq_true rfl) dX11_stuff_80 ⟨Nat.le_of_ble_eq_true rfl, Nat.le_of_ble_eq_true rfl⟩) (fun r_37 hw_36 => ?_)
          refine lv_i2l (v := r_37.toInt64) hx hb dX11_stuff_83 (by first | rfl | decide) ?_
          exact W.lret (v := r_37.toInt64) hx hb hr (fun t ht hW => ⟨⟨_, f_26, rfl, trivial, by rw [ht]; exact hP, hI, hfr⟩, hS.F ht⟩) hS.2.2 dX11_stuff_84
        · refine lv_tableOut (tgt := 85) hx hb dX11_stuff_33 (by omega) (by decide) ?_
          refine lv_aload_n hx hb dX11_stuff_85 rfl (lv_at hl 0 rfl) ?_
          refine lv_iload_n hx hb dX11_stuff_86 rfl (lv_at hl 3 rfl) ?_
          refine tl_sl (tq_rV (As := [.int p2]) (rest := []) ⟨hx, hb, hml, hown, hta⟩ (tp_P.pre hK hN hL hU hI hP) (tp_recv hK hP ho.1 ((tp_un hfr ho (by decide)).trans hf_7) rfl) lk_X11_351 (t_X11_boundOf l D cy H.size L K Γ f_26 o p2 ho) rfl rfl ⟨Nat.le_of_ble_eq_true rfl, Nat.le_of_ble_eq_true rfl⟩ rfl hl.1 rfl (Nat.le_of_ble_eq_true rfl) dX11_stuff_87 ⟨Nat.le_of_ble_eq_true rfl, Nat.le_of_ble_eq_true rfl⟩) (fun r_39 hw_38 => ?_)
          exact W.lret (v := r_39) hx hb hr (fun t ht hW => ⟨⟨_, f_26, rfl, trivial, by rw [ht]; exact hP, hI, hfr⟩, hS.F ht⟩) hS.2.2 dX11_stuff_90
      · have c_28 := c_28
        refine lv_ldc2 (v := (-2)) hx hb hown (hta _ wk_1055) dX11_stuff_27 ?_
        exact W.lret (v := (-2)) hx hb hr (fun t ht hW => ⟨⟨_, f_26, rfl, trivial, by rw [ht]; exact hP, hI, hfr⟩, hS.F ht⟩) hS.2.2 dX11_stuff_30
set_option maxHeartbeats 4000000 in
set_option maxRecDepth 100000 in
theorem t_X11_likeliest (l : Launch) (D : va_G) (cy : Nat → ClassId) (sz : Nat) (L : List Nat) (K : Nat → tk_K) (Γ : tk_G) (f : Nat → va_E) (o : Nat) (p0 : Int32) (p1 : Int32) (ho : tp_r L K 0 (0) 0 o) : Met l yX11_likeliest (tl_w yX11_likeliest cX11_likeliest 11 (some .int)) ({ frames := 5, cells := 0, slots := 0, locals := 115 }) (va_Pc [.ref o, .int p0, .int p1] (tp_P D cy L K Γ f sz)) (va_Qi (fun (r : Int32) (u : Nat → va_E) => True) (tp_B D cy L K Γ f [28, 29, 23, 24, 27, 30, 31, 32]) (tp_A L sz)) 0 0 (tp_A L sz) := by
  refine Met.ofW (cc := cX11_likeliest) (maxL := 11) (ret := (some .int)) (by decide) rfl ?_
  intro p e s m args below meth c s₁ B hml hv
  obtain ⟨rfl, hsz, hP, hK, hL, hI, hN, hU⟩ := hv
  have hx := B.exec
  have hb := B.bytes
  have hr := B.returns
  have hta := tl_hta (atoms_spec (ws := tl_w yX11_likeliest cX11_likeliest 11 (some .int)) B.pre)
  have hown : s.vm.findClass RX11 = some m.cls := findClass_of_methodNamed B.named
  have hlocks := B.notSynchronized
  subst hsz
  have hI0 := hI
  generalize hAe : tp_A L s.heap.size = A
  have hA : ∀ q : Nat, s.heap.size ≤ q → A q := fun q h => by rw [← hAe]; exact Or.inr h
  have hAL : ∀ q ∈ L, A q := fun q h => by rw [← hAe]; exact Or.inl h
  have hAf : ∀ (H : Heap), s.heap.size ≤ H.size → ∀ q, tp_A L H.size q → A q := fun H h q hq => hq.elim (hAL q) (fun h2 => hA q (Nat.le_trans h h2))
  have hS : va_S A s.heap s.heap [] := va_S.rf
  have hD : va_D A (va_pl L f) := tp_D hL hAL
  have hfr : ∀ b, (K b).1 ∉ ([28, 29, 23, 24, 27, 30, 31, 32] : List Nat) → f b = f b := fun _ _ => rfl
  have hl := lv_entry ([.ref o, .int p0, .int p1]) (n := 11) (Nat.le_of_ble_eq_true rfl)
  rw [lg_entry_eq]
  generalize (lg_sl ([.ref o, .int p0, .int p1]) ++ List.replicate (11 - (lg_sl ([.ref o, .int p0, .int p1])).length) Slot.unset).toArray = ls at hl ⊢
  have hl : lv_has ls 11 [(0, .ref o), (1, .int p0), (2, .int p1)] := hl
  refine lv_aload_n hx hb dX11_likeliest_0 rfl (lv_at hl 0 rfl) ?_
  refine lv_iload_n hx hb dX11_likeliest_1 rfl (lv_at hl 1 rfl) ?_
  refine lv_iload_n hx hb dX11_likeliest_2 rfl (lv_at hl 2 rfl) ?_
  refine lv_iconst (v := (-1)) hx hb dX11_likeliest_3 (by decide) ?_
  obtain ⟨x_2, x_3, x_4, x_5, x_6, x_7, x_8, x_9, x_10, x_11, x_12, x_13, x_14, x_15, x_16, x_17, hf_1, hx_2, hx_3, hx_4, hx_5, hx_6, hx_7, hx_8, hx_9, hx_10, hx_11, hx_12, hx_13, hx_14, hx_15, hx_16, hx_17⟩ := (show tp_o_X L K (0) 0 (Γ (0, 0, 0)) (f o) from hI0.at ho)
  refine tq_ci hS (hAf _ hS.1) (tq_rV (As := [.int p0, .int p1, .int (-1)]) (rest := []) ⟨hx, hb, hml, hown, hta⟩ (tp_P.pre hK hN hL hU hI hP) (tp_recv hK hP ho.1 hf_1 rfl) lk_X11_246 (t_X11_look l D cy s.heap.size L K Γ f o p0 p1 (-1) ho) rfl rfl ⟨Nat.le_of_ble_eq_true rfl, Nat.le_of_ble_eq_true rfl⟩ rfl hl.1 rfl (Nat.le_of_ble_eq_true rfl) dX11_likeliest_4 ⟨Nat.le_of_ble_eq_true rfl, Nat.le_of_ble_eq_true rfl⟩) (fun r_19 f_20 H locs hw_18 hP hI hc_21 hS => ?_)
  have hD : va_D A (va_pl L f_20) := tp_D hL hAL
  have hfr := tp_fr2 hfr hc_21 (by decide)
  have hw_18 : tl_J r_19 (tv_gx f f_20 o) := hw_18
  refine lv_if_ne (tgt := 12) hx hb dX11_likeliest_7 (by decide) (fun c_22 => ?_) (fun c_22 => ?_)
  · have c_22 := hw_18.t c_22
    refine lv_bipush (v := (-2)) hx hb dX11_likeliest_12 (by decide) ?_
    refine lv_istore_n (lv' := [(3, .int (-2)), (0, .ref o), (1, .int p0), (2, .int p1)]) hx hb dX11_likeliest_14 rfl hl (by decide) rfl (fun ls hl => ?_)
    refine lv_iconst (v := 0) hx hb dX11_likeliest_15 (by decide) ?_
    refine lv_istore (lv' := [(4, .int 0), (3, .int (-2)), (0, .ref o), (1, .int p0), (2, .int p1)]) hx hb dX11_likeliest_16 hl (by decide) rfl (fun ls hl => ?_)
    refine lv_iconst (v := 1) hx hb dX11_likeliest_18 (by decide) ?_
    refine lv_istore (lv' := [(5, .int 1), (4, .int 0), (3, .int (-2)), (0, .ref o), (1, .int p0), (2, .int p1)]) hx hb dX11_likeliest_19 hl (by decide) rfl (fun ls hl => ?_)
    refine lv_iconst (v := 0) hx hb dX11_likeliest_21 (by decide) ?_
    refine lv_istore (lv' := [(6, .int 0), (5, .int 1), (4, .int 0), (3, .int (-2)), (0, .ref o), (1, .int p0), (2, .int p1)]) hx hb dX11_likeliest_22 hl (by decide) rfl (fun ls hl => ?_)
    refine tl_ind (G := fun H locs ls => W p l e ((headSpec (tl_w yX11_likeliest cX11_likeliest 11 (some .int)) ({ frames := 5, cells := 0, slots := 0, locals := 115 })).room) s m #[.ref o, .int p0, .int p1] below meth c H locs 0 0 (MQ below (va_Qi (fun (r : Int32) (u : Nat → va_E) => True) (tp_B D cy L K Γ f [28, 29, 23, 24, 27, 30, 31, 32]) A) #[.ref o, .int p0, .int p1] s 0 0 A) (F0 m 24 ls [])) (α := (Nat → va_E) × Int32 × Int32 × Int32 × Int32) (fun aq => (12 - aq.2.1.toInt).toNat) (fun aq H locs ls => (0 ≤ aq.2.1.toInt) ∧ (aq.2.1.toInt ≤ 12) ∧ va_P D vwCl (va_pl L aq.1) H ∧ tp_I cy L K Γ aq.1 ∧ (∀ b, (K b).1 ∉ ([28, 29, 23, 24, 27, 30, 31, 32] : List Nat) → aq.1 b = f b) ∧ va_S A s.heap H locs ∧ lv_has ls 11 [(6, .int aq.2.1), (5, .int aq.2.2.1), (4, .int aq.2.2.2.1), (3, .int aq.2.2.2.2), (0, .ref o), (1, .int p0), (2, .int p1)]) ?_ (f_20, (0 : Int32), (1 : Int32), (0 : Int32), ((-2) : Int32)) H locs ls ⟨(show 0 ≤ (0 : Int) from (by omega)), (show (0 : Int) ≤ 12 from (by omega)), hP, hI, hfr, hS, lv_sub hl [0, 1, 2, 3, 4, 5, 6] rfl⟩
    rintro ⟨f_23, v6, v5, v4, v3⟩ H locs ls ⟨h0, h1, hP, hI, hfr, hS, hl⟩ ih24
    have hP : va_P D vwCl (va_pl L f_23) H := hP
    have hI : tp_I cy L K Γ f_23 := hI
    have hfr : ∀ b, (K b).1 ∉ ([28, 29, 23, 24, 27, 30, 31, 32] : List Nat) → f_23 b = f b := hfr
    have hD : va_D A (va_pl L f_23) := tp_D hL hAL
    have h0 : 0 ≤ v6.toInt := h0
    have h1 : v6.toInt ≤ 12 := h1
    have hl : lv_has ls 11 [(6, .int v6), (5, .int v5), (4, .int v4), (3, .int v3), (0, .ref o), (1, .int p0), (2, .int p1)] := hl
    refine lv_iload hx hb dX11_likeliest_24 (lv_at hl 0 rfl) ?_
    refine lv_bipush (v := 12) hx hb dX11_likeliest_26 (by decide) ?_
    refine lv_icmp_ge (tgt := 104) hx hb dX11_likeliest_28 (by decide) (fun c_24 => ?_) (fun c_24 => ?_)
    · have c_24 : (12 : Int) ≤ v6.toInt := tl_le c_24
      refine lv_iload_n hx hb dX11_likeliest_104 rfl (lv_at hl 3 rfl) ?_
      exact W.iret (v := v3) hx hb hr (fun t ht hW => ⟨⟨_, f_23, rfl, trivial, by rw [ht]; exact hP, hI, hfr⟩, hS.F ht⟩) hS.2.2 dX11_likeliest_105
    · have c_24 : v6.toInt < (12 : Int) := tl_nle c_24
      refine lv_aload_n hx hb dX11_likeliest_31 rfl (lv_at hl 4 rfl) ?_
      refine lv_iload hx hb dX11_likeliest_32 (lv_at hl 0 rfl) ?_
      refine tl_sl (tq_rV (As := [.int v6]) (rest := []) ⟨hx, hb, hml, hown, hta⟩ (tp_P.pre hK hN hL hU hI hP) (tp_recv hK hP ho.1 ((tp_un hfr ho (by decide)).trans hf_1) rfl) lk_X11_340 (t_X11_amountOf l D cy H.size L K Γ f_23 o v6 ho) rfl rfl ⟨Nat.le_of_ble_eq_true rfl, Nat.le_of_ble_eq_true rfl⟩ rfl hl.1 rfl (Nat.le_of_ble_eq_true rfl) dX11_likeliest_34 ⟨Nat.le_of_ble_eq_true rfl, Nat.le_of_ble_eq_true rfl⟩) (fun r_26 hw_25 => ?_)
      refine lv_lstore (lv' := [(7, .long r_26), (6, .int v6), (5, .int v5), (4, .int v4), (3, .int v3), (0, .ref o), (1, .int p0), (2, .int p1)]) hx hb dX11_likeliest_37 hl (by decide) rfl (fun ls hl => ?_)
      refine lv_aload_n hx hb dX11_likeliest_39 rfl (lv_at hl 5 rfl) ?_
      refine lv_iload hx hb dX11_likeliest_40 (lv_at hl 1 rfl) ?_
      refine lv_lload hx hb dX11_likeliest_42 (lv_at hl 0 rfl) ?_
      refine tl_si (tq_rV (As := [.int v6, .long r_26]) (rest := []) ⟨hx, hb, hml, hown, hta⟩ (tp_P.pre hK hN hL hU hI hP) (tp_recv hK hP ho.1 ((tp_un hfr ho (by decide)).trans hf_1) rfl) lk_X11_347 (t_X11_thereOf l D cy H.size L K Γ f_23 o v6 r_26 ho) rfl rfl ⟨Nat.le_of_ble_eq_true rfl, Nat.le_of_ble_eq_true rfl⟩ rfl hl.1 rfl (Nat.le_of_ble_eq_true rfl) dX11_likeliest_44 ⟨Nat.le_of_ble_eq_true rfl, Nat.le_of_ble_eq_true rfl⟩) (fun r_28 hw_27 => ?_)
      refine lv_istore (lv' := [(9, .int r_28), (7, .long r_26), (6, .int v6), (5, .int v5), (4, .int v4), (3, .int v3), (0, .ref o), (1, .int p0), (2, .int p1)]) hx hb dX11_likeliest_47 hl (by decide) rfl (fun ls hl => ?_)
      refine lv_iconst (v := 1) hx hb dX11_likeliest_49 (by decide) ?_
      refine lv_aload_n hx hb dX11_likeliest_50 rfl (lv_at hl 6 rfl) ?_
      refine lv_iload hx hb dX11_likeliest_51 (lv_at hl 2 rfl) ?_
      refine tl_si (tq_rV (As := [.int v6]) (rest := [.int 1]) ⟨hx, hb, hml, hown, hta⟩ (tp_P.pre hK hN hL hU hI hP) (tp_recv hK hP ho.1 ((tp_un hfr ho (by decide)).trans hf_1) rfl) lk_X11_344 (t_X11_elseOf l D cy H.size L K Γ f_23 o v6 ho) rfl rfl ⟨Nat.le_of_ble_eq_true rfl, Nat.le_of_ble_eq_true rfl⟩ rfl hl.1 rfl (Nat.le_of_ble_eq_true rfl) dX11_likeliest_53 ⟨Nat.le_of_ble_eq_true rfl, Nat.le_of_ble_eq_true rfl⟩) (fun r_30 hw_29 => ?_)
      refine va_mmax hx hb (by rw [hml]; exact hl.1.symm) hown (hta _ wk_1069) (hta _ wk_82) (hta _ wk_83) (hta _ wk_84) (Nat.le_of_ble_eq_true rfl) (Nat.le_of_ble_eq_true rfl) (Nat.le_of_ble_eq_true rfl) (Nat.le_of_ble_eq_true rfl) dX11_likeliest_56 ?_
      refine lv_topi (fun z_31 ez_31 => ?_)
      have iz_31 : (z_31.toInt = r_30.toInt ∧ (1 : Int) ≤ r_30.toInt) ∨ (z_31.toInt = (1 : Int) ∧ r_30.toInt ≤ (1 : Int)) := by rw [ez_31]; exact tl_maxF
      refine lv_istore (lv' := [(10, .int z_31), (9, .int r_28), (7, .long r_26), (6, .int v6), (5, .int v5), (4, .int v4), (3, .int v3), (0, .ref o), (1, .int p0), (2, .int p1)]) hx hb dX11_likeliest_59 hl (by decide) rfl (fun ls hl => ?_)
      refine lv_lload hx hb dX11_likeliest_61 (lv_at hl 2 rfl) ?_
      refine lv_ldc2 (v := (-1)) hx hb hown (hta _ wk_962) dX11_likeliest_63 ?_
      refine W.lcmp hx hb dX11_likeliest_66 ?_
      refine lv_if_eq (tgt := 98) hx hb dX11_likeliest_67 (by decide) (fun c_32 => ?_) (fun c_32 => ?_)
      · have c_32 : r_26.toInt = (-1 : Int) := tl_cmp_eq c_32
        obtain ⟨z_33, ez_33⟩ : ∃ y : Int32, y = v6 + 1 := ⟨_, rfl⟩
        refine lv_iinc (v := z_33) (lv' := [(6, .int z_33), (10, .int z_31), (9, .int r_28), (7, .long r_26), (5, .int v5), (4, .int v4), (3, .int v3), (0, .ref o), (1, .int p0), (2, .int p1)]) hx hb dX11_likeliest_98 hl (k := 3) rfl (by rw [ez_33]; rfl) (by decide) rfl (fun ls hl => ?_)
        try have iz_33 : z_33.toInt = v6.toInt + 1 := by rw [ez_33]; exact tl_addL v6 1 (by decide) (by omega) (by omega)
        refine lv_goto (tgt := 24) hx hb dX11_likeliest_101 (by decide) ?_
        exact ih24 (f_23, z_33, v5, v4, v3) H locs ls (by show (12 - z_33.toInt).toNat < (12 - v6.toInt).toNat; omega) ⟨(show 0 ≤ z_33.toInt from (by omega)), (show z_33.toInt ≤ 12 from (by omega)), hP, hI, hfr, hS, lv_sub hl [0, 4, 5, 6, 7, 8, 9] rfl⟩
      · have c_32 : ¬ r_26.toInt = (-1 : Int) := tl_cmp_neq c_32
        refine lv_iload_n hx hb dX11_likeliest_70 rfl (lv_at hl 6 rfl) ?_
        refine lv_if_lt (tgt := 87) hx hb dX11_likeliest_71 (by decide) (fun c_34 => ?_) (fun c_34 => ?_)
        · have c_34 : v3.toInt < (0 : Int) := tl_lt c_34
          refine lv_iload hx hb dX11_likeliest_87 (lv_at hl 3 rfl) ?_
          refine lv_istore_n (lv' := [(3, .int v6), (10, .int z_31), (9, .int r_28), (7, .long r_26), (6, .int v6), (5, .int v5), (4, .int v4), (0, .ref o), (1, .int p0), (2, .int p1)]) hx hb dX11_likeliest_89 rfl hl (by decide) rfl (fun ls hl => ?_)
          refine lv_iload hx hb dX11_likeliest_90 (lv_at hl 2 rfl) ?_
          refine lv_istore (lv' := [(4, .int r_28), (3, .int v6), (10, .int z_31), (9, .int r_28), (7, .long r_26), (6, .int v6), (5, .int v5), (0, .ref o), (1, .int p0), (2, .int p1)]) hx hb dX11_likeliest_92 hl (by decide) rfl (fun ls hl => ?_)
          refine lv_iload hx hb dX11_likeliest_94 (lv_at hl 2 rfl) ?_
          refine lv_istore (lv' := [(5, .int z_31), (4, .int r_28), (3, .int v6), (10, .int z_31), (9, .int r_28), (7, .long r_26), (6, .int v6), (0, .ref o), (1, .int p0), (2, .int p1)]) hx hb dX11_likeliest_96 hl (by decide) rfl (fun ls hl => ?_)
          obtain ⟨z_35, ez_35⟩ : ∃ y : Int32, y = v6 + 1 := ⟨_, rfl⟩
          refine lv_iinc (v := z_35) (lv' := [(6, .int z_35), (5, .int z_31), (4, .int r_28), (3, .int v6), (10, .int z_31), (9, .int r_28), (7, .long r_26), (0, .ref o), (1, .int p0), (2, .int p1)]) hx hb dX11_likeliest_98 hl (k := 6) rfl (by rw [ez_35]; rfl) (by decide) rfl (fun ls hl => ?_)
          try have iz_35 : z_35.toInt = v6.toInt + 1 := by rw [ez_35]; exact tl_addL v6 1 (by decide) (by omega) (by omega)
          refine lv_goto (tgt := 24) hx hb dX11_likeliest_101 (by decide) ?_
          exact ih24 (f_23, z_35, z_31, r_28, v6) H locs ls (by show (12 - z_35.toInt).toNat < (12 - v6.toInt).toNat; omega) ⟨(show 0 ≤ z_35.toInt from (by omega)), (show z_35.toInt ≤ 12 from (by omega)), hP, hI, hfr, hS, lv_sub hl [0, 1, 2, 3, 7, 8, 9] rfl⟩
        · have c_34 : (0 : Int) ≤ v3.toInt := tl_nlt c_34
          refine lv_iload hx hb dX11_likeliest_74 (lv_at hl 1 rfl) ?_
          refine lv_iload hx hb dX11_likeliest_76 (lv_at hl 4 rfl) ?_
          refine lv_imul hx hb dX11_likeliest_78 ?_
          refine lv_topi (fun z_36 ez_36 => ?_)
          try have iz_36 : z_36.toInt = r_28.toInt * v5.toInt := by rw [ez_36]; exact tl_mulN r_28 v5 rfl rfl (by omega) (by omega)
          refine lv_iload hx hb dX11_likeliest_79 (lv_at hl 5 rfl) ?_
          refine lv_iload hx hb dX11_likeliest_81 (lv_at hl 0 rfl) ?_
          refine lv_imul hx hb dX11_likeliest_83 ?_
          refine lv_topi (fun z_37 ez_37 => ?_)
          try have iz_37 : z_37.toInt = v4.toInt * z_31.toInt := by rw [ez_37]; exact tl_mulN v4 z_31 rfl rfl (by omega) (by omega)
          refine lv_icmp_le (tgt := 98) hx hb dX11_likeliest_84 (by decide) (fun c_38 => ?_) (fun c_38 => ?_)
          · have c_38 : z_36.toInt ≤ z_37.toInt := tl_le c_38
            obtain ⟨z_39, ez_39⟩ : ∃ y : Int32, y = v6 + 1 := ⟨_, rfl⟩
            refine lv_iinc (v := z_39) (lv' := [(6, .int z_39), (10, .int z_31), (9, .int r_28), (7, .long r_26), (5, .int v5), (4, .int v4), (3, .int v3), (0, .ref o), (1, .int p0), (2, .int p1)]) hx hb dX11_likeliest_98 hl (k := 3) rfl (by rw [ez_39]; rfl) (by decide) rfl (fun ls hl => ?_)
            try have iz_39 : z_39.toInt = v6.toInt + 1 := by rw [ez_39]; exact tl_addL v6 1 (by decide) (by omega) (by omega)
            refine lv_goto (tgt := 24) hx hb dX11_likeliest_101 (by decide) ?_
            exact ih24 (f_23, z_39, v5, v4, v3) H locs ls (by show (12 - z_39.toInt).toNat < (12 - v6.toInt).toNat; omega) ⟨(show 0 ≤ z_39.toInt from (by omega)), (show z_39.toInt ≤ 12 from (by omega)), hP, hI, hfr, hS, lv_sub hl [0, 4, 5, 6, 7, 8, 9] rfl⟩
          · have c_38 : z_37.toInt < z_36.toInt := tl_nle c_38
            refine lv_iload hx hb dX11_likeliest_87 (lv_at hl 3 rfl) ?_
            refine lv_istore_n (lv' := [(3, .int v6), (10, .int z_31), (9, .int r_28), (7, .long r_26), (6, .int v6), (5, .int v5), (4, .int v4), (0, .ref o), (1, .int p0), (2, .int p1)]) hx hb dX11_likeliest_89 rfl hl (by decide) rfl (fun ls hl => ?_)
            refine lv_iload hx hb dX11_likeliest_90 (lv_at hl 2 rfl) ?_
            refine lv_istore (lv' := [(4, .int r_28), (3, .int v6), (10, .int z_31), (9, .int r_28), (7, .long r_26), (6, .int v6), (5, .int v5), (0, .ref o), (1, .int p0), (2, .int p1)]) hx hb dX11_likeliest_92 hl (by decide) rfl (fun ls hl => ?_)
            refine lv_iload hx hb dX11_likeliest_94 (lv_at hl 2 rfl) ?_
            refine lv_istore (lv' := [(5, .int z_31), (4, .int r_28), (3, .int v6), (10, .int z_31), (9, .int r_28), (7, .long r_26), (6, .int v6), (0, .ref o), (1, .int p0), (2, .int p1)]) hx hb dX11_likeliest_96 hl (by decide) rfl (fun ls hl => ?_)
            obtain ⟨z_40, ez_40⟩ : ∃ y : Int32, y = v6 + 1 := ⟨_, rfl⟩
            refine lv_iinc (v := z_40) (lv' := [(6, .int z_40), (5, .int z_31), (4, .int r_28), (3, .int v6), (10, .int z_31), (9, .int r_28), (7, .long r_26), (0, .ref o), (1, .int p0), (2, .int p1)]) hx hb dX11_likeliest_98 hl (k := 6) rfl (by rw [ez_40]; rfl) (by decide) rfl (fun ls hl => ?_)
            try have iz_40 : z_40.toInt = v6.toInt + 1 := by rw [ez_40]; exact tl_addL v6 1 (by decide) (by omega) (by omega)
            refine lv_goto (tgt := 24) hx hb dX11_likeliest_101 (by decide) ?_
            exact ih24 (f_23, z_40, z_31, r_28, v6) H locs ls (by show (12 - z_40.toInt).toNat < (12 - v6.toInt).toNat; omega) ⟨(show 0 ≤ z_40.toInt from (by omega)), (show z_40.toInt ≤ 12 from (by omega)), hP, hI, hfr, hS, lv_sub hl [0, 1, 2, 3, 7, 8, 9] rfl⟩
  · have c_22 := c_22
    refine lv_iconst (v := (-1)) hx hb dX11_likeliest_10 (by decide) ?_
    exact W.iret (v := (-1)) hx hb hr (fun t ht hW => ⟨⟨_, f_20, rfl, trivial, by rw [ht]; exact hP, hI, hfr⟩, hS.F ht⟩) hS.2.2 dX11_likeliest_11
