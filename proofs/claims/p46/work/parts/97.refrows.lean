theorem dX12_rows_0 : decode cX12_rows 0 = .ok (.iconst 0, 1) := by decide +kernel
theorem dX12_rows_1 : decode cX12_rows 1 = .ok (.istore_n 2, 1) := by decide +kernel
theorem dX12_rows_2 : decode cX12_rows 2 = .ok (.iload_n 2, 1) := by decide +kernel
theorem dX12_rows_3 : decode cX12_rows 3 = .ok (.aload_n 0, 1) := by decide +kernel
theorem dX12_rows_4 : decode cX12_rows 4 = .ok (.getfield 7, 3) := by decide +kernel
theorem dX12_rows_7 : decode cX12_rows 7 = .ok (.iconst 1, 1) := by decide +kernel
theorem dX12_rows_8 : decode cX12_rows 8 = .ok (.iaload, 1) := by decide +kernel
theorem dX12_rows_9 : decode cX12_rows 9 = .ok (.if_icmp .ge 52, 3) := by decide +kernel
theorem dX12_rows_12 : decode cX12_rows 12 = .ok (.aload_n 0, 1) := by decide +kernel
theorem dX12_rows_13 : decode cX12_rows 13 = .ok (.getfield 91, 3) := by decide +kernel
theorem dX12_rows_16 : decode cX12_rows 16 = .ok (.iload_n 2, 1) := by decide +kernel
theorem dX12_rows_17 : decode cX12_rows 17 = .ok (.aload_n 0, 1) := by decide +kernel
theorem dX12_rows_18 : decode cX12_rows 18 = .ok (.iload_n 1, 1) := by decide +kernel
theorem dX12_rows_19 : decode cX12_rows 19 = .ok (.iload_n 2, 1) := by decide +kernel
theorem dX12_rows_20 : decode cX12_rows 20 = .ok (.invokevirtual 450, 3) := by decide +kernel
theorem dX12_rows_23 : decode cX12_rows 23 = .ok (.lastore, 1) := by decide +kernel
theorem dX12_rows_24 : decode cX12_rows 24 = .ok (.aload_n 0, 1) := by decide +kernel
theorem dX12_rows_25 : decode cX12_rows 25 = .ok (.getfield 88, 3) := by decide +kernel
theorem dX12_rows_28 : decode cX12_rows 28 = .ok (.iload_n 2, 1) := by decide +kernel
theorem dX12_rows_29 : decode cX12_rows 29 = .ok (.aload_n 0, 1) := by decide +kernel
theorem dX12_rows_30 : decode cX12_rows 30 = .ok (.getfield 425, 3) := by decide +kernel
theorem dX12_rows_33 : decode cX12_rows 33 = .ok (.bastore, 1) := by decide +kernel
theorem dX12_rows_34 : decode cX12_rows 34 = .ok (.aload_n 0, 1) := by decide +kernel
theorem dX12_rows_35 : decode cX12_rows 35 = .ok (.getfield 85, 3) := by decide +kernel
theorem dX12_rows_38 : decode cX12_rows 38 = .ok (.iload_n 2, 1) := by decide +kernel
theorem dX12_rows_39 : decode cX12_rows 39 = .ok (.aload_n 0, 1) := by decide +kernel
theorem dX12_rows_40 : decode cX12_rows 40 = .ok (.getfield 425, 3) := by decide +kernel
theorem dX12_rows_43 : decode cX12_rows 43 = .ok (.ifCond .eq 10, 3) := by decide +kernel
theorem dX12_rows_46 : decode cX12_rows 46 = .ok (.aload_n 0, 1) := by decide +kernel
theorem dX12_rows_47 : decode cX12_rows 47 = .ok (.invokevirtual 431, 3) := by decide +kernel
theorem dX12_rows_50 : decode cX12_rows 50 = .ok (.goto 4, 3) := by decide +kernel
theorem dX12_rows_53 : decode cX12_rows 53 = .ok (.lconst 0, 1) := by decide +kernel
theorem dX12_rows_54 : decode cX12_rows 54 = .ok (.lastore, 1) := by decide +kernel
theorem dX12_rows_55 : decode cX12_rows 55 = .ok (.iinc 2 1, 3) := by decide +kernel
theorem dX12_rows_58 : decode cX12_rows 58 = .ok (.goto (-56), 3) := by decide +kernel
theorem dX12_rows_61 : decode cX12_rows 61 = .ok (.return_, 1) := by decide +kernel
theorem wk_174 : Cond.fieldLink RX12 85 "ThinLineModel" "deepRow" "[J" ∈ tl_L := List.mem_filter.mpr ⟨lw_m6 (i := 106) rfl, rfl⟩
theorem wk_175 : Cond.fieldLink RX12 88 "ThinLineModel" "hasDeep" "[Z" ∈ tl_L := List.mem_filter.mpr ⟨lw_m6 (i := 107) rfl, rfl⟩
theorem wk_176 : Cond.fieldLink RX12 91 "ThinLineModel" "scoreRow" "[J" ∈ tl_L := List.mem_filter.mpr ⟨lw_m6 (i := 108) rfl, rfl⟩
theorem dX12_divisor_0 : decode cX12_divisor 0 = .ok (.lload_n 0, 1) := by decide +kernel
theorem dX12_divisor_1 : decode cX12_divisor 1 = .ok (.lstore 4, 2) := by decide +kernel
theorem dX12_divisor_3 : decode cX12_divisor 3 = .ok (.lload_n 2, 1) := by decide +kernel
theorem dX12_divisor_4 : decode cX12_divisor 4 = .ok (.lstore 6, 2) := by decide +kernel
theorem dX12_divisor_6 : decode cX12_divisor 6 = .ok (.lload 6, 2) := by decide +kernel
theorem dX12_divisor_8 : decode cX12_divisor 8 = .ok (.lconst 0, 1) := by decide +kernel
theorem dX12_divisor_9 : decode cX12_divisor 9 = .ok (.lcmp, 1) := by decide +kernel
theorem dX12_divisor_10 : decode cX12_divisor 10 = .ok (.ifCond .eq 21, 3) := by decide +kernel
theorem dX12_divisor_13 : decode cX12_divisor 13 = .ok (.lload 4, 2) := by decide +kernel
theorem dX12_divisor_15 : decode cX12_divisor 15 = .ok (.lload 6, 2) := by decide +kernel
theorem dX12_divisor_17 : decode cX12_divisor 17 = .ok (.lrem, 1) := by decide +kernel
theorem dX12_divisor_18 : decode cX12_divisor 18 = .ok (.lstore 8, 2) := by decide +kernel
theorem dX12_divisor_20 : decode cX12_divisor 20 = .ok (.lload 6, 2) := by decide +kernel
theorem dX12_divisor_22 : decode cX12_divisor 22 = .ok (.lstore 4, 2) := by decide +kernel
theorem dX12_divisor_24 : decode cX12_divisor 24 = .ok (.lload 8, 2) := by decide +kernel
theorem dX12_divisor_26 : decode cX12_divisor 26 = .ok (.lstore 6, 2) := by decide +kernel
theorem dX12_divisor_28 : decode cX12_divisor 28 = .ok (.goto (-22), 3) := by decide +kernel
theorem dX12_divisor_31 : decode cX12_divisor 31 = .ok (.lload 4, 2) := by decide +kernel
theorem dX12_divisor_33 : decode cX12_divisor 33 = .ok (.lreturn, 1) := by decide +kernel
theorem dX12_together_0 : decode cX12_together 0 = .ok (.aload_n 0, 1) := by decide +kernel
theorem dX12_together_1 : decode cX12_together 1 = .ok (.iconst 1, 1) := by decide +kernel
theorem dX12_together_2 : decode cX12_together 2 = .ok (.iload_n 1, 1) := by decide +kernel
theorem dX12_together_3 : decode cX12_together 3 = .ok (.invokevirtual 382, 3) := by decide +kernel
theorem dX12_together_6 : decode cX12_together 6 = .ok (.ifCond .eq 35, 3) := by decide +kernel
theorem dX12_together_9 : decode cX12_together 9 = .ok (.iload_n 2, 1) := by decide +kernel
theorem dX12_together_10 : decode cX12_together 10 = .ok (.i2l, 1) := by decide +kernel
theorem dX12_together_11 : decode cX12_together 11 = .ok (.lconst 1, 1) := by decide +kernel
theorem dX12_together_12 : decode cX12_together 12 = .ok (.ldc2_w 494, 3) := by decide +kernel
theorem dX12_together_15 : decode cX12_together 15 = .ok (.invokestatic 112, 3) := by decide +kernel
theorem dX12_together_18 : decode cX12_together 18 = .ok (.ifCond .eq 23, 3) := by decide +kernel
theorem dX12_together_21 : decode cX12_together 21 = .ok (.iload_n 3, 1) := by decide +kernel
theorem dX12_together_22 : decode cX12_together 22 = .ok (.invokestatic 496, 3) := by decide +kernel
theorem dX12_together_25 : decode cX12_together 25 = .ok (.ifCond .eq 16, 3) := by decide +kernel
theorem dX12_together_28 : decode cX12_together 28 = .ok (.iload 4, 2) := by decide +kernel
theorem dX12_together_30 : decode cX12_together 30 = .ok (.i2l, 1) := by decide +kernel
theorem dX12_together_31 : decode cX12_together 31 = .ok (.lconst 0, 1) := by decide +kernel
theorem dX12_together_32 : decode cX12_together 32 = .ok (.ldc2_w 322, 3) := by decide +kernel
theorem dX12_together_35 : decode cX12_together 35 = .ok (.invokestatic 112, 3) := by decide +kernel
theorem dX12_together_38 : decode cX12_together 38 = .ok (.ifCond .ne 7, 3) := by decide +kernel
theorem dX12_together_41 : decode cX12_together 41 = .ok (.ldc_w 499, 3) := by decide +kernel
theorem dX12_together_44 : decode cX12_together 44 = .ok (.ireturn, 1) := by decide +kernel
theorem dX12_together_45 : decode cX12_together 45 = .ok (.aload_n 0, 1) := by decide +kernel
theorem dX12_together_46 : decode cX12_together 46 = .ok (.iload_n 1, 1) := by decide +kernel
theorem dX12_together_47 : decode cX12_together 47 = .ok (.invokevirtual 500, 3) := by decide +kernel
theorem dX12_together_50 : decode cX12_together 50 = .ok (.lconst 0, 1) := by decide +kernel
theorem dX12_together_51 : decode cX12_together 51 = .ok (.lstore 5, 2) := by decide +kernel
theorem dX12_together_53 : decode cX12_together 53 = .ok (.iconst 0, 1) := by decide +kernel
theorem dX12_together_54 : decode cX12_together 54 = .ok (.istore 7, 2) := by decide +kernel
theorem dX12_together_56 : decode cX12_together 56 = .ok (.iconst 0, 1) := by decide +kernel
theorem dX12_together_57 : decode cX12_together 57 = .ok (.istore 8, 2) := by decide +kernel
theorem dX12_together_59 : decode cX12_together 59 = .ok (.iload 8, 2) := by decide +kernel
theorem dX12_together_61 : decode cX12_together 61 = .ok (.aload_n 0, 1) := by decide +kernel
theorem dX12_together_62 : decode cX12_together 62 = .ok (.getfield 7, 3) := by decide +kernel
theorem dX12_together_65 : decode cX12_together 65 = .ok (.iconst 1, 1) := by decide +kernel
theorem dX12_together_66 : decode cX12_together 66 = .ok (.iaload, 1) := by decide +kernel
theorem dX12_together_67 : decode cX12_together 67 = .ok (.if_icmp .ge 61, 3) := by decide +kernel
theorem dX12_together_70 : decode cX12_together 70 = .ok (.aload_n 0, 1) := by decide +kernel
theorem dX12_together_71 : decode cX12_together 71 = .ok (.iload 8, 2) := by decide +kernel
theorem dX12_together_73 : decode cX12_together 73 = .ok (.iload_n 3, 1) := by decide +kernel
theorem dX12_together_74 : decode cX12_together 74 = .ok (.invokevirtual 503, 3) := by decide +kernel
theorem dX12_together_77 : decode cX12_together 77 = .ok (.ifCond .eq 45, 3) := by decide +kernel
theorem dX12_together_80 : decode cX12_together 80 = .ok (.aload_n 0, 1) := by decide +kernel
theorem dX12_together_81 : decode cX12_together 81 = .ok (.getfield 88, 3) := by decide +kernel
theorem dX12_together_84 : decode cX12_together 84 = .ok (.iload 8, 2) := by decide +kernel
theorem dX12_together_86 : decode cX12_together 86 = .ok (.baload, 1) := by decide +kernel
theorem dX12_together_87 : decode cX12_together 87 = .ok (.ifCond .eq 35, 3) := by decide +kernel
theorem dX12_together_90 : decode cX12_together 90 = .ok (.iload_n 2, 1) := by decide +kernel
theorem dX12_together_91 : decode cX12_together 91 = .ok (.aload_n 0, 1) := by decide +kernel
theorem dX12_together_92 : decode cX12_together 92 = .ok (.iload 8, 2) := by decide +kernel
theorem dX12_together_94 : decode cX12_together 94 = .ok (.iconst 0, 1) := by decide +kernel
theorem dX12_together_95 : decode cX12_together 95 = .ok (.invokevirtual 132, 3) := by decide +kernel
theorem dX12_together_98 : decode cX12_together 98 = .ok (.ishr, 1) := by decide +kernel
theorem dX12_together_99 : decode cX12_together 99 = .ok (.iconst 1, 1) := by decide +kernel
theorem dX12_together_100 : decode cX12_together 100 = .ok (.iand, 1) := by decide +kernel
theorem dX12_together_101 : decode cX12_together 101 = .ok (.ifCond .ne 6, 3) := by decide +kernel
theorem dX12_together_104 : decode cX12_together 104 = .ok (.goto 18, 3) := by decide +kernel
theorem dX12_together_107 : decode cX12_together 107 = .ok (.lload 5, 2) := by decide +kernel
theorem dX12_together_109 : decode cX12_together 109 = .ok (.aload_n 0, 1) := by decide +kernel
theorem dX12_together_110 : decode cX12_together 110 = .ok (.getfield 85, 3) := by decide +kernel
theorem dX12_together_113 : decode cX12_together 113 = .ok (.iload 8, 2) := by decide +kernel
theorem dX12_together_115 : decode cX12_together 115 = .ok (.laload, 1) := by decide +kernel
theorem dX12_together_116 : decode cX12_together 116 = .ok (.ladd, 1) := by decide +kernel
theorem dX12_together_117 : decode cX12_together 117 = .ok (.lstore 5, 2) := by decide +kernel
theorem dX12_together_119 : decode cX12_together 119 = .ok (.iinc 7 1, 3) := by decide +kernel
theorem dX12_together_122 : decode cX12_together 122 = .ok (.iinc 8 1, 3) := by decide +kernel
theorem dX12_together_125 : decode cX12_together 125 = .ok (.goto (-66), 3) := by decide +kernel
theorem dX12_together_128 : decode cX12_together 128 = .ok (.iload 4, 2) := by decide +kernel
theorem dX12_together_130 : decode cX12_together 130 = .ok (.iconst 2, 1) := by decide +kernel
theorem dX12_together_131 : decode cX12_together 131 = .ok (.if_icmp .eq 8, 3) := by decide +kernel
theorem dX12_together_134 : decode cX12_together 134 = .ok (.iload 7, 2) := by decide +kernel
theorem dX12_together_136 : decode cX12_together 136 = .ok (.ifCond .ne 6, 3) := by decide +kernel
theorem dX12_together_139 : decode cX12_together 139 = .ok (.iload 7, 2) := by decide +kernel
theorem dX12_together_141 : decode cX12_together 141 = .ok (.ireturn, 1) := by decide +kernel
theorem dX12_together_142 : decode cX12_together 142 = .ok (.lload 5, 2) := by decide +kernel
theorem dX12_together_144 : decode cX12_together 144 = .ok (.invokestatic 414, 3) := by decide +kernel
theorem dX12_together_147 : decode cX12_together 147 = .ok (.iload 7, 2) := by decide +kernel
theorem dX12_together_149 : decode cX12_together 149 = .ok (.i2l, 1) := by decide +kernel
theorem dX12_together_150 : decode cX12_together 150 = .ok (.invokestatic 506, 3) := by decide +kernel
theorem dX12_together_153 : decode cX12_together 153 = .ok (.lstore 8, 2) := by decide +kernel
theorem dX12_together_155 : decode cX12_together 155 = .ok (.iload 4, 2) := by decide +kernel
theorem dX12_together_157 : decode cX12_together 157 = .ok (.ifCond .ne 11, 3) := by decide +kernel
theorem dX12_together_160 : decode cX12_together 160 = .ok (.lload 5, 2) := by decide +kernel
theorem dX12_together_162 : decode cX12_together 162 = .ok (.lload 8, 2) := by decide +kernel
theorem dX12_together_164 : decode cX12_together 164 = .ok (.ldiv, 1) := by decide +kernel
theorem dX12_together_165 : decode cX12_together 165 = .ok (.goto 9, 3) := by decide +kernel
theorem dX12_together_168 : decode cX12_together 168 = .ok (.iload 7, 2) := by decide +kernel
theorem dX12_together_170 : decode cX12_together 170 = .ok (.i2l, 1) := by decide +kernel
theorem dX12_together_171 : decode cX12_together 171 = .ok (.lload 8, 2) := by decide +kernel
theorem dX12_together_173 : decode cX12_together 173 = .ok (.ldiv, 1) := by decide +kernel
theorem dX12_together_174 : decode cX12_together 174 = .ok (.l2i, 1) := by decide +kernel
theorem dX12_together_175 : decode cX12_together 175 = .ok (.ireturn, 1) := by decide +kernel
theorem wk_1174 : Cond.constant RX12 499 (-2000000000) ∈ tl_L := List.mem_filter.mpr ⟨lw_m8 (i := 144) rfl, rfl⟩
theorem wk_1175 : Cond.methodLink RX12 496 yX12_isWeek ∈ tl_L := List.mem_filter.mpr ⟨lw_m8 (i := 141) rfl, rfl⟩
theorem wk_1176 : Cond.static yX12_isWeek ∈ tl_L := List.mem_filter.mpr ⟨lw_m8 (i := 142) rfl, rfl⟩
theorem wk_1177 : Cond.code yX12_isWeek cX12_isWeek 1 (some .boolean) ∈ tl_L := List.mem_filter.mpr ⟨lw_m8 (i := 143) rfl, rfl⟩
theorem wk_1178 : Cond.methodLink RX12 500 yX12_rows ∈ tl_L := List.mem_filter.mpr ⟨lw_m8 (i := 145) rfl, rfl⟩
theorem wk_1179 : Cond.instanceMethod yX12_rows ∈ tl_L := List.mem_filter.mpr ⟨lw_m8 (i := 147) rfl, rfl⟩
theorem wk_1180 : Cond.selects RX12 yX12_rows yX12_rows ∈ tl_L := List.mem_filter.mpr ⟨lw_s11 (i := 3) (q := (yX12_rows, 49)) rfl, rfl⟩
theorem wk_1181 : Cond.code yX12_rows cX12_rows 3 none ∈ tl_L := List.mem_filter.mpr ⟨lw_m8 (i := 148) rfl, rfl⟩
theorem wk_1182 : Cond.methodLink RX12 503 yX12_isKnown ∈ tl_L := List.mem_filter.mpr ⟨lw_m8 (i := 149) rfl, rfl⟩
theorem wk_1183 : Cond.instanceMethod yX12_isKnown ∈ tl_L := List.mem_filter.mpr ⟨lw_m8 (i := 151) rfl, rfl⟩
theorem wk_1184 : Cond.selects RX12 yX12_isKnown yX12_isKnown ∈ tl_L := List.mem_filter.mpr ⟨lw_s11 (i := 4) (q := (yX12_isKnown, 49)) rfl, rfl⟩
theorem wk_1185 : Cond.code yX12_isKnown cX12_isKnown 3 (some .boolean) ∈ tl_L := List.mem_filter.mpr ⟨lw_m8 (i := 152) rfl, rfl⟩
theorem wk_1186 : Cond.methodLink RX12 506 yX12_divisor ∈ tl_L := List.mem_filter.mpr ⟨lw_m8 (i := 153) rfl, rfl⟩
theorem wk_1187 : Cond.static yX12_divisor ∈ tl_L := List.mem_filter.mpr ⟨lw_m8 (i := 154) rfl, rfl⟩
theorem wk_1188 : Cond.code yX12_divisor cX12_divisor 10 (some .long) ∈ tl_L := List.mem_filter.mpr ⟨lw_m8 (i := 155) rfl, rfl⟩
theorem lk_X12_496 : tl_kS RX12 496 yX12_isWeek cX12_isWeek 1 (some .boolean) 1 := ⟨wk_1177, wk_1175, wk_1176, wk_5, ⟨by decide +kernel, by decide +kernel, by decide +kernel⟩⟩
theorem lk_X12_500 : tl_kV RX12 500 RX12 yX12_rows cX12_rows 3 none 1 := ⟨wk_1181, wk_1178, wk_1179, wk_1180, wk_5, ⟨by decide +kernel, by decide +kernel, by decide +kernel⟩⟩
theorem lk_X12_503 : tl_kV RX12 503 RX12 yX12_isKnown cX12_isKnown 3 (some .boolean) 2 := ⟨wk_1185, wk_1182, wk_1183, wk_1184, wk_5, ⟨by decide +kernel, by decide +kernel, by decide +kernel⟩⟩
theorem lk_X12_506 : tl_kS RX12 506 yX12_divisor cX12_divisor 10 (some .long) 2 := ⟨wk_1188, wk_1186, wk_1187, wk_5, ⟨by decide +kernel, by decide +kernel, by decide +kernel⟩⟩
theorem dX12_hour_0 : decode cX12_hour 0 = .ok (.aload_n 0, 1) := by decide +kernel
theorem dX12_hour_1 : decode cX12_hour 1 = .ok (.iconst 1, 1) := by decide +kernel
theorem dX12_hour_2 : decode cX12_hour 2 = .ok (.iload_n 1, 1) := by decide +kernel
theorem dX12_hour_3 : decode cX12_hour 3 = .ok (.invokevirtual 382, 3) := by decide +kernel
theorem dX12_hour_6 : decode cX12_hour 6 = .ok (.ifCond .eq 20, 3) := by decide +kernel
theorem dX12_hour_9 : decode cX12_hour 9 = .ok (.iload_n 2, 1) := by decide +kernel
theorem dX12_hour_10 : decode cX12_hour 10 = .ok (.invokestatic 496, 3) := by decide +kernel
theorem dX12_hour_13 : decode cX12_hour 13 = .ok (.ifCond .eq 13, 3) := by decide +kernel
theorem dX12_hour_16 : decode cX12_hour 16 = .ok (.iload_n 3, 1) := by decide +kernel
theorem dX12_hour_17 : decode cX12_hour 17 = .ok (.i2l, 1) := by decide +kernel
theorem dX12_hour_18 : decode cX12_hour 18 = .ok (.lconst 0, 1) := by decide +kernel
theorem dX12_hour_19 : decode cX12_hour 19 = .ok (.lconst 1, 1) := by decide +kernel
theorem dX12_hour_20 : decode cX12_hour 20 = .ok (.invokestatic 112, 3) := by decide +kernel
theorem dX12_hour_23 : decode cX12_hour 23 = .ok (.ifCond .ne 5, 3) := by decide +kernel
theorem dX12_hour_26 : decode cX12_hour 26 = .ok (.iconst (-1), 1) := by decide +kernel
theorem dX12_hour_27 : decode cX12_hour 27 = .ok (.ireturn, 1) := by decide +kernel
theorem dX12_hour_28 : decode cX12_hour 28 = .ok (.aload_n 0, 1) := by decide +kernel
theorem dX12_hour_29 : decode cX12_hour 29 = .ok (.iload_n 1, 1) := by decide +kernel
theorem dX12_hour_30 : decode cX12_hour 30 = .ok (.invokevirtual 500, 3) := by decide +kernel
theorem dX12_hour_33 : decode cX12_hour 33 = .ok (.iconst 0, 1) := by decide +kernel
theorem dX12_hour_34 : decode cX12_hour 34 = .ok (.istore 4, 2) := by decide +kernel
theorem dX12_hour_36 : decode cX12_hour 36 = .ok (.lconst 0, 1) := by decide +kernel
theorem dX12_hour_37 : decode cX12_hour 37 = .ok (.lstore 5, 2) := by decide +kernel
theorem dX12_hour_39 : decode cX12_hour 39 = .ok (.iconst 0, 1) := by decide +kernel
theorem dX12_hour_40 : decode cX12_hour 40 = .ok (.istore 7, 2) := by decide +kernel
theorem dX12_hour_42 : decode cX12_hour 42 = .ok (.iload 7, 2) := by decide +kernel
theorem dX12_hour_44 : decode cX12_hour 44 = .ok (.aload_n 0, 1) := by decide +kernel
theorem dX12_hour_45 : decode cX12_hour 45 = .ok (.getfield 7, 3) := by decide +kernel
theorem dX12_hour_48 : decode cX12_hour 48 = .ok (.iconst 1, 1) := by decide +kernel
theorem dX12_hour_49 : decode cX12_hour 49 = .ok (.iaload, 1) := by decide +kernel
theorem dX12_hour_50 : decode cX12_hour 50 = .ok (.if_icmp .ge 128, 3) := by decide +kernel
theorem dX12_hour_53 : decode cX12_hour 53 = .ok (.iconst 0, 1) := by decide +kernel
theorem dX12_hour_54 : decode cX12_hour 54 = .ok (.istore 8, 2) := by decide +kernel
theorem dX12_hour_56 : decode cX12_hour 56 = .ok (.iload 8, 2) := by decide +kernel
theorem dX12_hour_58 : decode cX12_hour 58 = .ok (.iload 7, 2) := by decide +kernel
theorem dX12_hour_60 : decode cX12_hour 60 = .ok (.if_icmp .ge 112, 3) := by decide +kernel
theorem dX12_hour_63 : decode cX12_hour 63 = .ok (.aload_n 0, 1) := by decide +kernel
theorem dX12_hour_64 : decode cX12_hour 64 = .ok (.iload 7, 2) := by decide +kernel
theorem dX12_hour_66 : decode cX12_hour 66 = .ok (.iconst 0, 1) := by decide +kernel
theorem dX12_hour_67 : decode cX12_hour 67 = .ok (.invokevirtual 132, 3) := by decide +kernel
theorem dX12_hour_70 : decode cX12_hour 70 = .ok (.aload_n 0, 1) := by decide +kernel
theorem dX12_hour_71 : decode cX12_hour 71 = .ok (.iload 8, 2) := by decide +kernel
theorem dX12_hour_73 : decode cX12_hour 73 = .ok (.iconst 0, 1) := by decide +kernel
theorem dX12_hour_74 : decode cX12_hour 74 = .ok (.invokevirtual 132, 3) := by decide +kernel
theorem dX12_hour_77 : decode cX12_hour 77 = .ok (.if_icmp .eq 89, 3) := by decide +kernel
theorem dX12_hour_80 : decode cX12_hour 80 = .ok (.aload_n 0, 1) := by decide +kernel
theorem dX12_hour_81 : decode cX12_hour 81 = .ok (.iload 7, 2) := by decide +kernel
theorem dX12_hour_83 : decode cX12_hour 83 = .ok (.iconst 1, 1) := by decide +kernel
theorem dX12_hour_84 : decode cX12_hour 84 = .ok (.invokevirtual 132, 3) := by decide +kernel
theorem dX12_hour_87 : decode cX12_hour 87 = .ok (.aload_n 0, 1) := by decide +kernel
theorem dX12_hour_88 : decode cX12_hour 88 = .ok (.iload 8, 2) := by decide +kernel
theorem dX12_hour_90 : decode cX12_hour 90 = .ok (.iconst 1, 1) := by decide +kernel
theorem dX12_hour_91 : decode cX12_hour 91 = .ok (.invokevirtual 132, 3) := by decide +kernel
theorem dX12_hour_94 : decode cX12_hour 94 = .ok (.if_icmp .ne 72, 3) := by decide +kernel
theorem dX12_hour_97 : decode cX12_hour 97 = .ok (.aload_n 0, 1) := by decide +kernel
theorem dX12_hour_98 : decode cX12_hour 98 = .ok (.iload 7, 2) := by decide +kernel
theorem dX12_hour_100 : decode cX12_hour 100 = .ok (.iload_n 2, 1) := by decide +kernel
theorem dX12_hour_101 : decode cX12_hour 101 = .ok (.invokevirtual 503, 3) := by decide +kernel
theorem dX12_hour_104 : decode cX12_hour 104 = .ok (.ifCond .eq 62, 3) := by decide +kernel
theorem dX12_hour_107 : decode cX12_hour 107 = .ok (.aload_n 0, 1) := by decide +kernel
theorem dX12_hour_108 : decode cX12_hour 108 = .ok (.iload 8, 2) := by decide +kernel
theorem dX12_hour_110 : decode cX12_hour 110 = .ok (.iload_n 2, 1) := by decide +kernel
theorem dX12_hour_111 : decode cX12_hour 111 = .ok (.invokevirtual 503, 3) := by decide +kernel
theorem dX12_hour_114 : decode cX12_hour 114 = .ok (.ifCond .eq 52, 3) := by decide +kernel
theorem dX12_hour_117 : decode cX12_hour 117 = .ok (.aload_n 0, 1) := by decide +kernel
theorem dX12_hour_118 : decode cX12_hour 118 = .ok (.getfield 88, 3) := by decide +kernel
theorem dX12_hour_121 : decode cX12_hour 121 = .ok (.iload 7, 2) := by decide +kernel
theorem dX12_hour_123 : decode cX12_hour 123 = .ok (.baload, 1) := by decide +kernel
theorem dX12_hour_124 : decode cX12_hour 124 = .ok (.ifCond .eq 42, 3) := by decide +kernel
theorem dX12_hour_127 : decode cX12_hour 127 = .ok (.aload_n 0, 1) := by decide +kernel
theorem dX12_hour_128 : decode cX12_hour 128 = .ok (.getfield 88, 3) := by decide +kernel
theorem dX12_hour_131 : decode cX12_hour 131 = .ok (.iload 8, 2) := by decide +kernel
theorem dX12_hour_133 : decode cX12_hour 133 = .ok (.baload, 1) := by decide +kernel
theorem dX12_hour_134 : decode cX12_hour 134 = .ok (.ifCond .ne 6, 3) := by decide +kernel
theorem dX12_hour_137 : decode cX12_hour 137 = .ok (.goto 29, 3) := by decide +kernel
theorem dX12_hour_140 : decode cX12_hour 140 = .ok (.iinc 4 1, 3) := by decide +kernel
theorem dX12_hour_143 : decode cX12_hour 143 = .ok (.lload 5, 2) := by decide +kernel
theorem dX12_hour_145 : decode cX12_hour 145 = .ok (.aload_n 0, 1) := by decide +kernel
theorem dX12_hour_146 : decode cX12_hour 146 = .ok (.getfield 85, 3) := by decide +kernel
theorem dX12_hour_149 : decode cX12_hour 149 = .ok (.iload 7, 2) := by decide +kernel
theorem dX12_hour_151 : decode cX12_hour 151 = .ok (.laload, 1) := by decide +kernel
theorem dX12_hour_152 : decode cX12_hour 152 = .ok (.aload_n 0, 1) := by decide +kernel
theorem dX12_hour_153 : decode cX12_hour 153 = .ok (.getfield 85, 3) := by decide +kernel
theorem dX12_hour_156 : decode cX12_hour 156 = .ok (.iload 8, 2) := by decide +kernel
theorem dX12_hour_158 : decode cX12_hour 158 = .ok (.laload, 1) := by decide +kernel
theorem dX12_hour_159 : decode cX12_hour 159 = .ok (.lsub, 1) := by decide +kernel
theorem dX12_hour_160 : decode cX12_hour 160 = .ok (.invokestatic 414, 3) := by decide +kernel
theorem dX12_hour_163 : decode cX12_hour 163 = .ok (.ladd, 1) := by decide +kernel
theorem dX12_hour_164 : decode cX12_hour 164 = .ok (.lstore 5, 2) := by decide +kernel
theorem dX12_hour_166 : decode cX12_hour 166 = .ok (.iinc 8 1, 3) := by decide +kernel
theorem dX12_hour_169 : decode cX12_hour 169 = .ok (.goto (-113), 3) := by decide +kernel
theorem dX12_hour_172 : decode cX12_hour 172 = .ok (.iinc 7 1, 3) := by decide +kernel
theorem dX12_hour_175 : decode cX12_hour 175 = .ok (.goto (-133), 3) := by decide +kernel
theorem dX12_hour_178 : decode cX12_hour 178 = .ok (.iload_n 3, 1) := by decide +kernel
theorem dX12_hour_179 : decode cX12_hour 179 = .ok (.ifCond .ne 8, 3) := by decide +kernel
theorem dX12_hour_182 : decode cX12_hour 182 = .ok (.iload 4, 2) := by decide +kernel
theorem dX12_hour_184 : decode cX12_hour 184 = .ok (.goto 6, 3) := by decide +kernel
theorem dX12_hour_187 : decode cX12_hour 187 = .ok (.lload 5, 2) := by decide +kernel
theorem dX12_hour_189 : decode cX12_hour 189 = .ok (.l2i, 1) := by decide +kernel
theorem dX12_hour_190 : decode cX12_hour 190 = .ok (.ireturn, 1) := by decide +kernel
theorem dX12_saidIn_0 : decode cX12_saidIn 0 = .ok (.iconst 0, 1) := by decide +kernel
theorem dX12_saidIn_1 : decode cX12_saidIn 1 = .ok (.istore_n 3, 1) := by decide +kernel
theorem dX12_saidIn_2 : decode cX12_saidIn 2 = .ok (.iconst 0, 1) := by decide +kernel
theorem dX12_saidIn_3 : decode cX12_saidIn 3 = .ok (.istore 4, 2) := by decide +kernel
theorem dX12_saidIn_5 : decode cX12_saidIn 5 = .ok (.iload 4, 2) := by decide +kernel
theorem dX12_saidIn_7 : decode cX12_saidIn 7 = .ok (.aload_n 0, 1) := by decide +kernel
theorem dX12_saidIn_8 : decode cX12_saidIn 8 = .ok (.getfield 7, 3) := by decide +kernel
theorem dX12_saidIn_11 : decode cX12_saidIn 11 = .ok (.iconst 1, 1) := by decide +kernel
theorem dX12_saidIn_12 : decode cX12_saidIn 12 = .ok (.iaload, 1) := by decide +kernel
theorem dX12_saidIn_13 : decode cX12_saidIn 13 = .ok (.if_icmp .ge 58, 3) := by decide +kernel
theorem dX12_saidIn_16 : decode cX12_saidIn 16 = .ok (.iload_n 3, 1) := by decide +kernel
theorem dX12_saidIn_17 : decode cX12_saidIn 17 = .ok (.aload_n 0, 1) := by decide +kernel
theorem dX12_saidIn_18 : decode cX12_saidIn 18 = .ok (.iload 4, 2) := by decide +kernel
theorem dX12_saidIn_20 : decode cX12_saidIn 20 = .ok (.iload_n 1, 1) := by decide +kernel
theorem dX12_saidIn_21 : decode cX12_saidIn 21 = .ok (.invokevirtual 503, 3) := by decide +kernel
theorem dX12_saidIn_24 : decode cX12_saidIn 24 = .ok (.ifCond .eq 38, 3) := by decide +kernel
theorem dX12_saidIn_27 : decode cX12_saidIn 27 = .ok (.aload_n 0, 1) := by decide +kernel
theorem dX12_saidIn_28 : decode cX12_saidIn 28 = .ok (.getfield 88, 3) := by decide +kernel
theorem dX12_saidIn_31 : decode cX12_saidIn 31 = .ok (.iload 4, 2) := by decide +kernel
theorem dX12_saidIn_33 : decode cX12_saidIn 33 = .ok (.baload, 1) := by decide +kernel
theorem dX12_saidIn_34 : decode cX12_saidIn 34 = .ok (.ifCond .eq 28, 3) := by decide +kernel
theorem dX12_saidIn_37 : decode cX12_saidIn 37 = .ok (.aload_n 0, 1) := by decide +kernel
theorem dX12_saidIn_38 : decode cX12_saidIn 38 = .ok (.getfield 91, 3) := by decide +kernel
theorem dX12_saidIn_41 : decode cX12_saidIn 41 = .ok (.iload 4, 2) := by decide +kernel
theorem dX12_saidIn_43 : decode cX12_saidIn 43 = .ok (.laload, 1) := by decide +kernel
theorem dX12_saidIn_44 : decode cX12_saidIn 44 = .ok (.iload_n 2, 1) := by decide +kernel
theorem dX12_saidIn_45 : decode cX12_saidIn 45 = .ok (.i2l, 1) := by decide +kernel
theorem dX12_saidIn_46 : decode cX12_saidIn 46 = .ok (.lcmp, 1) := by decide +kernel
theorem dX12_saidIn_47 : decode cX12_saidIn 47 = .ok (.ifCond .lt 15, 3) := by decide +kernel
theorem dX12_saidIn_50 : decode cX12_saidIn 50 = .ok (.iconst 1, 1) := by decide +kernel
theorem dX12_saidIn_51 : decode cX12_saidIn 51 = .ok (.aload_n 0, 1) := by decide +kernel
theorem dX12_saidIn_52 : decode cX12_saidIn 52 = .ok (.iload 4, 2) := by decide +kernel
theorem dX12_saidIn_54 : decode cX12_saidIn 54 = .ok (.iconst 0, 1) := by decide +kernel
theorem dX12_saidIn_55 : decode cX12_saidIn 55 = .ok (.invokevirtual 132, 3) := by decide +kernel
theorem dX12_saidIn_58 : decode cX12_saidIn 58 = .ok (.ishl, 1) := by decide +kernel
theorem dX12_saidIn_59 : decode cX12_saidIn 59 = .ok (.goto 4, 3) := by decide +kernel
theorem dX12_saidIn_62 : decode cX12_saidIn 62 = .ok (.iconst 0, 1) := by decide +kernel
theorem dX12_saidIn_63 : decode cX12_saidIn 63 = .ok (.ior, 1) := by decide +kernel
theorem dX12_saidIn_64 : decode cX12_saidIn 64 = .ok (.istore_n 3, 1) := by decide +kernel
theorem dX12_saidIn_65 : decode cX12_saidIn 65 = .ok (.iinc 4 1, 3) := by decide +kernel
theorem dX12_saidIn_68 : decode cX12_saidIn 68 = .ok (.goto (-63), 3) := by decide +kernel
theorem dX12_saidIn_71 : decode cX12_saidIn 71 = .ok (.iload_n 3, 1) := by decide +kernel
theorem dX12_saidIn_72 : decode cX12_saidIn 72 = .ok (.iconst 1, 1) := by decide +kernel
theorem dX12_saidIn_73 : decode cX12_saidIn 73 = .ok (.iand, 1) := by decide +kernel
theorem dX12_saidIn_74 : decode cX12_saidIn 74 = .ok (.iload_n 3, 1) := by decide +kernel
theorem dX12_saidIn_75 : decode cX12_saidIn 75 = .ok (.iconst 1, 1) := by decide +kernel
theorem dX12_saidIn_76 : decode cX12_saidIn 76 = .ok (.ishr, 1) := by decide +kernel
theorem dX12_saidIn_77 : decode cX12_saidIn 77 = .ok (.iconst 1, 1) := by decide +kernel
theorem dX12_saidIn_78 : decode cX12_saidIn 78 = .ok (.iand, 1) := by decide +kernel
theorem dX12_saidIn_79 : decode cX12_saidIn 79 = .ok (.iadd, 1) := by decide +kernel
theorem dX12_saidIn_80 : decode cX12_saidIn 80 = .ok (.iload_n 3, 1) := by decide +kernel
theorem dX12_saidIn_81 : decode cX12_saidIn 81 = .ok (.iconst 2, 1) := by decide +kernel
theorem dX12_saidIn_82 : decode cX12_saidIn 82 = .ok (.ishr, 1) := by decide +kernel
theorem dX12_saidIn_83 : decode cX12_saidIn 83 = .ok (.iconst 1, 1) := by decide +kernel
theorem dX12_saidIn_84 : decode cX12_saidIn 84 = .ok (.iand, 1) := by decide +kernel
theorem dX12_saidIn_85 : decode cX12_saidIn 85 = .ok (.iadd, 1) := by decide +kernel
theorem dX12_saidIn_86 : decode cX12_saidIn 86 = .ok (.iload_n 3, 1) := by decide +kernel
theorem dX12_saidIn_87 : decode cX12_saidIn 87 = .ok (.iconst 3, 1) := by decide +kernel
theorem dX12_saidIn_88 : decode cX12_saidIn 88 = .ok (.ishr, 1) := by decide +kernel
theorem dX12_saidIn_89 : decode cX12_saidIn 89 = .ok (.iconst 1, 1) := by decide +kernel
theorem dX12_saidIn_90 : decode cX12_saidIn 90 = .ok (.iand, 1) := by decide +kernel
theorem dX12_saidIn_91 : decode cX12_saidIn 91 = .ok (.iadd, 1) := by decide +kernel
theorem dX12_saidIn_92 : decode cX12_saidIn 92 = .ok (.ireturn, 1) := by decide +kernel
theorem dX12_said_0 : decode cX12_said 0 = .ok (.aload_n 0, 1) := by decide +kernel
theorem dX12_said_1 : decode cX12_said 1 = .ok (.iconst 1, 1) := by decide +kernel
theorem dX12_said_2 : decode cX12_said 2 = .ok (.iload_n 1, 1) := by decide +kernel
theorem dX12_said_3 : decode cX12_said 3 = .ok (.invokevirtual 382, 3) := by decide +kernel
theorem dX12_said_6 : decode cX12_said 6 = .ok (.ifCond .eq 24, 3) := by decide +kernel
theorem dX12_said_9 : decode cX12_said 9 = .ok (.iload_n 2, 1) := by decide +kernel
theorem dX12_said_10 : decode cX12_said 10 = .ok (.invokestatic 496, 3) := by decide +kernel
theorem dX12_said_13 : decode cX12_said 13 = .ok (.ifCond .eq 17, 3) := by decide +kernel
theorem dX12_said_16 : decode cX12_said 16 = .ok (.iload_n 3, 1) := by decide +kernel
theorem dX12_said_17 : decode cX12_said 17 = .ok (.i2l, 1) := by decide +kernel
theorem dX12_said_18 : decode cX12_said 18 = .ok (.ldc2_w 473, 3) := by decide +kernel
theorem dX12_said_21 : decode cX12_said 21 = .ok (.ldc2_w 475, 3) := by decide +kernel
theorem dX12_said_24 : decode cX12_said 24 = .ok (.invokestatic 112, 3) := by decide +kernel
theorem dX12_said_27 : decode cX12_said 27 = .ok (.ifCond .ne 5, 3) := by decide +kernel
theorem dX12_said_30 : decode cX12_said 30 = .ok (.iconst (-1), 1) := by decide +kernel
theorem dX12_said_31 : decode cX12_said 31 = .ok (.ireturn, 1) := by decide +kernel
theorem dX12_said_32 : decode cX12_said 32 = .ok (.aload_n 0, 1) := by decide +kernel
theorem dX12_said_33 : decode cX12_said 33 = .ok (.iload_n 1, 1) := by decide +kernel
theorem dX12_said_34 : decode cX12_said 34 = .ok (.invokevirtual 500, 3) := by decide +kernel
theorem dX12_said_37 : decode cX12_said 37 = .ok (.aload_n 0, 1) := by decide +kernel
theorem dX12_said_38 : decode cX12_said 38 = .ok (.iload_n 2, 1) := by decide +kernel
theorem dX12_said_39 : decode cX12_said 39 = .ok (.iload_n 3, 1) := by decide +kernel
theorem dX12_said_40 : decode cX12_said 40 = .ok (.invokevirtual 509, 3) := by decide +kernel
theorem dX12_said_43 : decode cX12_said 43 = .ok (.ireturn, 1) := by decide +kernel
theorem wk_1219 : Cond.methodLink RX12 509 yX12_saidIn ∈ tl_L := List.mem_filter.mpr ⟨lw_m8 (i := 164) rfl, rfl⟩
theorem wk_1220 : Cond.instanceMethod yX12_saidIn ∈ tl_L := List.mem_filter.mpr ⟨lw_m8 (i := 166) rfl, rfl⟩
theorem wk_1221 : Cond.selects RX12 yX12_saidIn yX12_saidIn ∈ tl_L := List.mem_filter.mpr ⟨lw_s11 (i := 5) (q := (yX12_saidIn, 49)) rfl, rfl⟩
theorem wk_1222 : Cond.code yX12_saidIn cX12_saidIn 5 (some .int) ∈ tl_L := List.mem_filter.mpr ⟨lw_m8 (i := 167) rfl, rfl⟩
theorem lk_X12_509 : tl_kV RX12 509 RX12 yX12_saidIn cX12_saidIn 5 (some .int) 2 := ⟨wk_1222, wk_1219, wk_1220, wk_1221, wk_5, ⟨by decide +kernel, by decide +kernel, by decide +kernel⟩⟩
theorem dX12_weeks_0 : decode cX12_weeks 0 = .ok (.aload_n 0, 1) := by decide +kernel
theorem dX12_weeks_1 : decode cX12_weeks 1 = .ok (.iconst 1, 1) := by decide +kernel
theorem dX12_weeks_2 : decode cX12_weeks 2 = .ok (.iload_n 1, 1) := by decide +kernel
theorem dX12_weeks_3 : decode cX12_weeks 3 = .ok (.invokevirtual 382, 3) := by decide +kernel
theorem dX12_weeks_6 : decode cX12_weeks 6 = .ok (.ifCond .eq 69, 3) := by decide +kernel
theorem dX12_weeks_9 : decode cX12_weeks 9 = .ok (.iload_n 2, 1) := by decide +kernel
theorem dX12_weeks_10 : decode cX12_weeks 10 = .ok (.invokestatic 496, 3) := by decide +kernel
theorem dX12_weeks_13 : decode cX12_weeks 13 = .ok (.ifCond .eq 62, 3) := by decide +kernel
theorem dX12_weeks_16 : decode cX12_weeks 16 = .ok (.iload_n 3, 1) := by decide +kernel
theorem dX12_weeks_17 : decode cX12_weeks 17 = .ok (.invokestatic 496, 3) := by decide +kernel
theorem dX12_weeks_20 : decode cX12_weeks 20 = .ok (.ifCond .eq 55, 3) := by decide +kernel
theorem dX12_weeks_23 : decode cX12_weeks 23 = .ok (.iload_n 3, 1) := by decide +kernel
theorem dX12_weeks_24 : decode cX12_weeks 24 = .ok (.iload_n 2, 1) := by decide +kernel
theorem dX12_weeks_25 : decode cX12_weeks 25 = .ok (.if_icmp .lt 50, 3) := by decide +kernel
theorem dX12_weeks_28 : decode cX12_weeks 28 = .ok (.iload_n 3, 1) := by decide +kernel
theorem dX12_weeks_29 : decode cX12_weeks 29 = .ok (.iload_n 2, 1) := by decide +kernel
theorem dX12_weeks_30 : decode cX12_weeks 30 = .ok (.isub, 1) := by decide +kernel
theorem dX12_weeks_31 : decode cX12_weeks 31 = .ok (.bipush 100, 2) := by decide +kernel
theorem dX12_weeks_33 : decode cX12_weeks 33 = .ok (.if_icmp .ge 42, 3) := by decide +kernel
theorem dX12_weeks_36 : decode cX12_weeks 36 = .ok (.iload 4, 2) := by decide +kernel
theorem dX12_weeks_38 : decode cX12_weeks 38 = .ok (.i2l, 1) := by decide +kernel
theorem dX12_weeks_39 : decode cX12_weeks 39 = .ok (.ldc2_w 473, 3) := by decide +kernel
theorem dX12_weeks_42 : decode cX12_weeks 42 = .ok (.ldc2_w 475, 3) := by decide +kernel
theorem dX12_weeks_45 : decode cX12_weeks 45 = .ok (.invokestatic 112, 3) := by decide +kernel
theorem dX12_weeks_48 : decode cX12_weeks 48 = .ok (.ifCond .eq 27, 3) := by decide +kernel
theorem dX12_weeks_51 : decode cX12_weeks 51 = .ok (.iload 5, 2) := by decide +kernel
theorem dX12_weeks_53 : decode cX12_weeks 53 = .ok (.i2l, 1) := by decide +kernel
theorem dX12_weeks_54 : decode cX12_weeks 54 = .ok (.lconst 1, 1) := by decide +kernel
theorem dX12_weeks_55 : decode cX12_weeks 55 = .ok (.ldc2_w 453, 3) := by decide +kernel
theorem dX12_weeks_58 : decode cX12_weeks 58 = .ok (.invokestatic 112, 3) := by decide +kernel
theorem dX12_weeks_61 : decode cX12_weeks 61 = .ok (.ifCond .eq 14, 3) := by decide +kernel
theorem dX12_weeks_64 : decode cX12_weeks 64 = .ok (.iload 6, 2) := by decide +kernel
theorem dX12_weeks_66 : decode cX12_weeks 66 = .ok (.i2l, 1) := by decide +kernel
theorem dX12_weeks_67 : decode cX12_weeks 67 = .ok (.lconst 0, 1) := by decide +kernel
theorem dX12_weeks_68 : decode cX12_weeks 68 = .ok (.lconst 1, 1) := by decide +kernel
theorem dX12_weeks_69 : decode cX12_weeks 69 = .ok (.invokestatic 112, 3) := by decide +kernel
theorem dX12_weeks_72 : decode cX12_weeks 72 = .ok (.ifCond .ne 5, 3) := by decide +kernel
theorem dX12_weeks_75 : decode cX12_weeks 75 = .ok (.iconst (-1), 1) := by decide +kernel
theorem dX12_weeks_76 : decode cX12_weeks 76 = .ok (.ireturn, 1) := by decide +kernel
theorem dX12_weeks_77 : decode cX12_weeks 77 = .ok (.aload_n 0, 1) := by decide +kernel
theorem dX12_weeks_78 : decode cX12_weeks 78 = .ok (.iload_n 1, 1) := by decide +kernel
theorem dX12_weeks_79 : decode cX12_weeks 79 = .ok (.invokevirtual 500, 3) := by decide +kernel
theorem dX12_weeks_82 : decode cX12_weeks 82 = .ok (.bipush (-2), 2) := by decide +kernel
theorem dX12_weeks_84 : decode cX12_weeks 84 = .ok (.istore 7, 2) := by decide +kernel
theorem dX12_weeks_86 : decode cX12_weeks 86 = .ok (.iconst 0, 1) := by decide +kernel
theorem dX12_weeks_87 : decode cX12_weeks 87 = .ok (.istore 8, 2) := by decide +kernel
theorem dX12_weeks_89 : decode cX12_weeks 89 = .ok (.iconst 0, 1) := by decide +kernel
theorem dX12_weeks_90 : decode cX12_weeks 90 = .ok (.istore 9, 2) := by decide +kernel
theorem dX12_weeks_92 : decode cX12_weeks 92 = .ok (.iload_n 2, 1) := by decide +kernel
theorem dX12_weeks_93 : decode cX12_weeks 93 = .ok (.istore 10, 2) := by decide +kernel
theorem dX12_weeks_95 : decode cX12_weeks 95 = .ok (.iload 10, 2) := by decide +kernel
theorem dX12_weeks_97 : decode cX12_weeks 97 = .ok (.iload_n 3, 1) := by decide +kernel
theorem dX12_weeks_98 : decode cX12_weeks 98 = .ok (.if_icmp .gt 67, 3) := by decide +kernel
theorem dX12_weeks_101 : decode cX12_weeks 101 = .ok (.aload_n 0, 1) := by decide +kernel
theorem dX12_weeks_102 : decode cX12_weeks 102 = .ok (.iload 10, 2) := by decide +kernel
theorem dX12_weeks_104 : decode cX12_weeks 104 = .ok (.iload 4, 2) := by decide +kernel
theorem dX12_weeks_106 : decode cX12_weeks 106 = .ok (.invokevirtual 509, 3) := by decide +kernel
theorem dX12_weeks_109 : decode cX12_weeks 109 = .ok (.istore 11, 2) := by decide +kernel
theorem dX12_weeks_111 : decode cX12_weeks 111 = .ok (.iload 7, 2) := by decide +kernel
theorem dX12_weeks_113 : decode cX12_weeks 113 = .ok (.ifCond .ge 15, 3) := by decide +kernel
theorem dX12_weeks_116 : decode cX12_weeks 116 = .ok (.iload 11, 2) := by decide +kernel
theorem dX12_weeks_118 : decode cX12_weeks 118 = .ok (.iload 5, 2) := by decide +kernel
theorem dX12_weeks_120 : decode cX12_weeks 120 = .ok (.if_icmp .lt 8, 3) := by decide +kernel
theorem dX12_weeks_123 : decode cX12_weeks 123 = .ok (.iload 10, 2) := by decide +kernel
theorem dX12_weeks_125 : decode cX12_weeks 125 = .ok (.goto 5, 3) := by decide +kernel
theorem dX12_weeks_128 : decode cX12_weeks 128 = .ok (.iload 7, 2) := by decide +kernel
theorem dX12_weeks_130 : decode cX12_weeks 130 = .ok (.istore 7, 2) := by decide +kernel
theorem dX12_weeks_132 : decode cX12_weeks 132 = .ok (.iload 8, 2) := by decide +kernel
theorem dX12_weeks_134 : decode cX12_weeks 134 = .ok (.iload 10, 2) := by decide +kernel
theorem dX12_weeks_136 : decode cX12_weeks 136 = .ok (.iload_n 2, 1) := by decide +kernel
theorem dX12_weeks_137 : decode cX12_weeks 137 = .ok (.if_icmp .le 14, 3) := by decide +kernel
theorem dX12_weeks_140 : decode cX12_weeks 140 = .ok (.iload 11, 2) := by decide +kernel
theorem dX12_weeks_142 : decode cX12_weeks 142 = .ok (.iload 9, 2) := by decide +kernel
theorem dX12_weeks_144 : decode cX12_weeks 144 = .ok (.if_icmp .eq 7, 3) := by decide +kernel
theorem dX12_weeks_147 : decode cX12_weeks 147 = .ok (.iconst 1, 1) := by decide +kernel
theorem dX12_weeks_148 : decode cX12_weeks 148 = .ok (.goto 4, 3) := by decide +kernel
theorem dX12_weeks_151 : decode cX12_weeks 151 = .ok (.iconst 0, 1) := by decide +kernel
theorem dX12_weeks_152 : decode cX12_weeks 152 = .ok (.iadd, 1) := by decide +kernel
theorem dX12_weeks_153 : decode cX12_weeks 153 = .ok (.istore 8, 2) := by decide +kernel
theorem dX12_weeks_155 : decode cX12_weeks 155 = .ok (.iload 11, 2) := by decide +kernel
theorem dX12_weeks_157 : decode cX12_weeks 157 = .ok (.istore 9, 2) := by decide +kernel
theorem dX12_weeks_159 : decode cX12_weeks 159 = .ok (.iinc 10 1, 3) := by decide +kernel
theorem dX12_weeks_162 : decode cX12_weeks 162 = .ok (.goto (-67), 3) := by decide +kernel
theorem dX12_weeks_165 : decode cX12_weeks 165 = .ok (.iload 6, 2) := by decide +kernel
theorem dX12_weeks_167 : decode cX12_weeks 167 = .ok (.ifCond .ne 8, 3) := by decide +kernel
theorem dX12_weeks_170 : decode cX12_weeks 170 = .ok (.iload 7, 2) := by decide +kernel
theorem dX12_weeks_172 : decode cX12_weeks 172 = .ok (.goto 5, 3) := by decide +kernel
theorem dX12_weeks_175 : decode cX12_weeks 175 = .ok (.iload 8, 2) := by decide +kernel
theorem dX12_weeks_177 : decode cX12_weeks 177 = .ok (.ireturn, 1) := by decide +kernel
theorem dX12_odd_0 : decode cX12_odd 0 = .ok (.aload_n 0, 1) := by decide +kernel
theorem dX12_odd_1 : decode cX12_odd 1 = .ok (.iconst 1, 1) := by decide +kernel
theorem dX12_odd_2 : decode cX12_odd 2 = .ok (.iload_n 1, 1) := by decide +kernel
theorem dX12_odd_3 : decode cX12_odd 3 = .ok (.invokevirtual 382, 3) := by decide +kernel
theorem dX12_odd_6 : decode cX12_odd 6 = .ok (.ifCond .eq 15, 3) := by decide +kernel
theorem dX12_odd_9 : decode cX12_odd 9 = .ok (.iload_n 2, 1) := by decide +kernel
theorem dX12_odd_10 : decode cX12_odd 10 = .ok (.i2l, 1) := by decide +kernel
theorem dX12_odd_11 : decode cX12_odd 11 = .ok (.lconst 0, 1) := by decide +kernel
theorem dX12_odd_12 : decode cX12_odd 12 = .ok (.ldc2_w 116, 3) := by decide +kernel
theorem dX12_odd_15 : decode cX12_odd 15 = .ok (.invokestatic 112, 3) := by decide +kernel
theorem dX12_odd_18 : decode cX12_odd 18 = .ok (.ifCond .ne 5, 3) := by decide +kernel
theorem dX12_odd_21 : decode cX12_odd 21 = .ok (.iconst (-1), 1) := by decide +kernel
theorem dX12_odd_22 : decode cX12_odd 22 = .ok (.ireturn, 1) := by decide +kernel
theorem dX12_odd_23 : decode cX12_odd 23 = .ok (.aload_n 0, 1) := by decide +kernel
theorem dX12_odd_24 : decode cX12_odd 24 = .ok (.iload_n 1, 1) := by decide +kernel
theorem dX12_odd_25 : decode cX12_odd 25 = .ok (.invokevirtual 500, 3) := by decide +kernel
theorem dX12_odd_28 : decode cX12_odd 28 = .ok (.iconst 0, 1) := by decide +kernel
theorem dX12_odd_29 : decode cX12_odd 29 = .ok (.istore_n 3, 1) := by decide +kernel
theorem dX12_odd_30 : decode cX12_odd 30 = .ok (.iconst 0, 1) := by decide +kernel
theorem dX12_odd_31 : decode cX12_odd 31 = .ok (.istore 4, 2) := by decide +kernel
theorem dX12_odd_33 : decode cX12_odd 33 = .ok (.iload 4, 2) := by decide +kernel
theorem dX12_odd_35 : decode cX12_odd 35 = .ok (.aload_n 0, 1) := by decide +kernel
theorem dX12_odd_36 : decode cX12_odd 36 = .ok (.getfield 7, 3) := by decide +kernel
theorem dX12_odd_39 : decode cX12_odd 39 = .ok (.iconst 1, 1) := by decide +kernel
theorem dX12_odd_40 : decode cX12_odd 40 = .ok (.iaload, 1) := by decide +kernel
theorem dX12_odd_41 : decode cX12_odd 41 = .ok (.if_icmp .ge 38, 3) := by decide +kernel
theorem dX12_odd_44 : decode cX12_odd 44 = .ok (.iload_n 3, 1) := by decide +kernel
theorem dX12_odd_45 : decode cX12_odd 45 = .ok (.aload_n 0, 1) := by decide +kernel
theorem dX12_odd_46 : decode cX12_odd 46 = .ok (.getfield 88, 3) := by decide +kernel
theorem dX12_odd_49 : decode cX12_odd 49 = .ok (.iload 4, 2) := by decide +kernel
theorem dX12_odd_51 : decode cX12_odd 51 = .ok (.baload, 1) := by decide +kernel
theorem dX12_odd_52 : decode cX12_odd 52 = .ok (.ifCond .eq 18, 3) := by decide +kernel
theorem dX12_odd_55 : decode cX12_odd 55 = .ok (.aload_n 0, 1) := by decide +kernel
theorem dX12_odd_56 : decode cX12_odd 56 = .ok (.iload 4, 2) := by decide +kernel
theorem dX12_odd_58 : decode cX12_odd 58 = .ok (.iconst 0, 1) := by decide +kernel
theorem dX12_odd_59 : decode cX12_odd 59 = .ok (.invokevirtual 132, 3) := by decide +kernel
theorem dX12_odd_62 : decode cX12_odd 62 = .ok (.iload_n 2, 1) := by decide +kernel
theorem dX12_odd_63 : decode cX12_odd 63 = .ok (.if_icmp .ne 7, 3) := by decide +kernel
theorem dX12_odd_66 : decode cX12_odd 66 = .ok (.iconst 1, 1) := by decide +kernel
theorem dX12_odd_67 : decode cX12_odd 67 = .ok (.goto 4, 3) := by decide +kernel
theorem dX12_odd_70 : decode cX12_odd 70 = .ok (.iconst 0, 1) := by decide +kernel
theorem dX12_odd_71 : decode cX12_odd 71 = .ok (.iadd, 1) := by decide +kernel
theorem dX12_odd_72 : decode cX12_odd 72 = .ok (.istore_n 3, 1) := by decide +kernel
theorem dX12_odd_73 : decode cX12_odd 73 = .ok (.iinc 4 1, 3) := by decide +kernel
theorem dX12_odd_76 : decode cX12_odd 76 = .ok (.goto (-43), 3) := by decide +kernel
theorem dX12_odd_79 : decode cX12_odd 79 = .ok (.iload_n 3, 1) := by decide +kernel
theorem dX12_odd_80 : decode cX12_odd 80 = .ok (.iconst 3, 1) := by decide +kernel
theorem dX12_odd_81 : decode cX12_odd 81 = .ok (.if_icmp .ge 6, 3) := by decide +kernel
theorem dX12_odd_84 : decode cX12_odd 84 = .ok (.bipush (-2), 2) := by decide +kernel
theorem dX12_odd_86 : decode cX12_odd 86 = .ok (.ireturn, 1) := by decide +kernel
theorem dX12_odd_87 : decode cX12_odd 87 = .ok (.lconst 0, 1) := by decide +kernel
theorem dX12_odd_88 : decode cX12_odd 88 = .ok (.lstore 4, 2) := by decide +kernel
theorem dX12_odd_90 : decode cX12_odd 90 = .ok (.iconst 0, 1) := by decide +kernel
theorem dX12_odd_91 : decode cX12_odd 91 = .ok (.istore 6, 2) := by decide +kernel
theorem dX12_odd_93 : decode cX12_odd 93 = .ok (.iload 6, 2) := by decide +kernel
theorem dX12_odd_95 : decode cX12_odd 95 = .ok (.aload_n 0, 1) := by decide +kernel
theorem dX12_odd_96 : decode cX12_odd 96 = .ok (.getfield 7, 3) := by decide +kernel
theorem dX12_odd_99 : decode cX12_odd 99 = .ok (.iconst 1, 1) := by decide +kernel
theorem dX12_odd_100 : decode cX12_odd 100 = .ok (.iaload, 1) := by decide +kernel
theorem dX12_odd_101 : decode cX12_odd 101 = .ok (.if_icmp .ge 149, 3) := by decide +kernel
theorem dX12_odd_104 : decode cX12_odd 104 = .ok (.aload_n 0, 1) := by decide +kernel
theorem dX12_odd_105 : decode cX12_odd 105 = .ok (.getfield 88, 3) := by decide +kernel
theorem dX12_odd_108 : decode cX12_odd 108 = .ok (.iload 6, 2) := by decide +kernel
theorem dX12_odd_110 : decode cX12_odd 110 = .ok (.baload, 1) := by decide +kernel
theorem dX12_odd_111 : decode cX12_odd 111 = .ok (.ifCond .eq 133, 3) := by decide +kernel
theorem dX12_odd_114 : decode cX12_odd 114 = .ok (.aload_n 0, 1) := by decide +kernel
theorem dX12_odd_115 : decode cX12_odd 115 = .ok (.iload 6, 2) := by decide +kernel
theorem dX12_odd_117 : decode cX12_odd 117 = .ok (.iconst 0, 1) := by decide +kernel
theorem dX12_odd_118 : decode cX12_odd 118 = .ok (.invokevirtual 132, 3) := by decide +kernel
theorem dX12_odd_121 : decode cX12_odd 121 = .ok (.iload_n 2, 1) := by decide +kernel
theorem dX12_odd_122 : decode cX12_odd 122 = .ok (.if_icmp .eq 6, 3) := by decide +kernel
theorem dX12_odd_125 : decode cX12_odd 125 = .ok (.goto 119, 3) := by decide +kernel
theorem dX12_odd_128 : decode cX12_odd 128 = .ok (.iconst 0, 1) := by decide +kernel
theorem dX12_odd_129 : decode cX12_odd 129 = .ok (.istore 7, 2) := by decide +kernel
theorem dX12_odd_131 : decode cX12_odd 131 = .ok (.iconst 0, 1) := by decide +kernel
theorem dX12_odd_132 : decode cX12_odd 132 = .ok (.istore 8, 2) := by decide +kernel
theorem dX12_odd_134 : decode cX12_odd 134 = .ok (.iload 8, 2) := by decide +kernel
theorem dX12_odd_136 : decode cX12_odd 136 = .ok (.aload_n 0, 1) := by decide +kernel
theorem dX12_odd_137 : decode cX12_odd 137 = .ok (.getfield 7, 3) := by decide +kernel
theorem dX12_odd_140 : decode cX12_odd 140 = .ok (.iconst 1, 1) := by decide +kernel
theorem dX12_odd_141 : decode cX12_odd 141 = .ok (.iaload, 1) := by decide +kernel
theorem dX12_odd_142 : decode cX12_odd 142 = .ok (.if_icmp .ge 83, 3) := by decide +kernel
theorem dX12_odd_145 : decode cX12_odd 145 = .ok (.iload 7, 2) := by decide +kernel
theorem dX12_odd_147 : decode cX12_odd 147 = .ok (.aload_n 0, 1) := by decide +kernel
theorem dX12_odd_148 : decode cX12_odd 148 = .ok (.getfield 88, 3) := by decide +kernel
theorem dX12_odd_151 : decode cX12_odd 151 = .ok (.iload 8, 2) := by decide +kernel
theorem dX12_odd_153 : decode cX12_odd 153 = .ok (.baload, 1) := by decide +kernel
theorem dX12_odd_154 : decode cX12_odd 154 = .ok (.ifCond .eq 61, 3) := by decide +kernel
theorem dX12_odd_157 : decode cX12_odd 157 = .ok (.aload_n 0, 1) := by decide +kernel
theorem dX12_odd_158 : decode cX12_odd 158 = .ok (.iload 8, 2) := by decide +kernel
theorem dX12_odd_160 : decode cX12_odd 160 = .ok (.iconst 0, 1) := by decide +kernel
theorem dX12_odd_161 : decode cX12_odd 161 = .ok (.invokevirtual 132, 3) := by decide +kernel
theorem dX12_odd_164 : decode cX12_odd 164 = .ok (.iload_n 2, 1) := by decide +kernel
theorem dX12_odd_165 : decode cX12_odd 165 = .ok (.if_icmp .ne 50, 3) := by decide +kernel
theorem dX12_odd_168 : decode cX12_odd 168 = .ok (.aload_n 0, 1) := by decide +kernel
theorem dX12_odd_169 : decode cX12_odd 169 = .ok (.getfield 85, 3) := by decide +kernel
theorem dX12_odd_172 : decode cX12_odd 172 = .ok (.iload 8, 2) := by decide +kernel
theorem dX12_odd_174 : decode cX12_odd 174 = .ok (.laload, 1) := by decide +kernel
theorem dX12_odd_175 : decode cX12_odd 175 = .ok (.aload_n 0, 1) := by decide +kernel
theorem dX12_odd_176 : decode cX12_odd 176 = .ok (.getfield 85, 3) := by decide +kernel
theorem dX12_odd_179 : decode cX12_odd 179 = .ok (.iload 6, 2) := by decide +kernel
theorem dX12_odd_181 : decode cX12_odd 181 = .ok (.laload, 1) := by decide +kernel
theorem dX12_odd_182 : decode cX12_odd 182 = .ok (.lcmp, 1) := by decide +kernel
theorem dX12_odd_183 : decode cX12_odd 183 = .ok (.ifCond .lt 28, 3) := by decide +kernel
theorem dX12_odd_186 : decode cX12_odd 186 = .ok (.aload_n 0, 1) := by decide +kernel
theorem dX12_odd_187 : decode cX12_odd 187 = .ok (.getfield 85, 3) := by decide +kernel
theorem dX12_odd_190 : decode cX12_odd 190 = .ok (.iload 8, 2) := by decide +kernel
theorem dX12_odd_192 : decode cX12_odd 192 = .ok (.laload, 1) := by decide +kernel
theorem dX12_odd_193 : decode cX12_odd 193 = .ok (.aload_n 0, 1) := by decide +kernel
theorem dX12_odd_194 : decode cX12_odd 194 = .ok (.getfield 85, 3) := by decide +kernel
theorem dX12_odd_197 : decode cX12_odd 197 = .ok (.iload 6, 2) := by decide +kernel
theorem dX12_odd_199 : decode cX12_odd 199 = .ok (.laload, 1) := by decide +kernel
theorem dX12_odd_200 : decode cX12_odd 200 = .ok (.lcmp, 1) := by decide +kernel
theorem dX12_odd_201 : decode cX12_odd 201 = .ok (.ifCond .ne 14, 3) := by decide +kernel
theorem dX12_odd_204 : decode cX12_odd 204 = .ok (.iload 8, 2) := by decide +kernel
theorem dX12_odd_206 : decode cX12_odd 206 = .ok (.iload 6, 2) := by decide +kernel
theorem dX12_odd_208 : decode cX12_odd 208 = .ok (.if_icmp .ge 7, 3) := by decide +kernel
theorem dX12_odd_211 : decode cX12_odd 211 = .ok (.iconst 1, 1) := by decide +kernel
theorem dX12_odd_212 : decode cX12_odd 212 = .ok (.goto 4, 3) := by decide +kernel
theorem dX12_odd_215 : decode cX12_odd 215 = .ok (.iconst 0, 1) := by decide +kernel
theorem dX12_odd_216 : decode cX12_odd 216 = .ok (.iadd, 1) := by decide +kernel
theorem dX12_odd_217 : decode cX12_odd 217 = .ok (.istore 7, 2) := by decide +kernel
theorem dX12_odd_219 : decode cX12_odd 219 = .ok (.iinc 8 1, 3) := by decide +kernel
theorem dX12_odd_222 : decode cX12_odd 222 = .ok (.goto (-88), 3) := by decide +kernel
theorem dX12_odd_225 : decode cX12_odd 225 = .ok (.iload 7, 2) := by decide +kernel
theorem dX12_odd_227 : decode cX12_odd 227 = .ok (.iload_n 3, 1) := by decide +kernel
theorem dX12_odd_228 : decode cX12_odd 228 = .ok (.iconst 1, 1) := by decide +kernel
theorem dX12_odd_229 : decode cX12_odd 229 = .ok (.isub, 1) := by decide +kernel
theorem dX12_odd_230 : decode cX12_odd 230 = .ok (.iconst 2, 1) := by decide +kernel
theorem dX12_odd_231 : decode cX12_odd 231 = .ok (.idiv, 1) := by decide +kernel
theorem dX12_odd_232 : decode cX12_odd 232 = .ok (.if_icmp .ne 12, 3) := by decide +kernel
theorem dX12_odd_235 : decode cX12_odd 235 = .ok (.aload_n 0, 1) := by decide +kernel
theorem dX12_odd_236 : decode cX12_odd 236 = .ok (.getfield 85, 3) := by decide +kernel
theorem dX12_odd_239 : decode cX12_odd 239 = .ok (.iload 6, 2) := by decide +kernel
theorem dX12_odd_241 : decode cX12_odd 241 = .ok (.laload, 1) := by decide +kernel
theorem dX12_odd_242 : decode cX12_odd 242 = .ok (.lstore 4, 2) := by decide +kernel
theorem dX12_odd_244 : decode cX12_odd 244 = .ok (.iinc 6 1, 3) := by decide +kernel
theorem dX12_odd_247 : decode cX12_odd 247 = .ok (.goto (-154), 3) := by decide +kernel
theorem dX12_odd_250 : decode cX12_odd 250 = .ok (.iconst (-1), 1) := by decide +kernel
theorem dX12_odd_251 : decode cX12_odd 251 = .ok (.istore 6, 2) := by decide +kernel
theorem dX12_odd_253 : decode cX12_odd 253 = .ok (.iconst 0, 1) := by decide +kernel
theorem dX12_odd_254 : decode cX12_odd 254 = .ok (.istore 7, 2) := by decide +kernel
theorem dX12_odd_256 : decode cX12_odd 256 = .ok (.iload 7, 2) := by decide +kernel
theorem dX12_odd_258 : decode cX12_odd 258 = .ok (.aload_n 0, 1) := by decide +kernel
theorem dX12_odd_259 : decode cX12_odd 259 = .ok (.getfield 7, 3) := by decide +kernel
theorem dX12_odd_262 : decode cX12_odd 262 = .ok (.iconst 1, 1) := by decide +kernel
theorem dX12_odd_263 : decode cX12_odd 263 = .ok (.iaload, 1) := by decide +kernel
theorem dX12_odd_264 : decode cX12_odd 264 = .ok (.if_icmp .ge 72, 3) := by decide +kernel
theorem dX12_odd_267 : decode cX12_odd 267 = .ok (.aload_n 0, 1) := by decide +kernel
theorem dX12_odd_268 : decode cX12_odd 268 = .ok (.getfield 88, 3) := by decide +kernel
theorem dX12_odd_271 : decode cX12_odd 271 = .ok (.iload 7, 2) := by decide +kernel
theorem dX12_odd_273 : decode cX12_odd 273 = .ok (.baload, 1) := by decide +kernel
theorem dX12_odd_274 : decode cX12_odd 274 = .ok (.ifCond .eq 56, 3) := by decide +kernel
theorem dX12_odd_277 : decode cX12_odd 277 = .ok (.aload_n 0, 1) := by decide +kernel
theorem dX12_odd_278 : decode cX12_odd 278 = .ok (.iload 7, 2) := by decide +kernel
theorem dX12_odd_280 : decode cX12_odd 280 = .ok (.iconst 0, 1) := by decide +kernel
theorem dX12_odd_281 : decode cX12_odd 281 = .ok (.invokevirtual 132, 3) := by decide +kernel
theorem dX12_odd_284 : decode cX12_odd 284 = .ok (.iload_n 2, 1) := by decide +kernel
theorem dX12_odd_285 : decode cX12_odd 285 = .ok (.if_icmp .eq 6, 3) := by decide +kernel
theorem dX12_odd_288 : decode cX12_odd 288 = .ok (.goto 42, 3) := by decide +kernel
theorem dX12_odd_291 : decode cX12_odd 291 = .ok (.iload 6, 2) := by decide +kernel
theorem dX12_odd_293 : decode cX12_odd 293 = .ok (.ifCond .lt 33, 3) := by decide +kernel
theorem dX12_odd_296 : decode cX12_odd 296 = .ok (.aload_n 0, 1) := by decide +kernel
theorem dX12_odd_297 : decode cX12_odd 297 = .ok (.getfield 85, 3) := by decide +kernel
theorem dX12_odd_300 : decode cX12_odd 300 = .ok (.iload 7, 2) := by decide +kernel
theorem dX12_odd_302 : decode cX12_odd 302 = .ok (.laload, 1) := by decide +kernel
theorem dX12_odd_303 : decode cX12_odd 303 = .ok (.lload 4, 2) := by decide +kernel
theorem dX12_odd_305 : decode cX12_odd 305 = .ok (.lsub, 1) := by decide +kernel
theorem dX12_odd_306 : decode cX12_odd 306 = .ok (.invokestatic 414, 3) := by decide +kernel
theorem dX12_odd_309 : decode cX12_odd 309 = .ok (.aload_n 0, 1) := by decide +kernel
theorem dX12_odd_310 : decode cX12_odd 310 = .ok (.getfield 85, 3) := by decide +kernel
theorem dX12_odd_313 : decode cX12_odd 313 = .ok (.iload 6, 2) := by decide +kernel
theorem dX12_odd_315 : decode cX12_odd 315 = .ok (.laload, 1) := by decide +kernel
theorem dX12_odd_316 : decode cX12_odd 316 = .ok (.lload 4, 2) := by decide +kernel
theorem dX12_odd_318 : decode cX12_odd 318 = .ok (.lsub, 1) := by decide +kernel
theorem dX12_odd_319 : decode cX12_odd 319 = .ok (.invokestatic 414, 3) := by decide +kernel
theorem dX12_odd_322 : decode cX12_odd 322 = .ok (.lcmp, 1) := by decide +kernel
theorem dX12_odd_323 : decode cX12_odd 323 = .ok (.ifCond .le 7, 3) := by decide +kernel
theorem dX12_odd_326 : decode cX12_odd 326 = .ok (.iload 7, 2) := by decide +kernel
theorem dX12_odd_328 : decode cX12_odd 328 = .ok (.istore 6, 2) := by decide +kernel
theorem dX12_odd_330 : decode cX12_odd 330 = .ok (.iinc 7 1, 3) := by decide +kernel
theorem dX12_odd_333 : decode cX12_odd 333 = .ok (.goto (-77), 3) := by decide +kernel
theorem dX12_odd_336 : decode cX12_odd 336 = .ok (.iload 6, 2) := by decide +kernel
theorem dX12_odd_338 : decode cX12_odd 338 = .ok (.ireturn, 1) := by decide +kernel
set_option maxHeartbeats 4000000 in
set_option maxRecDepth 100000 in
theorem r_X12_rows (l : Launch) (D : va_G) (cy : Nat → ClassId) (sz : Nat) (L : List Nat) (K : Nat → tk_K) (Γ : tk_G) (f : Nat → va_E) (o : Nat) (p0 : Int32) (ho : tp_r L K 39 (0) 0 o) (htx : tx_ok (Γ (43, 8800, 0)) (Γ (45, 1056, 0)) (Γ (46, 22, 0)) (Γ (47, 6, 0)) (Γ (48, 22, 0)) (Γ (49, 22, 0)) (Γ (50, 22, 0)) (Γ (51, 22, 0)) (Γ (42, 3, 0))) (hsd : ts_said (Γ (40, 7666, 0)) (Γ (42, 3, 0) 1)) (hcan : 0 ≤ p0.toInt ∧ p0.toInt < Γ (42, 3, 0) 1) : Met l yX12_rows (tl_w yX12_rows cX12_rows 3 none) ({ frames := 7, cells := 0, slots := 0, locals := 177 }) (va_Pc [.ref o, .int p0] (tp_P D cy L K Γ f sz)) (va_Qv (fun (u : (Nat → va_E) × tk_G) => u.2 (39, 0, 0) 0 = Γ (39, 0, 0) 0) (tp_BG D cy L K Γ f [39, 58, 57, 60, 61, 62, 63, 59, 64, 65, 66]) (tp_A L sz)) 0 0 (tp_A L sz) := by
  refine Met.ofW (cc := cX12_rows) (maxL := 3) (ret := none) (by decide) rfl ?_
  intro p e s m args below meth c s₁ B hml hv
  obtain ⟨rfl, hsz, hP, hK, hL, hI, hN, hU⟩ := hv
  have hx := B.exec
  have hb := B.bytes
  have hr := B.returns
  have hta := tl_hta (atoms_spec (ws := tl_w yX12_rows cX12_rows 3 none) B.pre)
  have hown : s.vm.findClass RX12 = some m.cls := findClass_of_methodNamed B.named
  have hlocks := B.notSynchronized
  subst hsz
  have hI0 := hI
  generalize hAe : tp_A L s.heap.size = A
  have hA : ∀ q : Nat, s.heap.size ≤ q → A q := fun q h => by rw [← hAe]; exact Or.inr h
  have hAL : ∀ q ∈ L, A q := fun q h => by rw [← hAe]; exact Or.inl h
  have hAf : ∀ (H : Heap), s.heap.size ≤ H.size → ∀ q, tp_A L H.size q → A q := fun H h q hq => hq.elim (hAL q) (fun h2 => hA q (Nat.le_trans h h2))
  have hS : va_S A s.heap s.heap [] := va_S.rf
  have hD : va_D A (va_pl L f) := tp_D hL hAL
  have hfr : ∀ b, (K b).1 ∉ ([39, 58, 57, 60, 61, 62, 63, 59, 64, 65, 66] : List Nat) → f b = f b := fun _ _ => rfl
  have hgr : ∀ κ : tk_K, κ.1 ∉ ([39, 58, 57, 60, 61, 62, 63, 59, 64, 65, 66] : List Nat) → Γ κ = Γ κ := fun _ _ => rfl
  have hl := lv_entry ([.ref o, .int p0]) (n := 3) (Nat.le_of_ble_eq_true rfl)
  rw [lg_entry_eq]
  generalize (lg_sl ([.ref o, .int p0]) ++ List.replicate (3 - (lg_sl ([.ref o, .int p0])).length) Slot.unset).toArray = ls at hl ⊢
  have hl : lv_has ls 3 [(0, .ref o), (1, .int p0)] := hl
  have hs := ts_hs hsd
  have hraw := ts_raw hsd
  have hslp := ts_slp hsd
  have htb := htx.1
  refine lv_iconst (v := 0) hx hb dX12_rows_0 (by decide) ?_
  refine lv_istore_n (lv' := [(2, .int 0), (0, .ref o), (1, .int p0)]) hx hb dX12_rows_1 rfl hl (by decide) rfl (fun ls hl => ?_)
  refine tq_start hP hS (fun H locs hP hS => ?_)
  refine tl_ind (G := fun H locs ls => W p l e ((headSpec (tl_w yX12_rows cX12_rows 3 none) ({ frames := 7, cells := 0, slots := 0, locals := 177 })).room) s m #[.ref o, .int p0] below meth c H locs 0 0 (MQ below (va_Qv (fun (u : (Nat → va_E) × tk_G) => u.2 (39, 0, 0) 0 = Γ (39, 0, 0) 0) (tp_BG D cy L K Γ f [39, 58, 57, 60, 61, 62, 63, 59, 64, 65, 66]) A) #[.ref o, .int p0] s 0 0 A) (F0 m 2 ls [])) (α := (Nat → va_E) × tk_G × Int32) (fun aq => (24 - aq.2.2.toInt).toNat) (fun aq H locs ls => (0 ≤ aq.2.2.toInt) ∧ (aq.2.1 (39, 0, 0) 0 = Γ (39, 0, 0) 0) ∧ va_P D vwCl (va_pl L aq.1) H ∧ tp_I cy L K aq.2.1 aq.1 ∧ (∀ b, (K b).1 ∉ ([39, 58, 57, 60, 61, 62, 63, 59, 64, 65, 66] : List Nat) → aq.1 b = f b) ∧ (∀ κ : tk_K, κ.1 ∉ ([39, 58, 57, 60, 61, 62, 63, 59, 64, 65, 66] : List Nat) → aq.2.1 κ = Γ κ) ∧ va_S A s.heap H locs ∧ lv_has ls 3 [(2, .int aq.2.2), (0, .ref o), (1, .int p0)]) ?_ (f, Γ, (0 : Int32)) H locs ls ⟨(show 0 ≤ (0 : Int) from (by omega)), (show Γ (39, 0, 0) 0 = Γ (39, 0, 0) 0 from (by omega)), hP, hI, hfr, hgr, hS, lv_sub hl [0, 1, 2] rfl⟩
  rintro ⟨f_1, Γ_2, v2⟩ H locs ls ⟨hr2, q0, hP, hI, hfr, hgr, hS, hl⟩ ih2
  have hgr : ∀ κ : tk_K, κ.1 ∉ ([39, 58, 57, 60, 61, 62, 63, 59, 64, 65, 66] : List Nat) → Γ_2 κ = Γ κ := hgr
  have hP : va_P D vwCl (va_pl L f_1) H := hP
  have hI : tp_I cy L K Γ_2 f_1 := hI
  have hfr : ∀ b, (K b).1 ∉ ([39, 58, 57, 60, 61, 62, 63, 59, 64, 65, 66] : List Nat) → f_1 b = f b := hfr
  have hD : va_D A (va_pl L f_1) := tp_D hL hAL
  have hr2 : 0 ≤ v2.toInt := hr2
  have q0 : Γ_2 (39, 0, 0) 0 = Γ (39, 0, 0) 0 := q0
  have hl : lv_has ls 3 [(2, .int v2), (0, .ref o), (1, .int p0)] := hl
  refine lv_iload_n hx hb dX12_rows_2 rfl (lv_at hl 0 rfl) ?_
  refine lv_aload_n hx hb dX12_rows_3 rfl (lv_at hl 1 rfl) ?_
  obtain ⟨r_4, v_5, q_6, hf_3, hr_7, hv_8⟩ := (show tp_o_M L K 0 0 (Γ_2 (39, 0, 0)) (f_1 o) from hI.at ho)
  refine tp_get (cy := cy) (ci := 12) (v := .ref (r_4 0)) (C := RX12) (T := TX12) (N := 49) hx hb hta inlX12 hown hK hP ho.1 hf_3 rfl 0 (by decide) (hta _ wk_149) (fun _ h9 => h9) rfl dX12_rows_4 ?_
  refine lv_iconst (v := 1) hx hb dX12_rows_7 (by decide) ?_
  obtain ⟨g_17, hf_16, hg_18⟩ := (show tp_gi cy (7666) (Γ (40, 7666, 0)) (f (r_4 0)) from hI0.at (show tp_r L K 40 7666 0 (r_4 0) from hr_7 0 (by decide)))
  have hn_19 : vp_in 1 (7666) := tl_in (by decide) (by decide)
  refine tp_iald (cy := cy) hx hb hK hP (show tp_r L K 40 7666 0 (r_4 0) from hr_7 0 (by decide)).1 ((tp_un hfr (show tp_r L K 40 7666 0 (r_4 0) from hr_7 0 (by decide)) (by decide)).trans hf_16) hn_19 dX12_rows_8 ?_
  refine lv_topi (fun z_20 ez_20 => ?_)
  have iz_20 : z_20.toInt = Γ (40, 7666, 0) 1 := by rw [ez_20]; exact hg_18 _ (tp_pin hn_19)
  refine lv_icmp_ge (tgt := 61) hx hb dX12_rows_9 (by decide) (fun c_21 => ?_) (fun c_21 => ?_)
  · have c_21 : z_20.toInt ≤ v2.toInt := tl_le c_21
    have hpo9 : Γ_2 (39, 0, 0) 0 = Γ (39, 0, 0) 0 := (by omega)
    exact W.vret hx hb hr (fun t ht hW => ⟨⟨(f_1, Γ_2), rfl, hpo9, by rw [ht]; exact hP, hI, hfr, hgr⟩, hS.F ht⟩) hS.2.2 dX12_rows_61
  · have c_21 : v2.toInt < z_20.toInt := tl_nle c_21
    refine lv_aload_n hx hb dX12_rows_12 rfl (lv_at hl 1 rfl) ?_
    refine tp_get (cy := cy) (ci := 12) (v := .ref (r_4 26)) (C := RX12) (T := TX12) (N := 49) hx hb hta inlX12 hown hK hP ho.1 hf_3 rfl 43 (by decide) (hta _ wk_176) (fun _ h9 => h9) rfl dX12_rows_13 ?_
    refine lv_iload_n hx hb dX12_rows_16 rfl (lv_at hl 0 rfl) ?_
    refine lv_aload_n hx hb dX12_rows_17 rfl (lv_at hl 1 rfl) ?_
    refine lv_iload_n hx hb dX12_rows_18 rfl (lv_at hl 2 rfl) ?_
    refine lv_iload_n hx hb dX12_rows_19 rfl (lv_at hl 0 rfl) ?_
    refine tq_clR hS (hAf _ hS.1) (tq_rV (As := [.int p0, .int v2]) (rest := [.int v2, .ref (r_4 26)]) ⟨hx, hb, hml, hown, hta⟩ (tp_P.pre hK hN hL hU hI hP) (tp_recv hK hP ho.1 hf_3 rfl) lk_X12_450 (r_X12_scoreOf l D cy H.size L K Γ_2 f_1 o p0 v2 ho (by first | omega | assumption | (rw [hgr (42, 3, 0) (by decide), hgr (43, 8800, 0) (by decide), hgr (45, 1056, 0) (by decide), hgr (46, 22, 0) (by decide), hgr (47, 6, 0) (by decide), hgr (48, 22, 0) (by decide), hgr (49, 22, 0) (by decide), hgr (50, 22, 0) (by decide), hgr (51, 22, 0) (by decide)]; first | exact htx | assumption | omega)) (by first | omega | assumption | (rw [hgr (40, 7666, 0) (by decide), hgr (42, 3, 0) (by decide)]; first | exact hsd | assumption | omega)) (by first | omega | assumption | (rw [hgr (42, 3, 0) (by decide)]; first | exact hcan | assumption | omega)) (by first | omega | (simp only [Int32.toInt_toInt64]; omega) | decide | assumption)) rfl rfl ⟨Nat.le_of_ble_eq_true rfl, Nat.le_of_ble_eq_true rfl⟩ rfl hl.1 rfl (Nat.le_of_ble_eq_true rfl) dX12_rows_20 ⟨Nat.le_of_ble_eq_true rfl, Nat.le_of_ble_eq_true rfl⟩) (fun r_23 f_24 Γ_26 H locs hw_22 hP hI hc_25 hcg_27 hS => ?_)
    have hD : va_D A (va_pl L f_24) := tp_D hL hAL
    have hfr := tp_fr2 hfr hc_25 (by decide)
    have hgr : ∀ κ : tk_K, κ.1 ∉ ([39, 58, 57, 60, 61, 62, 63, 59, 64, 65, 66] : List Nat) → Γ_26 κ = Γ κ := tg_fr2 hgr hcg_27 (by decide)
    have hw_22 : Γ_26 (39, 0, 0) 0 = Γ_2 (39, 0, 0) 0 ∧ (0 ≤ Γ_26 (39, 0, 0) 11 ∧ Γ_26 (39, 0, 0) 12 ≤ 299) ∧ (Γ_26 (39, 0, 0) 11 = Γ_2 (49, 22, 0) (6 + p0.toInt).toNat ∧ Γ_26 (39, 0, 0) 12 = Γ_2 (50, 22, 0) (6 + p0.toInt).toNat) ∧ (Γ_26 (39, 0, 0) 15 = 0 ∨ Γ_26 (39, 0, 0) 15 = 1) ∧ (0 ≤ Γ_26 (39, 0, 0) 13 ∧ Γ_26 (39, 0, 0) 13 ≤ 42) ∧ (0 < Γ_26 (39, 0, 0) 13 → 0 < Γ_26 (39, 0, 0) 10) ∧ (Γ_26 (39, 0, 0) 15 = 1 → 0 < Γ_26 (39, 0, 0) 13 ∧ 0 < Γ_26 (39, 0, 0) 14) ∧ (Γ_26 (39, 0, 0) 15 = 1 → gex (Γ_26 (59, 300, 0)) (Γ_2 (49, 22, 0) (6 + p0.toInt).toNat) (Γ_2 (50, 22, 0) (6 + p0.toInt).toNat + 1)) ∧ (∀ j : Nat, (j : Int) < Γ_26 (39, 0, 0) 13 → 0 ≤ Γ_26 (61, 42, 0) j ∧ Γ_26 (61, 42, 0) j ≤ 299) ∧ (∀ j : Nat, (j : Int) + 1 < Γ_26 (39, 0, 0) 13 → Γ_26 (61, 42, 0) j < Γ_26 (61, 42, 0) (j + 1)) ∧ (∀ j : Nat, j < 300 → (Γ_26 (59, 300, 0) j = -1000000 ∨ (-500000 ≤ Γ_26 (59, 300, 0) j ∧ Γ_26 (59, 300, 0) j ≤ 500000))) := hw_22
    obtain ⟨hq0, hqb, hq11, hq15, hq13, hq10, hqd, hqg, hqk, hqr, hql⟩ := hw_22
    obtain ⟨g_29, hf_28⟩ := (show tp_aj cy (24) (f_24 (r_4 26)) from hI.at (show tp_r L K 66 24 0 (r_4 26) from hr_7 26 (by decide)))
    have hn_31 : vp_in v2 (24) := tl_in (by omega) (by omega)
    have hI9 : tp_I cy L K Γ_26 (va_up f_24 (r_4 26) (.inl (cy 1, 24, .inr (.inl (vp_updL g_29 v2.toNatClampNeg r_23))))) := hI.set (show tp_r L K 66 24 0 (r_4 26) from hr_7 26 (by decide)) (show tp_aj cy (24) _ from ⟨_, rfl⟩)
    have hfr9 : ∀ b, (K b).1 ∉ ([39, 58, 57, 60, 61, 62, 63, 59, 64, 65, 66] : List Nat) → va_up f_24 (r_4 26) (.inl (cy 1, 24, .inr (.inl (vp_updL g_29 v2.toNatClampNeg r_23)))) b = f b := tp_fr hfr (show tp_r L K 66 24 0 (r_4 26) from hr_7 26 (by decide)) (by decide)
    refine tp_last (cy := cy) hx hb hK hP hD hS (show tp_r L K 66 24 0 (r_4 26) from hr_7 26 (by decide)).1 hf_28 hn_31 dX12_rows_23 (fun H locs hP hD hS => ?_)
    have hP : va_P D vwCl (va_pl L (va_up f_24 (r_4 26) (.inl (cy 1, 24, .inr (.inl (vp_updL g_29 v2.toNatClampNeg r_23)))))) H := hP
    generalize hfe : va_up f_24 (r_4 26) (.inl (cy 1, 24, .inr (.inl (vp_updL g_29 v2.toNatClampNeg r_23)))) = f_32 at hP hI9 hfr9
    have hD : va_D A (va_pl L f_32) := tp_D hL hAL
    have hf_33 : f_32 (r_4 26) = .inl (cy 1, 24, .inr (.inl (vp_updL g_29 v2.toNatClampNeg r_23))) := by rw [← hfe]; exact va_up_self _ _ _
    clear hfe
    have hI := hI9
    have hfr := hfr9
    clear hI9 hfr9
    refine lv_aload_n hx hb dX12_rows_24 rfl (lv_at hl 1 rfl) ?_
    obtain ⟨r_35, v_36, q_37, hf_34, hr_38, hv_39⟩ := (show tp_o_M L K 0 0 (Γ_26 (39, 0, 0)) (f_32 o) from hI.at ho)
    have hx_46 : (v_36 15).toInt = Γ_26 (39, 0, 0) 15 := hv_39 15 (by decide)
    refine tp_get (cy := cy) (ci := 12) (v := .ref (r_35 25)) (C := RX12) (T := TX12) (N := 49) hx hb hta inlX12 hown hK hP ho.1 hf_34 rfl 42 (by decide) (hta _ wk_175) (fun _ h9 => h9) rfl dX12_rows_25 ?_
    refine lv_iload_n hx hb dX12_rows_28 rfl (lv_at hl 0 rfl) ?_
    refine lv_aload_n hx hb dX12_rows_29 rfl (lv_at hl 1 rfl) ?_
    refine tp_get (cy := cy) (ci := 12) (v := .int (v_36 15)) (C := RX12) (T := TX12) (N := 49) hx hb hta inlX12 hown hK hP ho.1 hf_34 rfl 40 (by decide) (hta _ wk_924) (fun _ h9 => h9) rfl dX12_rows_30 ?_
    obtain ⟨g_48, hf_47⟩ := (show tp_az cy (24) (f_32 (r_35 25)) from hI.at (show tp_r L K 65 24 0 (r_35 25) from hr_38 25 (by decide)))
    have hn_50 : vp_in v2 (24) := tl_in (by omega) (by omega)
    have hI9 : tp_I cy L K Γ_26 (va_up f_32 (r_35 25) (.inl (cy 2, 24, .inl (upd g_48 v2.toNatClampNeg (vp_nar .boolean (v_36 15)))))) := hI.set (show tp_r L K 65 24 0 (r_35 25) from hr_38 25 (by decide)) (show tp_az cy (24) _ from ⟨_, rfl⟩)
    have hfr9 : ∀ b, (K b).1 ∉ ([39, 58, 57, 60, 61, 62, 63, 59, 64, 65, 66] : List Nat) → va_up f_32 (r_35 25) (.inl (cy 2, 24, .inl (upd g_48 v2.toNatClampNeg (vp_nar .boolean (v_36 15))))) b = f b := tp_fr hfr (show tp_r L K 65 24 0 (r_35 25) from hr_38 25 (by decide)) (by decide)
    refine tp_zast (cy := cy) hx hb hK hP hD hS (show tp_r L K 65 24 0 (r_35 25) from hr_38 25 (by decide)).1 hf_47 hn_50 dX12_rows_33 (fun H locs hP hD hS => ?_)
    have hP : va_P D vwCl (va_pl L (va_up f_32 (r_35 25) (.inl (cy 2, 24, .inl (upd g_48 v2.toNatClampNeg (vp_nar .boolean (v_36 15))))))) H := hP
    generalize hfe : va_up f_32 (r_35 25) (.inl (cy 2, 24, .inl (upd g_48 v2.toNatClampNeg (vp_nar .boolean (v_36 15))))) = f_51 at hP hI9 hfr9
    have hD : va_D A (va_pl L f_51) := tp_D hL hAL
    have hf_52 := (show f_51 o = _ from by rw [← hfe, va_up_ne _ _ (tp_ne ho (show tp_r L K 65 24 0 (r_35 25) from hr_38 25 (by decide)) (by decide))]).trans hf_34
    have hf_53 : f_51 (r_35 25) = .inl (cy 2, 24, .inl (upd g_48 v2.toNatClampNeg (vp_nar .boolean (v_36 15)))) := by rw [← hfe]; exact va_up_self _ _ _
    clear hfe
    have hI := hI9
    have hfr := hfr9
    clear hI9 hfr9
    refine lv_aload_n hx hb dX12_rows_34 rfl (lv_at hl 1 rfl) ?_
    refine tp_get (cy := cy) (ci := 12) (v := .ref (r_35 24)) (C := RX12) (T := TX12) (N := 49) hx hb hta inlX12 hown hK hP ho.1 hf_52 rfl 41 (by decide) (hta _ wk_174) (fun _ h9 => h9) rfl dX12_rows_35 ?_
    refine lv_iload_n hx hb dX12_rows_38 rfl (lv_at hl 0 rfl) ?_
    refine lv_aload_n hx hb dX12_rows_39 rfl (lv_at hl 1 rfl) ?_
    refine tp_get (cy := cy) (ci := 12) (v := .int (v_36 15)) (C := RX12) (T := TX12) (N := 49) hx hb hta inlX12 hown hK hP ho.1 hf_52 rfl 40 (by decide) (hta _ wk_924) (fun _ h9 => h9) rfl dX12_rows_40 ?_
    refine lv_if_eq (tgt := 53) hx hb dX12_rows_43 (by decide) (fun c_54 => ?_) (fun c_54 => ?_)
    · have c_54 : (v_36 15).toInt = (0 : Int) := tl_eq c_54
      refine lv_lconst (v := 0) hx hb dX12_rows_53 (by decide) ?_
      obtain ⟨g_56, hf_55⟩ := (show tp_aj cy (24) (f_51 (r_35 24)) from hI.at (show tp_r L K 64 24 0 (r_35 24) from hr_38 24 (by decide)))
      have hn_58 : vp_in v2 (24) := tl_in (by omega) (by omega)
      have hI9 : tp_I cy L K Γ_26 (va_up f_51 (r_35 24) (.inl (cy 1, 24, .inr (.inl (vp_updL g_56 v2.toNatClampNeg 0))))) := hI.set (show tp_r L K 64 24 0 (r_35 24) from hr_38 24 (by decide)) (show tp_aj cy (24) _ from ⟨_, rfl⟩)
      have hfr9 : ∀ b, (K b).1 ∉ ([39, 58, 57, 60, 61, 62, 63, 59, 64, 65, 66] : List Nat) → va_up f_51 (r_35 24) (.inl (cy 1, 24, .inr (.inl (vp_updL g_56 v2.toNatClampNeg 0)))) b = f b := tp_fr hfr (show tp_r L K 64 24 0 (r_35 24) from hr_38 24 (by decide)) (by decide)
      refine tp_last (cy := cy) hx hb hK hP hD hS (show tp_r L K 64 24 0 (r_35 24) from hr_38 24 (by decide)).1 hf_55 hn_58 dX12_rows_54 (fun H locs hP hD hS => ?_)
      have hP : va_P D vwCl (va_pl L (va_up f_51 (r_35 24) (.inl (cy 1, 24, .inr (.inl (vp_updL g_56 v2.toNatClampNeg 0)))))) H := hP
      generalize hfe : va_up f_51 (r_35 24) (.inl (cy 1, 24, .inr (.inl (vp_updL g_56 v2.toNatClampNeg 0)))) = f_59 at hP hI9 hfr9
      have hD : va_D A (va_pl L f_59) := tp_D hL hAL
      have hf_60 := (show f_59 o = _ from by rw [← hfe, va_up_ne _ _ (tp_ne ho (show tp_r L K 64 24 0 (r_35 24) from hr_38 24 (by decide)) (by decide))]).trans hf_52
      have hf_61 : f_59 (r_35 24) = .inl (cy 1, 24, .inr (.inl (vp_updL g_56 v2.toNatClampNeg 0))) := by rw [← hfe]; exact va_up_self _ _ _
      clear hfe
      have hI := hI9
      have hfr := hfr9
      clear hI9 hfr9
      obtain ⟨z_62, ez_62⟩ : ∃ y : Int32, y = v2 + 1 := ⟨_, rfl⟩
      refine lv_iinc (v := z_62) (lv' := [(2, .int z_62), (0, .ref o), (1, .int p0)]) hx hb dX12_rows_55 hl (k := 0) rfl (by rw [ez_62]; rfl) (by decide) rfl (fun ls hl => ?_)
      try have iz_62 : z_62.toInt = v2.toInt + 1 := by rw [ez_62]; exact tl_addL v2 1 (by decide) (by omega) (by omega)
      refine lv_goto (tgt := 2) hx hb dX12_rows_58 (by decide) ?_
      exact ih2 (f_59, Γ_26, z_62) H locs ls (by show (24 - z_62.toInt).toNat < (24 - v2.toInt).toNat; omega) ⟨(show 0 ≤ z_62.toInt from (by omega)), (show Γ_26 (39, 0, 0) 0 = Γ (39, 0, 0) 0 from (by omega)), hP, hI, hfr, hgr, hS, lv_sub hl [0, 1, 2] rfl⟩
    · have c_54 : ¬ (v_36 15).toInt = (0 : Int) := tl_neq c_54
      refine lv_aload_n hx hb dX12_rows_46 rfl (lv_at hl 1 rfl) ?_
      refine tq_clR hS (hAf _ hS.1) (tq_rV (As := []) (rest := [.int v2, .ref (r_35 24)]) ⟨hx, hb, hml, hown, hta⟩ (tp_P.pre hK hN hL hU hI hP) (tp_recv hK hP ho.1 hf_52 rfl) lk_X12_431 (r_X12_deepNow l D cy H.size L K Γ_26 f_51 o ho (by first | omega | (simp only [Int32.toInt_toInt64]; omega) | decide | assumption)) rfl rfl ⟨Nat.le_of_ble_eq_true rfl, Nat.le_of_ble_eq_true rfl⟩ rfl hl.1 rfl (Nat.le_of_ble_eq_true rfl) dX12_rows_47 ⟨Nat.le_of_ble_eq_true rfl, Nat.le_of_ble_eq_true rfl⟩) (fun r_64 f_65 Γ_67 H locs hw_63 hP hI hc_66 hcg_68 hS => ?_)
      have hD : va_D A (va_pl L f_65) := tp_D hL hAL
      have hfr := tp_fr2 hfr hc_66 (by decide)
      have hgr : ∀ κ : tk_K, κ.1 ∉ ([39, 58, 57, 60, 61, 62, 63, 59, 64, 65, 66] : List Nat) → Γ_67 κ = Γ κ := tg_fr2 hgr hcg_68 (by decide)
      have hw_63 : 0 ≤ Γ_67 (39, 0, 0) 14 ∧ (0 < Γ_67 (39, 0, 0) 14 ↔ gex (Γ_26 (59, 300, 0)) (Γ_26 (39, 0, 0) 11) (Γ_26 (39, 0, 0) 12 + 1)) ∧ Γ_67 (39, 0, 0) 0 = Γ_26 (39, 0, 0) 0 ∧ Γ_67 (39, 0, 0) 10 = Γ_26 (39, 0, 0) 10 ∧ Γ_67 (39, 0, 0) 11 = Γ_26 (39, 0, 0) 11 ∧ Γ_67 (39, 0, 0) 12 = Γ_26 (39, 0, 0) 12 ∧ Γ_67 (39, 0, 0) 13 = Γ_26 (39, 0, 0) 13 ∧ Γ_67 (39, 0, 0) 15 = Γ_26 (39, 0, 0) 15 := hw_63
      refine lv_goto (tgt := 54) hx hb dX12_rows_50 (by decide) ?_
      obtain ⟨g_70, hf_69⟩ := (show tp_aj cy (24) (f_65 (r_35 24)) from hI.at (show tp_r L K 64 24 0 (r_35 24) from hr_38 24 (by decide)))
      have hn_72 : vp_in v2 (24) := tl_in (by omega) (by omega)
      have hI9 : tp_I cy L K Γ_67 (va_up f_65 (r_35 24) (.inl (cy 1, 24, .inr (.inl (vp_updL g_70 v2.toNatClampNeg r_64))))) := hI.set (show tp_r L K 64 24 0 (r_35 24) from hr_38 24 (by decide)) (show tp_aj cy (24) _ from ⟨_, rfl⟩)
      have hfr9 : ∀ b, (K b).1 ∉ ([39, 58, 57, 60, 61, 62, 63, 59, 64, 65, 66] : List Nat) → va_up f_65 (r_35 24) (.inl (cy 1, 24, .inr (.inl (vp_updL g_70 v2.toNatClampNeg r_64)))) b = f b := tp_fr hfr (show tp_r L K 64 24 0 (r_35 24) from hr_38 24 (by decide)) (by decide)
      refine tp_last (cy := cy) hx hb hK hP hD hS (show tp_r L K 64 24 0 (r_35 24) from hr_38 24 (by decide)).1 hf_69 hn_72 dX12_rows_54 (fun H locs hP hD hS => ?_)
      have hP : va_P D vwCl (va_pl L (va_up f_65 (r_35 24) (.inl (cy 1, 24, .inr (.inl (vp_updL g_70 v2.toNatClampNeg r_64)))))) H := hP
      generalize hfe : va_up f_65 (r_35 24) (.inl (cy 1, 24, .inr (.inl (vp_updL g_70 v2.toNatClampNeg r_64)))) = f_73 at hP hI9 hfr9
      have hD : va_D A (va_pl L f_73) := tp_D hL hAL
      have hf_74 : f_73 (r_35 24) = .inl (cy 1, 24, .inr (.inl (vp_updL g_70 v2.toNatClampNeg r_64))) := by rw [← hfe]; exact va_up_self _ _ _
      clear hfe
      have hI := hI9
      have hfr := hfr9
      clear hI9 hfr9
      obtain ⟨z_75, ez_75⟩ : ∃ y : Int32, y = v2 + 1 := ⟨_, rfl⟩
      refine lv_iinc (v := z_75) (lv' := [(2, .int z_75), (0, .ref o), (1, .int p0)]) hx hb dX12_rows_55 hl (k := 0) rfl (by rw [ez_75]; rfl) (by decide) rfl (fun ls hl => ?_)
      try have iz_75 : z_75.toInt = v2.toInt + 1 := by rw [ez_75]; exact tl_addL v2 1 (by decide) (by omega) (by omega)
      refine lv_goto (tgt := 2) hx hb dX12_rows_58 (by decide) ?_
      exact ih2 (f_73, Γ_67, z_75) H locs ls (by show (24 - z_75.toInt).toNat < (24 - v2.toInt).toNat; omega) ⟨(show 0 ≤ z_75.toInt from (by omega)), (show Γ_67 (39, 0, 0) 0 = Γ (39, 0, 0) 0 from (by omega)), hP, hI, hfr, hgr, hS, lv_sub hl [0, 1, 2] rfl⟩
theorem tl_lremA {x y z : Int64} (e : z = x - x / y * y) (h : ¬ y.toInt = 0) : z.toInt.natAbs < y.toInt.natAbs := by
  have hy1 := Int64.le_toInt y
  have hy2 := Int64.toInt_lt y
  have h0 : x.toInt - x.toInt.tdiv y.toInt * y.toInt = x.toInt.tmod y.toInt := by rw [Int.tmod_def, Int.mul_comm]
  have h2 : (x.toInt.tmod y.toInt).natAbs < y.toInt.natAbs := by
    rw [Int.natAbs_tmod]
    exact Nat.mod_lt _ (by omega)
  have h1 : z.toInt = x.toInt.tmod y.toInt := by
    rw [e, Int64.toInt_sub, Int64.toInt_mul, Int64.toInt_div, Int.bmod_mul_bmod, Int.sub_bmod_bmod, h0]
    exact Int.bmod_eq_of_le (by omega) (by omega)
  rw [h1]
  exact h2
set_option maxHeartbeats 4000000 in
set_option maxRecDepth 100000 in
theorem r_X12_divisor (l : Launch) (D : va_G) (cy : Nat → ClassId) (sz : Nat) (L : List Nat) (K : Nat → tk_K) (Γ : tk_G) (f : Nat → va_E) (p0 : Int64) (p1 : Int64) (h0 : ¬ p1.toInt = 0) : Met l yX12_divisor (tl_w yX12_divisor cX12_divisor 10 (some .long)) ({ frames := 0, cells := 0, slots := 0, locals := 0 }) (va_Pc [.long p0, .long p1] (tp_P D cy L K Γ f sz)) (vp_Sl (fun r : Int64 => ¬ r.toInt = 0)) 0 0 (fun _ => False) := by
  refine Met.ofW (cc := cX12_divisor) (maxL := 10) (ret := (some .long)) (by decide) rfl ?_
  intro p e s m args below meth c s₁ B hml hv
  obtain ⟨rfl, hsz, hP, hK, hL, hI, hN, hU⟩ := hv
  have hx := B.exec
  have hb := B.bytes
  have hr := B.returns
  have hta := tl_hta (atoms_spec (ws := tl_w yX12_divisor cX12_divisor 10 (some .long)) B.pre)
  have hown : s.vm.findClass RX12 = some m.cls := findClass_of_methodNamed B.named
  have hlocks := B.notSynchronized
  subst hsz
  have hI0 := hI
  have hl := lv_entry ([.long p0, .long p1]) (n := 10) (Nat.le_of_ble_eq_true rfl)
  rw [lg_entry_eq]
  generalize (lg_sl ([.long p0, .long p1]) ++ List.replicate (10 - (lg_sl ([.long p0, .long p1])).length) Slot.unset).toArray = ls at hl ⊢
  have hl : lv_has ls 10 [(0, .long p0), (2, .long p1)] := hl
  refine lv_lload_n hx hb dX12_divisor_0 rfl (lv_at hl 0 rfl) ?_
  refine lv_lstore (lv' := [(4, .long p0), (0, .long p0), (2, .long p1)]) hx hb dX12_divisor_1 hl (by decide) rfl (fun ls hl => ?_)
  refine lv_lload_n hx hb dX12_divisor_3 rfl (lv_at hl 2 rfl) ?_
  refine lv_lstore (lv' := [(6, .long p1), (4, .long p0), (0, .long p0), (2, .long p1)]) hx hb dX12_divisor_4 hl (by decide) rfl (fun ls hl => ?_)
  refine tl_indR (G := fun ls => W p l e ((headSpec (tl_w yX12_divisor cX12_divisor 10 (some .long)) ({ frames := 0, cells := 0, slots := 0, locals := 0 })).room) s m #[.long p0, .long p1] below meth c s.heap [] 0 0 (MQ below (vp_Sl (fun r : Int64 => ¬ r.toInt = 0)) #[.long p0, .long p1] s 0 0 (fun _ => False)) (F0 m 6 ls [])) (α := Int64 × Int64) (fun aq => aq.1.toInt.natAbs) (fun aq ls => (¬ aq.2.toInt = 0 ∨ ¬ aq.1.toInt = 0) ∧ lv_has ls 10 [(6, .long aq.1), (4, .long aq.2), (0, .long p0), (2, .long p1)]) ?_ (p1, p0) ls ⟨(show ¬ p0.toInt = 0 ∨ ¬ p1.toInt = 0 from (Or.inr h0)), lv_sub hl [0, 1, 2, 3] rfl⟩
  rintro ⟨v6, v4⟩ ls ⟨hxy, hl⟩ ih6
  have hxy : ¬ v4.toInt = 0 ∨ ¬ v6.toInt = 0 := hxy
  have hl : lv_has ls 10 [(6, .long v6), (4, .long v4), (0, .long p0), (2, .long p1)] := hl
  refine lv_lload hx hb dX12_divisor_6 (lv_at hl 0 rfl) ?_
  refine lv_lconst (v := 0) hx hb dX12_divisor_8 (by decide) ?_
  refine W.lcmp hx hb dX12_divisor_9 ?_
  refine lv_if_eq (tgt := 31) hx hb dX12_divisor_10 (by decide) (fun c_1 => ?_) (fun c_1 => ?_)
  · have c_1 : v6.toInt = (0 : Int) := tl_cmp_eq c_1
    refine lv_lload hx hb dX12_divisor_31 (lv_at hl 1 rfl) ?_
    exact W.lret (v := v4) hx hb hr (fun t ht hW => ⟨_, rfl, (by first | trivial | omega | exact Or.inr rfl | exact Or.inl (by omega) | decide), ht⟩) (fun q h => by cases h) dX12_divisor_33
  · have c_1 : ¬ v6.toInt = (0 : Int) := tl_cmp_neq c_1
    refine lv_lload hx hb dX12_divisor_13 (lv_at hl 1 rfl) ?_
    refine lv_lload hx hb dX12_divisor_15 (lv_at hl 0 rfl) ?_
    refine lv_lrem hx hb dX12_divisor_17 (tl_ne0L (by omega)) ?_
    refine lv_topl (fun z_2 ez_2 => ?_)
    have hrm := tl_lremA ez_2 (by omega)
    refine lv_lstore (lv' := [(8, .long z_2), (6, .long v6), (4, .long v4), (0, .long p0), (2, .long p1)]) hx hb dX12_divisor_18 hl (by decide) rfl (fun ls hl => ?_)
    refine lv_lload hx hb dX12_divisor_20 (lv_at hl 1 rfl) ?_
    refine lv_lstore (lv' := [(4, .long v6), (8, .long z_2), (6, .long v6), (0, .long p0), (2, .long p1)]) hx hb dX12_divisor_22 hl (by decide) rfl (fun ls hl => ?_)
    refine lv_lload hx hb dX12_divisor_24 (lv_at hl 1 rfl) ?_
    refine lv_lstore (lv' := [(6, .long z_2), (4, .long v6), (8, .long z_2), (0, .long p0), (2, .long p1)]) hx hb dX12_divisor_26 hl (by decide) rfl (fun ls hl => ?_)
    refine lv_goto (tgt := 6) hx hb dX12_divisor_28 (by decide) ?_
    exact ih6 (z_2, v6) ls (by show z_2.toInt.natAbs < v6.toInt.natAbs; omega) ⟨(show ¬ v6.toInt = 0 ∨ ¬ z_2.toInt = 0 from (by omega)), lv_sub hl [0, 1, 3, 4] rfl⟩
set_option maxHeartbeats 4000000 in
set_option maxRecDepth 100000 in
theorem r_X12_together (l : Launch) (D : va_G) (cy : Nat → ClassId) (sz : Nat) (L : List Nat) (K : Nat → tk_K) (Γ : tk_G) (f : Nat → va_E) (o : Nat) (p0 : Int32) (p1 : Int32) (p2 : Int32) (p3 : Int32) (ho : tp_r L K 39 (0) 0 o) (htx : tx_ok (Γ (43, 8800, 0)) (Γ (45, 1056, 0)) (Γ (46, 22, 0)) (Γ (47, 6, 0)) (Γ (48, 22, 0)) (Γ (49, 22, 0)) (Γ (50, 22, 0)) (Γ (51, 22, 0)) (Γ (42, 3, 0))) (hsd : ts_said (Γ (40, 7666, 0)) (Γ (42, 3, 0) 1)) : Met l yX12_together (tl_w yX12_together cX12_together 10 (some .int)) ({ frames := 8, cells := 0, slots := 0, locals := 199 }) (va_Pc [.ref o, .int p0, .int p1, .int p2, .int p3] (tp_P D cy L K Γ f sz)) (va_Qi (fun (r : Int32) (u : (Nat → va_E) × tk_G) => u.2 (39, 0, 0) 0 = Γ (39, 0, 0) 0) (tp_BG D cy L K Γ f [39, 58, 57, 60, 61, 62, 63, 59, 64, 65, 66]) (tp_A L sz)) 0 0 (tp_A L sz) := by
  refine Met.ofW (cc := cX12_together) (maxL := 10) (ret := (some .int)) (by decide) rfl ?_
  intro p e s m args below meth c s₁ B hml hv
  obtain ⟨rfl, hsz, hP, hK, hL, hI, hN, hU⟩ := hv
  have hx := B.exec
  have hb := B.bytes
  have hr := B.returns
  have hta := tl_hta (atoms_spec (ws := tl_w yX12_together cX12_together 10 (some .int)) B.pre)
  have hown : s.vm.findClass RX12 = some m.cls := findClass_of_methodNamed B.named
  have hlocks := B.notSynchronized
  subst hsz
  have hI0 := hI
  generalize hAe : tp_A L s.heap.size = A
  have hA : ∀ q : Nat, s.heap.size ≤ q → A q := fun q h => by rw [← hAe]; exact Or.inr h
  have hAL : ∀ q ∈ L, A q := fun q h => by rw [← hAe]; exact Or.inl h
  have hAf : ∀ (H : Heap), s.heap.size ≤ H.size → ∀ q, tp_A L H.size q → A q := fun H h q hq => hq.elim (hAL q) (fun h2 => hA q (Nat.le_trans h h2))
  have hS : va_S A s.heap s.heap [] := va_S.rf
  have hD : va_D A (va_pl L f) := tp_D hL hAL
  have hfr : ∀ b, (K b).1 ∉ ([39, 58, 57, 60, 61, 62, 63, 59, 64, 65, 66] : List Nat) → f b = f b := fun _ _ => rfl
  have hgr : ∀ κ : tk_K, κ.1 ∉ ([39, 58, 57, 60, 61, 62, 63, 59, 64, 65, 66] : List Nat) → Γ κ = Γ κ := fun _ _ => rfl
  have hl := lv_entry ([.ref o, .int p0, .int p1, .int p2, .int p3]) (n := 10) (Nat.le_of_ble_eq_true rfl)
  rw [lg_entry_eq]
  generalize (lg_sl ([.ref o, .int p0, .int p1, .int p2, .int p3]) ++ List.replicate (10 - (lg_sl ([.ref o, .int p0, .int p1, .int p2, .int p3])).length) Slot.unset).toArray = ls at hl ⊢
  have hl : lv_has ls 10 [(0, .ref o), (1, .int p0), (2, .int p1), (3, .int p2), (4, .int p3)] := hl
  have hs := ts_hs hsd
  have hraw := ts_raw hsd
  have hslp := ts_slp hsd
  have htb := htx.1
  refine lv_aload_n hx hb dX12_together_0 rfl (lv_at hl 0 rfl) ?_
  refine lv_iconst (v := 1) hx hb dX12_together_1 (by decide) ?_
  refine lv_iload_n hx hb dX12_together_2 rfl (lv_at hl 1 rfl) ?_
  obtain ⟨r_2, v_3, q_4, hf_1, hr_5, hv_6⟩ := (show tp_o_M L K 0 0 (Γ (39, 0, 0)) (f o) from hI.at ho)
  refine tl_si (tq_rV (As := [.int 1, .int p0]) (rest := []) ⟨hx, hb, hml, hown, hta⟩ (tp_P.pre hK hN hL hU hI hP) (tp_recv hK hP ho.1 hf_1 rfl) lk_X12_382 (r_isText_1 l D cy s.heap.size L K Γ f o p0 ho) rfl rfl ⟨Nat.le_of_ble_eq_true rfl, Nat.le_of_ble_eq_true rfl⟩ rfl hl.1 rfl (Nat.le_of_ble_eq_true rfl) dX12_together_3 ⟨Nat.le_of_ble_eq_true rfl, Nat.le_of_ble_eq_true rfl⟩) (fun r_15 hw_14 => ?_)
  have hw_14 : tl_E r_15 (0 ≤ p0.toInt ∧ p0.toInt < Γ (42, 3, 0) 1) 1 0 := hw_14
  refine lv_if_eq (tgt := 41) hx hb dX12_together_6 (by decide) (fun c_16 => ?_) (fun c_16 => ?_)
  · have c_16 := hw_14.f c_16
    refine lv_ldcw (v := (-2000000000)) hx hb hown (hta _ wk_1174) dX12_together_41 ?_
    have hpo9 : Γ (39, 0, 0) 0 = Γ (39, 0, 0) 0 := (by omega)
    exact W.iret (v := (-2000000000)) hx hb hr (fun t ht hW => ⟨⟨_, (f, Γ), rfl, hpo9, by rw [ht]; exact hP, hI, hfr, hgr⟩, hS.F ht⟩) hS.2.2 dX12_together_44
  · have c_16 := hw_14.t c_16
    refine lv_iload_n hx hb dX12_together_9 rfl (lv_at hl 2 rfl) ?_
    refine lv_i2l (v := p1.toInt64) hx hb dX12_together_10 (by first | rfl | decide) ?_
    refine lv_lconst (v := 1) hx hb dX12_together_11 (by decide) ?_
    refine lv_ldc2 (v := 15) hx hb hown (hta _ wk_1173) dX12_together_12 ?_
    refine tl_si (tq_rS (As := [.long p1.toInt64, .long 1, .long 15]) (rest := []) ⟨hx, hb, hml, hown, hta⟩ (tp_P.pre hK hN hL hU hI hP) lk_X12_112 (r_X12_in l D cy s.heap.size L K Γ f p1.toInt64 1 15 ) rfl rfl ⟨Nat.le_of_ble_eq_true rfl, Nat.le_of_ble_eq_true rfl⟩ rfl hl.1 rfl (Nat.le_of_ble_eq_true rfl) dX12_together_15 ⟨Nat.le_of_ble_eq_true rfl, Nat.le_of_ble_eq_true rfl⟩) (fun r_18 hw_17 => ?_)
    simp only [Int32.toInt_toInt64] at hw_17
    have hw_17 : tl_E r_18 ((1 : Int) ≤ p1.toInt ∧ p1.toInt ≤ (15 : Int)) 1 0 := hw_17
    refine lv_if_eq (tgt := 41) hx hb dX12_together_18 (by decide) (fun c_19 => ?_) (fun c_19 => ?_)
    · have c_19 := hw_17.f c_19
      refine lv_ldcw (v := (-2000000000)) hx hb hown (hta _ wk_1174) dX12_together_41 ?_
      have hpo9 : Γ (39, 0, 0) 0 = Γ (39, 0, 0) 0 := (by omega)
      exact W.iret (v := (-2000000000)) hx hb hr (fun t ht hW => ⟨⟨_, (f, Γ), rfl, hpo9, by rw [ht]; exact hP, hI, hfr, hgr⟩, hS.F ht⟩) hS.2.2 dX12_together_44
    · have c_19 := hw_17.t c_19
      refine lv_iload_n hx hb dX12_together_21 rfl (lv_at hl 3 rfl) ?_
      refine tl_si (tq_rS (As := [.int p2]) (rest := []) ⟨hx, hb, hml, hown, hta⟩ (tp_P.pre hK hN hL hU hI hP) lk_X12_496 (r_X12_isWeek l D cy s.heap.size L K Γ f p2 ) rfl rfl ⟨Nat.le_of_ble_eq_true rfl, Nat.le_of_ble_eq_true rfl⟩ rfl hl.1 rfl (Nat.le_of_ble_eq_true rfl) dX12_together_22 ⟨Nat.le_of_ble_eq_true rfl, Nat.le_of_ble_eq_true rfl⟩) (fun r_21 hw_20 => ?_)
      have hw_20 : tl_E r_21 (0 ≤ p2.toInt ∧ p2.toInt ≤ 399) 1 0 := hw_20
      refine lv_if_eq (tgt := 41) hx hb dX12_together_25 (by decide) (fun c_22 => ?_) (fun c_22 => ?_)
      · have c_22 := hw_20.f c_22
        refine lv_ldcw (v := (-2000000000)) hx hb hown (hta _ wk_1174) dX12_together_41 ?_
        have hpo9 : Γ (39, 0, 0) 0 = Γ (39, 0, 0) 0 := (by omega)
        exact W.iret (v := (-2000000000)) hx hb hr (fun t ht hW => ⟨⟨_, (f, Γ), rfl, hpo9, by rw [ht]; exact hP, hI, hfr, hgr⟩, hS.F ht⟩) hS.2.2 dX12_together_44
      · have c_22 := hw_20.t c_22
        refine lv_iload hx hb dX12_together_28 (lv_at hl 4 rfl) ?_
        refine lv_i2l (v := p3.toInt64) hx hb dX12_together_30 (by first | rfl | decide) ?_
        refine lv_lconst (v := 0) hx hb dX12_together_31 (by decide) ?_
        refine lv_ldc2 (v := 2) hx hb hown (hta _ wk_536) dX12_together_32 ?_
        refine tl_si (tq_rS (As := [.long p3.toInt64, .long 0, .long 2]) (rest := []) ⟨hx, hb, hml, hown, hta⟩ (tp_P.pre hK hN hL hU hI hP) lk_X12_112 (r_X12_in l D cy s.heap.size L K Γ f p3.toInt64 0 2 ) rfl rfl ⟨Nat.le_of_ble_eq_true rfl, Nat.le_of_ble_eq_true rfl⟩ rfl hl.1 rfl (Nat.le_of_ble_eq_true rfl) dX12_together_35 ⟨Nat.le_of_ble_eq_true rfl, Nat.le_of_ble_eq_true rfl⟩) (fun r_24 hw_23 => ?_)
        simp only [Int32.toInt_toInt64] at hw_23
        have hw_23 : tl_E r_24 ((0 : Int) ≤ p3.toInt ∧ p3.toInt ≤ (2 : Int)) 1 0 := hw_23
        refine lv_if_ne (tgt := 45) hx hb dX12_together_38 (by decide) (fun c_25 => ?_) (fun c_25 => ?_)
        · have c_25 := hw_23.t c_25
          refine lv_aload_n hx hb dX12_together_45 rfl (lv_at hl 0 rfl) ?_
          refine lv_iload_n hx hb dX12_together_46 rfl (lv_at hl 1 rfl) ?_
          refine tq_cvR hS (hAf _ hS.1) (tq_rV (As := [.int p0]) (rest := []) ⟨hx, hb, hml, hown, hta⟩ (tp_P.pre hK hN hL hU hI hP) (tp_recv hK hP ho.1 hf_1 rfl) lk_X12_500 (r_X12_rows l D cy s.heap.size L K Γ f o p0 ho (by first | omega | (simp only [Int32.toInt_toInt64]; omega) | decide | assumption) (by first | omega | (simp only [Int32.toInt_toInt64]; omega) | decide | assumption) (by first | omega | (simp only [Int32.toInt_toInt64]; omega) | decide | assumption)) rfl rfl ⟨Nat.le_of_ble_eq_true rfl, Nat.le_of_ble_eq_true rfl⟩ rfl hl.1 rfl (Nat.le_of_ble_eq_true rfl) dX12_together_47 ⟨Nat.le_of_ble_eq_true rfl, Nat.le_of_ble_eq_true rfl⟩) (fun f_28 Γ_30 H locs hw_26 hP hI hc_29 hcg_31 hS => ?_)
          have hD : va_D A (va_pl L f_28) := tp_D hL hAL
          have hfr := tp_fr2 hfr hc_29 (by decide)
          have hgr : ∀ κ : tk_K, κ.1 ∉ ([39, 58, 57, 60, 61, 62, 63, 59, 64, 65, 66] : List Nat) → Γ_30 κ = Γ κ := tg_fr2 hgr hcg_31 (by decide)
          have hw_26 : Γ_30 (39, 0, 0) 0 = Γ (39, 0, 0) 0 := hw_26
          refine lv_lconst (v := 0) hx hb dX12_together_50 (by decide) ?_
          refine lv_lstore (lv' := [(5, .long 0), (0, .ref o), (1, .int p0), (2, .int p1), (3, .int p2), (4, .int p3)]) hx hb dX12_together_51 hl (by decide) rfl (fun ls hl => ?_)
          refine lv_iconst (v := 0) hx hb dX12_together_53 (by decide) ?_
          refine lv_istore (lv' := [(7, .int 0), (5, .long 0), (0, .ref o), (1, .int p0), (2, .int p1), (3, .int p2), (4, .int p3)]) hx hb dX12_together_54 hl (by decide) rfl (fun ls hl => ?_)
          refine lv_iconst (v := 0) hx hb dX12_together_56 (by decide) ?_
          refine lv_istore (lv' := [(8, .int 0), (7, .int 0), (5, .long 0), (0, .ref o), (1, .int p0), (2, .int p1), (3, .int p2), (4, .int p3)]) hx hb dX12_together_57 hl (by decide) rfl (fun ls hl => ?_)
          refine tl_ind (G := fun H locs ls => W p l e ((headSpec (tl_w yX12_together cX12_together 10 (some .int)) ({ frames := 8, cells := 0, slots := 0, locals := 199 })).room) s m #[.ref o, .int p0, .int p1, .int p2, .int p3] below meth c H locs 0 0 (MQ below (va_Qi (fun (r : Int32) (u : (Nat → va_E) × tk_G) => u.2 (39, 0, 0) 0 = Γ (39, 0, 0) 0) (tp_BG D cy L K Γ f [39, 58, 57, 60, 61, 62, 63, 59, 64, 65, 66]) A) #[.ref o, .int p0, .int p1, .int p2, .int p3] s 0 0 A) (F0 m 59 ls [])) (α := (Nat → va_E) × Int32 × Int32 × Int64) (fun aq => (24 - aq.2.1.toInt).toNat) (fun aq H locs ls => (0 ≤ aq.2.1.toInt ∧ 0 ≤ aq.2.2.1.toInt ∧ aq.2.2.1.toInt ≤ aq.2.1.toInt) ∧ va_P D vwCl (va_pl L aq.1) H ∧ tp_I cy L K Γ_30 aq.1 ∧ (∀ b, (K b).1 ∉ ([39, 58, 57, 60, 61, 62, 63, 59, 64, 65, 66] : List Nat) → aq.1 b = f b) ∧ va_S A s.heap H locs ∧ lv_has ls 10 [(8, .int aq.2.1), (7, .int aq.2.2.1), (5, .long aq.2.2.2), (0, .ref o), (1, .int p0), (2, .int p1), (3, .int p2), (4, .int p3)]) ?_ (f_28, (0 : Int32), (0 : Int32), (0 : Int64)) H locs ls ⟨(show 0 ≤ (0 : Int) ∧ 0 ≤ (0 : Int) ∧ (0 : Int) ≤ (0 : Int) from (by omega)), hP, hI, hfr, hS, lv_sub hl [0, 1, 2, 3, 4, 5, 6, 7] rfl⟩
          rintro ⟨f_32, v8, v7, v5⟩ H locs ls ⟨hr8, hP, hI, hfr, hS, hl⟩ ih59
          have hP : va_P D vwCl (va_pl L f_32) H := hP
          have hI : tp_I cy L K Γ_30 f_32 := hI
          have hfr : ∀ b, (K b).1 ∉ ([39, 58, 57, 60, 61, 62, 63, 59, 64, 65, 66] : List Nat) → f_32 b = f b := hfr
          have hD : va_D A (va_pl L f_32) := tp_D hL hAL
          have hr8 : 0 ≤ v8.toInt ∧ 0 ≤ v7.toInt ∧ v7.toInt ≤ v8.toInt := hr8
          have hl : lv_has ls 10 [(8, .int v8), (7, .int v7), (5, .long v5), (0, .ref o), (1, .int p0), (2, .int p1), (3, .int p2), (4, .int p3)] := hl
          refine lv_iload hx hb dX12_together_59 (lv_at hl 0 rfl) ?_
          refine lv_aload_n hx hb dX12_together_61 rfl (lv_at hl 3 rfl) ?_
          obtain ⟨r_34, v_35, q_36, hf_33, hr_37, hv_38⟩ := (show tp_o_M L K 0 0 (Γ_30 (39, 0, 0)) (f_32 o) from hI.at ho)
          refine tp_get (cy := cy) (ci := 12) (v := .ref (r_34 0)) (C := RX12) (T := TX12) (N := 49) hx hb hta inlX12 hown hK hP ho.1 hf_33 rfl 0 (by decide) (hta _ wk_149) (fun _ h9 => h9) rfl dX12_together_62 ?_
          refine lv_iconst (v := 1) hx hb dX12_together_65 (by decide) ?_
          obtain ⟨g_47, hf_46, hg_48⟩ := (show tp_gi cy (7666) (Γ (40, 7666, 0)) (f (r_34 0)) from hI0.at (show tp_r L K 40 7666 0 (r_34 0) from hr_37 0 (by decide)))
          have hn_49 : vp_in 1 (7666) := tl_in (by decide) (by decide)
          refine tp_iald (cy := cy) hx hb hK hP (show tp_r L K 40 7666 0 (r_34 0) from hr_37 0 (by decide)).1 ((tp_un hfr (show tp_r L K 40 7666 0 (r_34 0) from hr_37 0 (by decide)) (by decide)).trans hf_46) hn_49 dX12_together_66 ?_
          refine lv_topi (fun z_50 ez_50 => ?_)
          have iz_50 : z_50.toInt = Γ (40, 7666, 0) 1 := by rw [ez_50]; exact hg_48 _ (tp_pin hn_49)
          refine lv_icmp_ge (tgt := 128) hx hb dX12_together_67 (by decide) (fun c_51 => ?_) (fun c_51 => ?_)
          · have c_51 : z_50.toInt ≤ v8.toInt := tl_le c_51
            refine lv_iload hx hb dX12_together_128 (lv_at hl 7 rfl) ?_
            refine lv_iconst (v := 2) hx hb dX12_together_130 (by decide) ?_
            refine lv_icmp_eq (tgt := 139) hx hb dX12_together_131 (by decide) (fun c_52 => ?_) (fun c_52 => ?_)
            · have c_52 : p3.toInt = (2 : Int) := tl_eq c_52
              refine lv_iload hx hb dX12_together_139 (lv_at hl 1 rfl) ?_
              have hpo9 : Γ_30 (39, 0, 0) 0 = Γ (39, 0, 0) 0 := (by omega)
              exact W.iret (v := v7) hx hb hr (fun t ht hW => ⟨⟨_, (f_32, Γ_30), rfl, hpo9, by rw [ht]; exact hP, hI, hfr, hgr⟩, hS.F ht⟩) hS.2.2 dX12_together_141
            · have c_52 : ¬ p3.toInt = (2 : Int) := tl_neq c_52
              refine lv_iload hx hb dX12_together_134 (lv_at hl 1 rfl) ?_
              refine lv_if_ne (tgt := 142) hx hb dX12_together_136 (by decide) (fun c_53 => ?_) (fun c_53 => ?_)
              · have c_53 : ¬ v7.toInt = (0 : Int) := tl_neq c_53
                refine lv_lload hx hb dX12_together_142 (lv_at hl 2 rfl) ?_
                refine tl_sl (tq_rS (As := [.long v5]) (rest := []) ⟨hx, hb, hml, hown, hta⟩ (tp_P.pre hK hN hL hU hI hP) lk_X12_414 (r_X12_size l D cy H.size L K Γ_30 f_32 v5 ) rfl rfl ⟨Nat.le_of_ble_eq_true rfl, Nat.le_of_ble_eq_true rfl⟩ rfl hl.1 rfl (Nat.le_of_ble_eq_true rfl) dX12_together_144 ⟨Nat.le_of_ble_eq_true rfl, Nat.le_of_ble_eq_true rfl⟩) (fun r_55 hw_54 => ?_)
                refine lv_iload hx hb dX12_together_147 (lv_at hl 1 rfl) ?_
                refine lv_i2l (v := v7.toInt64) hx hb dX12_together_149 (by first | rfl | decide) ?_
                refine tl_sl (tq_rS (As := [.long r_55, .long v7.toInt64]) (rest := []) ⟨hx, hb, hml, hown, hta⟩ (tp_P.pre hK hN hL hU hI hP) lk_X12_506 (r_X12_divisor l D cy H.size L K Γ_30 f_32 r_55 v7.toInt64 (by first | omega | (simp only [Int32.toInt_toInt64]; omega) | decide | assumption)) rfl rfl ⟨Nat.le_of_ble_eq_true rfl, Nat.le_of_ble_eq_true rfl⟩ rfl hl.1 rfl (Nat.le_of_ble_eq_true rfl) dX12_together_150 ⟨Nat.le_of_ble_eq_true rfl, Nat.le_of_ble_eq_true rfl⟩) (fun r_57 hw_56 => ?_)
                have hw_56 : ¬ r_57.toInt = 0 := hw_56
                refine lv_lstore (lv' := [(8, .long r_57), (7, .int v7), (5, .long v5), (0, .ref o), (1, .int p0), (2, .int p1), (3, .int p2), (4, .int p3)]) hx hb dX12_together_153 hl (by decide) rfl (fun ls hl => ?_)
                refine lv_iload hx hb dX12_together_155 (lv_at hl 7 rfl) ?_
                refine lv_if_ne (tgt := 168) hx hb dX12_together_157 (by decide) (fun c_58 => ?_) (fun c_58 => ?_)
                · have c_58 : ¬ p3.toInt = (0 : Int) := tl_neq c_58
                  refine lv_iload hx hb dX12_together_168 (lv_at hl 1 rfl) ?_
                  refine lv_i2l (v := v7.toInt64) hx hb dX12_together_170 (by first | rfl | decide) ?_
                  refine lv_lload hx hb dX12_together_171 (lv_at hl 0 rfl) ?_
                  refine lv_ldiv hx hb dX12_together_173 (tl_ne0L (by omega)) ?_
                  refine lv_topl (fun z_59 ez_59 => ?_)
                  refine lv_l2i hx hb dX12_together_174 rfl ?_
                  refine lv_topi (fun z_60 ez_60 => ?_)
                  have hpo9 : Γ_30 (39, 0, 0) 0 = Γ (39, 0, 0) 0 := (by omega)
                  exact W.iret (v := z_60) hx hb hr (fun t ht hW => ⟨⟨_, (f_32, Γ_30), rfl, hpo9, by rw [ht]; exact hP, hI, hfr, hgr⟩, hS.F ht⟩) hS.2.2 dX12_together_175
                · have c_58 : p3.toInt = (0 : Int) := tl_eq c_58
                  refine lv_lload hx hb dX12_together_160 (lv_at hl 2 rfl) ?_
                  refine lv_lload hx hb dX12_together_162 (lv_at hl 0 rfl) ?_
                  refine lv_ldiv hx hb dX12_together_164 (tl_ne0L (by omega)) ?_
                  refine lv_topl (fun z_61 ez_61 => ?_)
                  refine lv_goto (tgt := 174) hx hb dX12_together_165 (by decide) ?_
                  refine lv_l2i hx hb dX12_together_174 rfl ?_
                  refine lv_topi (fun z_62 ez_62 => ?_)
                  have hpo9 : Γ_30 (39, 0, 0) 0 = Γ (39, 0, 0) 0 := (by omega)
                  exact W.iret (v := z_62) hx hb hr (fun t ht hW => ⟨⟨_, (f_32, Γ_30), rfl, hpo9, by rw [ht]; exact hP, hI, hfr, hgr⟩, hS.F ht⟩) hS.2.2 dX12_together_175
              · have c_53 : v7.toInt = (0 : Int) := tl_eq c_53
                refine lv_iload hx hb dX12_together_139 (lv_at hl 1 rfl) ?_
                have hpo9 : Γ_30 (39, 0, 0) 0 = Γ (39, 0, 0) 0 := (by omega)
                exact W.iret (v := v7) hx hb hr (fun t ht hW => ⟨⟨_, (f_32, Γ_30), rfl, hpo9, by rw [ht]; exact hP, hI, hfr, hgr⟩, hS.F ht⟩) hS.2.2 dX12_together_141
          · have c_51 : v8.toInt < z_50.toInt := tl_nle c_51
            refine lv_aload_n hx hb dX12_together_70 rfl (lv_at hl 3 rfl) ?_
            refine lv_iload hx hb dX12_together_71 (lv_at hl 0 rfl) ?_
            refine lv_iload_n hx hb dX12_together_73 rfl (lv_at hl 6 rfl) ?_
            refine tl_si (tq_rV (As := [.int v8, .int p2]) (rest := []) ⟨hx, hb, hml, hown, hta⟩ (tp_P.pre hK hN hL hU hI hP) (tp_recv hK hP ho.1 hf_33 rfl) lk_X12_503 (r_X12_isKnown l D cy H.size L K Γ_30 f_32 o v8 p2 ho (by first | omega | (simp only [Int32.toInt_toInt64]; omega) | decide | assumption)) rfl rfl ⟨Nat.le_of_ble_eq_true rfl, Nat.le_of_ble_eq_true rfl⟩ rfl hl.1 rfl (Nat.le_of_ble_eq_true rfl) dX12_together_74 ⟨Nat.le_of_ble_eq_true rfl, Nat.le_of_ble_eq_true rfl⟩) (fun r_64 hw_63 => ?_)
            have hw_63 : tl_J r_64 (True) := hw_63
            refine lv_if_eq (tgt := 122) hx hb dX12_together_77 (by decide) (fun c_65 => ?_) (fun c_65 => ?_)
            · have c_65 := c_65
              obtain ⟨z_66, ez_66⟩ : ∃ y : Int32, y = v8 + 1 := ⟨_, rfl⟩
              refine lv_iinc (v := z_66) (lv' := [(8, .int z_66), (7, .int v7), (5, .long v5), (0, .ref o), (1, .int p0), (2, .int p1), (3, .int p2), (4, .int p3)]) hx hb dX12_together_122 hl (k := 0) rfl (by rw [ez_66]; rfl) (by decide) rfl (fun ls hl => ?_)
              try have iz_66 : z_66.toInt = v8.toInt + 1 := by rw [ez_66]; exact tl_addL v8 1 (by decide) (by omega) (by omega)
              refine lv_goto (tgt := 59) hx hb dX12_together_125 (by decide) ?_
              exact ih59 (f_32, z_66, v7, v5) H locs ls (by show (24 - z_66.toInt).toNat < (24 - v8.toInt).toNat; omega) ⟨(show 0 ≤ z_66.toInt ∧ 0 ≤ v7.toInt ∧ v7.toInt ≤ z_66.toInt from (by omega)), hP, hI, hfr, hS, lv_sub hl [0, 1, 2, 3, 4, 5, 6, 7] rfl⟩
            · have c_65 := hw_63.t c_65
              refine lv_aload_n hx hb dX12_together_80 rfl (lv_at hl 3 rfl) ?_
              refine tp_get (cy := cy) (ci := 12) (v := .ref (r_34 25)) (C := RX12) (T := TX12) (N := 49) hx hb hta inlX12 hown hK hP ho.1 hf_33 rfl 42 (by decide) (hta _ wk_175) (fun _ h9 => h9) rfl dX12_together_81 ?_
              refine lv_iload hx hb dX12_together_84 (lv_at hl 0 rfl) ?_
              obtain ⟨g_68, hf_67⟩ := (show tp_az cy (24) (f_32 (r_34 25)) from hI.at (show tp_r L K 65 24 0 (r_34 25) from hr_37 25 (by decide)))
              have hn_70 : vp_in v8 (24) := tl_in (by omega) (by omega)
              refine tp_zald (cy := cy) hx hb hK hP (show tp_r L K 65 24 0 (r_34 25) from hr_37 25 (by decide)).1 hf_67 hn_70 dX12_together_86 ?_
              refine lv_topi (fun z_71 ez_71 => ?_)
              refine lv_if_eq (tgt := 122) hx hb dX12_together_87 (by decide) (fun c_72 => ?_) (fun c_72 => ?_)
              · have c_72 : z_71.toInt = (0 : Int) := tl_eq c_72
                obtain ⟨z_73, ez_73⟩ : ∃ y : Int32, y = v8 + 1 := ⟨_, rfl⟩
                refine lv_iinc (v := z_73) (lv' := [(8, .int z_73), (7, .int v7), (5, .long v5), (0, .ref o), (1, .int p0), (2, .int p1), (3, .int p2), (4, .int p3)]) hx hb dX12_together_122 hl (k := 0) rfl (by rw [ez_73]; rfl) (by decide) rfl (fun ls hl => ?_)
                try have iz_73 : z_73.toInt = v8.toInt + 1 := by rw [ez_73]; exact tl_addL v8 1 (by decide) (by omega) (by omega)
                refine lv_goto (tgt := 59) hx hb dX12_together_125 (by decide) ?_
                exact ih59 (f_32, z_73, v7, v5) H locs ls (by show (24 - z_73.toInt).toNat < (24 - v8.toInt).toNat; omega) ⟨(show 0 ≤ z_73.toInt ∧ 0 ≤ v7.toInt ∧ v7.toInt ≤ z_73.toInt from (by omega)), hP, hI, hfr, hS, lv_sub hl [0, 1, 2, 3, 4, 5, 6, 7] rfl⟩
              · have c_72 : ¬ z_71.toInt = (0 : Int) := tl_neq c_72
                refine lv_iload_n hx hb dX12_together_90 rfl (lv_at hl 5 rfl) ?_
                refine lv_aload_n hx hb dX12_together_91 rfl (lv_at hl 3 rfl) ?_
                refine lv_iload hx hb dX12_together_92 (lv_at hl 0 rfl) ?_
                refine lv_iconst (v := 0) hx hb dX12_together_94 (by decide) ?_
                refine tl_si (tq_rV (As := [.int v8, .int 0]) (rest := [.int p1]) ⟨hx, hb, hml, hown, hta⟩ (tp_P.pre hK hN hL hU hI hP) (tp_recv hK hP ho.1 hf_33 rfl) lk_X12_132 (r_X12_rowOf l D cy H.size L K Γ_30 f_32 o v8 0 ho (by first | omega | (simp only [Int32.toInt_toInt64]; omega) | decide | assumption) (by first | omega | (simp only [Int32.toInt_toInt64]; omega) | decide | assumption)) rfl rfl ⟨Nat.le_of_ble_eq_true rfl, Nat.le_of_ble_eq_true rfl⟩ rfl hl.1 rfl (Nat.le_of_ble_eq_true rfl) dX12_together_95 ⟨Nat.le_of_ble_eq_true rfl, Nat.le_of_ble_eq_true rfl⟩) (fun r_75 hw_74 => ?_)
                have hw_74 : r_75.toInt = Γ_30 (40, 7666, 0) (9 + 3 * v8.toInt + (0 : Int)).toNat := hw_74
                have hglr_75 : 0 ≤ r_75.toInt ∧ r_75.toInt ≤ 3 := by have q9 := ts_gl hsd v8.toInt.toNat (by omega); rw [show Γ (40, 7666, 0) (9 + 3 * v8.toInt.toNat) = r_75.toInt from (((hw_74.trans (congrFun (hgr (40, 7666, 0) (by decide)) _))).trans (congrArg _ (by omega))).symm] at q9; exact q9
                refine lv_ishr hx hb dX12_together_98 ?_
                refine lv_topi (fun z_76 ez_76 => ?_)
                refine lv_iconst (v := 1) hx hb dX12_together_99 (by decide) ?_
                refine lv_iand hx hb dX12_together_100 ?_
                refine lv_topi (fun z_77 ez_77 => ?_)
                refine lv_if_ne (tgt := 107) hx hb dX12_together_101 (by decide) (fun c_78 => ?_) (fun c_78 => ?_)
                · have c_78 : ¬ z_77.toInt = (0 : Int) := tl_neq c_78
                  refine lv_lload hx hb dX12_together_107 (lv_at hl 2 rfl) ?_
                  refine lv_aload_n hx hb dX12_together_109 rfl (lv_at hl 3 rfl) ?_
                  refine tp_get (cy := cy) (ci := 12) (v := .ref (r_34 24)) (C := RX12) (T := TX12) (N := 49) hx hb hta inlX12 hown hK hP ho.1 hf_33 rfl 41 (by decide) (hta _ wk_174) (fun _ h9 => h9) rfl dX12_together_110 ?_
                  refine lv_iload hx hb dX12_together_113 (lv_at hl 0 rfl) ?_
                  obtain ⟨g_80, hf_79⟩ := (show tp_aj cy (24) (f_32 (r_34 24)) from hI.at (show tp_r L K 64 24 0 (r_34 24) from hr_37 24 (by decide)))
                  have hn_82 : vp_in v8 (24) := tl_in (by omega) (by omega)
                  refine tp_lald (cy := cy) hx hb hK hP (show tp_r L K 64 24 0 (r_34 24) from hr_37 24 (by decide)).1 hf_79 hn_82 dX12_together_115 ?_
                  refine lv_topl (fun z_83 ez_83 => ?_)
                  refine lv_ladd hx hb dX12_together_116 ?_
                  refine lv_topl (fun z_84 ez_84 => ?_)
                  refine lv_lstore (lv' := [(5, .long z_84), (8, .int v8), (7, .int v7), (0, .ref o), (1, .int p0), (2, .int p1), (3, .int p2), (4, .int p3)]) hx hb dX12_together_117 hl (by decide) rfl (fun ls hl => ?_)
                  obtain ⟨z_85, ez_85⟩ : ∃ y : Int32, y = v7 + 1 := ⟨_, rfl⟩
                  refine lv_iinc (v := z_85) (lv' := [(7, .int z_85), (5, .long z_84), (8, .int v8), (0, .ref o), (1, .int p0), (2, .int p1), (3, .int p2), (4, .int p3)]) hx hb dX12_together_119 hl (k := 2) rfl (by rw [ez_85]; rfl) (by decide) rfl (fun ls hl => ?_)
                  try have iz_85 : z_85.toInt = v7.toInt + 1 := by rw [ez_85]; exact tl_addL v7 1 (by decide) (by omega) (by omega)
                  obtain ⟨z_86, ez_86⟩ : ∃ y : Int32, y = v8 + 1 := ⟨_, rfl⟩
                  refine lv_iinc (v := z_86) (lv' := [(8, .int z_86), (7, .int z_85), (5, .long z_84), (0, .ref o), (1, .int p0), (2, .int p1), (3, .int p2), (4, .int p3)]) hx hb dX12_together_122 hl (k := 2) rfl (by rw [ez_86]; rfl) (by decide) rfl (fun ls hl => ?_)
                  try have iz_86 : z_86.toInt = v8.toInt + 1 := by rw [ez_86]; exact tl_addL v8 1 (by decide) (by omega) (by omega)
                  refine lv_goto (tgt := 59) hx hb dX12_together_125 (by decide) ?_
                  exact ih59 (f_32, z_86, z_85, z_84) H locs ls (by show (24 - z_86.toInt).toNat < (24 - v8.toInt).toNat; omega) ⟨(show 0 ≤ z_86.toInt ∧ 0 ≤ z_85.toInt ∧ z_85.toInt ≤ z_86.toInt from (by omega)), hP, hI, hfr, hS, lv_sub hl [0, 1, 2, 3, 4, 5, 6, 7] rfl⟩
                · have c_78 : z_77.toInt = (0 : Int) := tl_eq c_78
                  refine lv_goto (tgt := 122) hx hb dX12_together_104 (by decide) ?_
                  obtain ⟨z_87, ez_87⟩ : ∃ y : Int32, y = v8 + 1 := ⟨_, rfl⟩
                  refine lv_iinc (v := z_87) (lv' := [(8, .int z_87), (7, .int v7), (5, .long v5), (0, .ref o), (1, .int p0), (2, .int p1), (3, .int p2), (4, .int p3)]) hx hb dX12_together_122 hl (k := 0) rfl (by rw [ez_87]; rfl) (by decide) rfl (fun ls hl => ?_)
                  try have iz_87 : z_87.toInt = v8.toInt + 1 := by rw [ez_87]; exact tl_addL v8 1 (by decide) (by omega) (by omega)
                  refine lv_goto (tgt := 59) hx hb dX12_together_125 (by decide) ?_
                  exact ih59 (f_32, z_87, v7, v5) H locs ls (by show (24 - z_87.toInt).toNat < (24 - v8.toInt).toNat; omega) ⟨(show 0 ≤ z_87.toInt ∧ 0 ≤ v7.toInt ∧ v7.toInt ≤ z_87.toInt from (by omega)), hP, hI, hfr, hS, lv_sub hl [0, 1, 2, 3, 4, 5, 6, 7] rfl⟩
        · have c_25 := hw_23.f c_25
          refine lv_ldcw (v := (-2000000000)) hx hb hown (hta _ wk_1174) dX12_together_41 ?_
          have hpo9 : Γ (39, 0, 0) 0 = Γ (39, 0, 0) 0 := (by omega)
          exact W.iret (v := (-2000000000)) hx hb hr (fun t ht hW => ⟨⟨_, (f, Γ), rfl, hpo9, by rw [ht]; exact hP, hI, hfr, hgr⟩, hS.F ht⟩) hS.2.2 dX12_together_44
set_option maxHeartbeats 4000000 in
set_option maxRecDepth 100000 in
theorem r_X12_hour (l : Launch) (D : va_G) (cy : Nat → ClassId) (sz : Nat) (L : List Nat) (K : Nat → tk_K) (Γ : tk_G) (f : Nat → va_E) (o : Nat) (p0 : Int32) (p1 : Int32) (p2 : Int32) (ho : tp_r L K 39 (0) 0 o) (htx : tx_ok (Γ (43, 8800, 0)) (Γ (45, 1056, 0)) (Γ (46, 22, 0)) (Γ (47, 6, 0)) (Γ (48, 22, 0)) (Γ (49, 22, 0)) (Γ (50, 22, 0)) (Γ (51, 22, 0)) (Γ (42, 3, 0))) (hsd : ts_said (Γ (40, 7666, 0)) (Γ (42, 3, 0) 1)) : Met l yX12_hour (tl_w yX12_hour cX12_hour 9 (some .int)) ({ frames := 8, cells := 0, slots := 0, locals := 199 }) (va_Pc [.ref o, .int p0, .int p1, .int p2] (tp_P D cy L K Γ f sz)) (va_Qi (fun (r : Int32) (u : (Nat → va_E) × tk_G) => u.2 (39, 0, 0) 0 = Γ (39, 0, 0) 0) (tp_BG D cy L K Γ f [39, 58, 57, 60, 61, 62, 63, 59, 64, 65, 66]) (tp_A L sz)) 0 0 (tp_A L sz) := by
  refine Met.ofW (cc := cX12_hour) (maxL := 9) (ret := (some .int)) (by decide) rfl ?_
  intro p e s m args below meth c s₁ B hml hv
  obtain ⟨rfl, hsz, hP, hK, hL, hI, hN, hU⟩ := hv
  have hx := B.exec
  have hb := B.bytes
  have hr := B.returns
  have hta := tl_hta (atoms_spec (ws := tl_w yX12_hour cX12_hour 9 (some .int)) B.pre)
  have hown : s.vm.findClass RX12 = some m.cls := findClass_of_methodNamed B.named
  have hlocks := B.notSynchronized
  subst hsz
  have hI0 := hI
  generalize hAe : tp_A L s.heap.size = A
  have hA : ∀ q : Nat, s.heap.size ≤ q → A q := fun q h => by rw [← hAe]; exact Or.inr h
  have hAL : ∀ q ∈ L, A q := fun q h => by rw [← hAe]; exact Or.inl h
  have hAf : ∀ (H : Heap), s.heap.size ≤ H.size → ∀ q, tp_A L H.size q → A q := fun H h q hq => hq.elim (hAL q) (fun h2 => hA q (Nat.le_trans h h2))
  have hS : va_S A s.heap s.heap [] := va_S.rf
  have hD : va_D A (va_pl L f) := tp_D hL hAL
  have hfr : ∀ b, (K b).1 ∉ ([39, 58, 57, 60, 61, 62, 63, 59, 64, 65, 66] : List Nat) → f b = f b := fun _ _ => rfl
  have hgr : ∀ κ : tk_K, κ.1 ∉ ([39, 58, 57, 60, 61, 62, 63, 59, 64, 65, 66] : List Nat) → Γ κ = Γ κ := fun _ _ => rfl
  have hl := lv_entry ([.ref o, .int p0, .int p1, .int p2]) (n := 9) (Nat.le_of_ble_eq_true rfl)
  rw [lg_entry_eq]
  generalize (lg_sl ([.ref o, .int p0, .int p1, .int p2]) ++ List.replicate (9 - (lg_sl ([.ref o, .int p0, .int p1, .int p2])).length) Slot.unset).toArray = ls at hl ⊢
  have hl : lv_has ls 9 [(0, .ref o), (1, .int p0), (2, .int p1), (3, .int p2)] := hl
  have hs := ts_hs hsd
  have hraw := ts_raw hsd
  have hslp := ts_slp hsd
  have htb := htx.1
  refine lv_aload_n hx hb dX12_hour_0 rfl (lv_at hl 0 rfl) ?_
  refine lv_iconst (v := 1) hx hb dX12_hour_1 (by decide) ?_
  refine lv_iload_n hx hb dX12_hour_2 rfl (lv_at hl 1 rfl) ?_
  obtain ⟨r_2, v_3, q_4, hf_1, hr_5, hv_6⟩ := (show tp_o_M L K 0 0 (Γ (39, 0, 0)) (f o) from hI.at ho)
  refine tl_si (tq_rV (As := [.int 1, .int p0]) (rest := []) ⟨hx, hb, hml, hown, hta⟩ (tp_P.pre hK hN hL hU hI hP) (tp_recv hK hP ho.1 hf_1 rfl) lk_X12_382 (r_isText_1 l D cy s.heap.size L K Γ f o p0 ho) rfl rfl ⟨Nat.le_of_ble_eq_true rfl, Nat.le_of_ble_eq_true rfl⟩ rfl hl.1 rfl (Nat.le_of_ble_eq_true rfl) dX12_hour_3 ⟨Nat.le_of_ble_eq_true rfl, Nat.le_of_ble_eq_true rfl⟩) (fun r_15 hw_14 => ?_)
  have hw_14 : tl_E r_15 (0 ≤ p0.toInt ∧ p0.toInt < Γ (42, 3, 0) 1) 1 0 := hw_14
  refine lv_if_eq (tgt := 26) hx hb dX12_hour_6 (by decide) (fun c_16 => ?_) (fun c_16 => ?_)
  · have c_16 := hw_14.f c_16
    refine lv_iconst (v := (-1)) hx hb dX12_hour_26 (by decide) ?_
    have hpo9 : Γ (39, 0, 0) 0 = Γ (39, 0, 0) 0 := (by omega)
    exact W.iret (v := (-1)) hx hb hr (fun t ht hW => ⟨⟨_, (f, Γ), rfl, hpo9, by rw [ht]; exact hP, hI, hfr, hgr⟩, hS.F ht⟩) hS.2.2 dX12_hour_27
  · have c_16 := hw_14.t c_16
    refine lv_iload_n hx hb dX12_hour_9 rfl (lv_at hl 2 rfl) ?_
    refine tl_si (tq_rS (As := [.int p1]) (rest := []) ⟨hx, hb, hml, hown, hta⟩ (tp_P.pre hK hN hL hU hI hP) lk_X12_496 (r_X12_isWeek l D cy s.heap.size L K Γ f p1 ) rfl rfl ⟨Nat.le_of_ble_eq_true rfl, Nat.le_of_ble_eq_true rfl⟩ rfl hl.1 rfl (Nat.le_of_ble_eq_true rfl) dX12_hour_10 ⟨Nat.le_of_ble_eq_true rfl, Nat.le_of_ble_eq_true rfl⟩) (fun r_18 hw_17 => ?_)
    have hw_17 : tl_E r_18 (0 ≤ p1.toInt ∧ p1.toInt ≤ 399) 1 0 := hw_17
    refine lv_if_eq (tgt := 26) hx hb dX12_hour_13 (by decide) (fun c_19 => ?_) (fun c_19 => ?_)
    · have c_19 := hw_17.f c_19
      refine lv_iconst (v := (-1)) hx hb dX12_hour_26 (by decide) ?_
      have hpo9 : Γ (39, 0, 0) 0 = Γ (39, 0, 0) 0 := (by omega)
      exact W.iret (v := (-1)) hx hb hr (fun t ht hW => ⟨⟨_, (f, Γ), rfl, hpo9, by rw [ht]; exact hP, hI, hfr, hgr⟩, hS.F ht⟩) hS.2.2 dX12_hour_27
    · have c_19 := hw_17.t c_19
      refine lv_iload_n hx hb dX12_hour_16 rfl (lv_at hl 3 rfl) ?_
      refine lv_i2l (v := p2.toInt64) hx hb dX12_hour_17 (by first | rfl | decide) ?_
      refine lv_lconst (v := 0) hx hb dX12_hour_18 (by decide) ?_
      refine lv_lconst (v := 1) hx hb dX12_hour_19 (by decide) ?_
      refine tl_si (tq_rS (As := [.long p2.toInt64, .long 0, .long 1]) (rest := []) ⟨hx, hb, hml, hown, hta⟩ (tp_P.pre hK hN hL hU hI hP) lk_X12_112 (r_X12_in l D cy s.heap.size L K Γ f p2.toInt64 0 1 ) rfl rfl ⟨Nat.le_of_ble_eq_true rfl, Nat.le_of_ble_eq_true rfl⟩ rfl hl.1 rfl (Nat.le_of_ble_eq_true rfl) dX12_hour_20 ⟨Nat.le_of_ble_eq_true rfl, Nat.le_of_ble_eq_true rfl⟩) (fun r_21 hw_20 => ?_)
      simp only [Int32.toInt_toInt64] at hw_20
      have hw_20 : tl_E r_21 ((0 : Int) ≤ p2.toInt ∧ p2.toInt ≤ (1 : Int)) 1 0 := hw_20
      refine lv_if_ne (tgt := 28) hx hb dX12_hour_23 (by decide) (fun c_22 => ?_) (fun c_22 => ?_)
      · have c_22 := hw_20.t c_22
        refine lv_aload_n hx hb dX12_hour_28 rfl (lv_at hl 0 rfl) ?_
        refine lv_iload_n hx hb dX12_hour_29 rfl (lv_at hl 1 rfl) ?_
        refine tq_cvR hS (hAf _ hS.1) (tq_rV (As := [.int p0]) (rest := []) ⟨hx, hb, hml, hown, hta⟩ (tp_P.pre hK hN hL hU hI hP) (tp_recv hK hP ho.1 hf_1 rfl) lk_X12_500 (r_X12_rows l D cy s.heap.size L K Γ f o p0 ho (by first | omega | (simp only [Int32.toInt_toInt64]; omega) | decide | assumption) (by first | omega | (simp only [Int32.toInt_toInt64]; omega) | decide | assumption) (by first | omega | (simp only [Int32.toInt_toInt64]; omega) | decide | assumption)) rfl rfl ⟨Nat.le_of_ble_eq_true rfl, Nat.le_of_ble_eq_true rfl⟩ rfl hl.1 rfl (Nat.le_of_ble_eq_true rfl) dX12_hour_30 ⟨Nat.le_of_ble_eq_true rfl, Nat.le_of_ble_eq_true rfl⟩) (fun f_25 Γ_27 H locs hw_23 hP hI hc_26 hcg_28 hS => ?_)
        have hD : va_D A (va_pl L f_25) := tp_D hL hAL
        have hfr := tp_fr2 hfr hc_26 (by decide)
        have hgr : ∀ κ : tk_K, κ.1 ∉ ([39, 58, 57, 60, 61, 62, 63, 59, 64, 65, 66] : List Nat) → Γ_27 κ = Γ κ := tg_fr2 hgr hcg_28 (by decide)
        have hw_23 : Γ_27 (39, 0, 0) 0 = Γ (39, 0, 0) 0 := hw_23
        refine lv_iconst (v := 0) hx hb dX12_hour_33 (by decide) ?_
        refine lv_istore (lv' := [(4, .int 0), (0, .ref o), (1, .int p0), (2, .int p1), (3, .int p2)]) hx hb dX12_hour_34 hl (by decide) rfl (fun ls hl => ?_)
        refine lv_lconst (v := 0) hx hb dX12_hour_36 (by decide) ?_
        refine lv_lstore (lv' := [(5, .long 0), (4, .int 0), (0, .ref o), (1, .int p0), (2, .int p1), (3, .int p2)]) hx hb dX12_hour_37 hl (by decide) rfl (fun ls hl => ?_)
        refine lv_iconst (v := 0) hx hb dX12_hour_39 (by decide) ?_
        refine lv_istore (lv' := [(7, .int 0), (5, .long 0), (4, .int 0), (0, .ref o), (1, .int p0), (2, .int p1), (3, .int p2)]) hx hb dX12_hour_40 hl (by decide) rfl (fun ls hl => ?_)
        refine tl_ind (G := fun H locs ls => W p l e ((headSpec (tl_w yX12_hour cX12_hour 9 (some .int)) ({ frames := 8, cells := 0, slots := 0, locals := 199 })).room) s m #[.ref o, .int p0, .int p1, .int p2] below meth c H locs 0 0 (MQ below (va_Qi (fun (r : Int32) (u : (Nat → va_E) × tk_G) => u.2 (39, 0, 0) 0 = Γ (39, 0, 0) 0) (tp_BG D cy L K Γ f [39, 58, 57, 60, 61, 62, 63, 59, 64, 65, 66]) A) #[.ref o, .int p0, .int p1, .int p2] s 0 0 A) (F0 m 42 ls [])) (α := (Nat → va_E) × Int32 × Int64 × Int32) (fun aq => (24 - aq.2.1.toInt).toNat) (fun aq H locs ls => (0 ≤ aq.2.1.toInt) ∧ va_P D vwCl (va_pl L aq.1) H ∧ tp_I cy L K Γ_27 aq.1 ∧ (∀ b, (K b).1 ∉ ([39, 58, 57, 60, 61, 62, 63, 59, 64, 65, 66] : List Nat) → aq.1 b = f b) ∧ va_S A s.heap H locs ∧ lv_has ls 9 [(7, .int aq.2.1), (5, .long aq.2.2.1), (4, .int aq.2.2.2), (0, .ref o), (1, .int p0), (2, .int p1), (3, .int p2)]) ?_ (f_25, (0 : Int32), (0 : Int64), (0 : Int32)) H locs ls ⟨(show 0 ≤ (0 : Int) from (by omega)), hP, hI, hfr, hS, lv_sub hl [0, 1, 2, 3, 4, 5, 6] rfl⟩
        rintro ⟨f_29, v7, v5, v4⟩ H locs ls ⟨hr7, hP, hI, hfr, hS, hl⟩ ih42
        have hP : va_P D vwCl (va_pl L f_29) H := hP
        have hI : tp_I cy L K Γ_27 f_29 := hI
        have hfr : ∀ b, (K b).1 ∉ ([39, 58, 57, 60, 61, 62, 63, 59, 64, 65, 66] : List Nat) → f_29 b = f b := hfr
        have hD : va_D A (va_pl L f_29) := tp_D hL hAL
        have hr7 : 0 ≤ v7.toInt := hr7
        have hl : lv_has ls 9 [(7, .int v7), (5, .long v5), (4, .int v4), (0, .ref o), (1, .int p0), (2, .int p1), (3, .int p2)] := hl
        refine lv_iload hx hb dX12_hour_42 (lv_at hl 0 rfl) ?_
        refine lv_aload_n hx hb dX12_hour_44 rfl (lv_at hl 3 rfl) ?_
        obtain ⟨r_31, v_32, q_33, hf_30, hr_34, hv_35⟩ := (show tp_o_M L K 0 0 (Γ_27 (39, 0, 0)) (f_29 o) from hI.at ho)
        refine tp_get (cy := cy) (ci := 12) (v := .ref (r_31 0)) (C := RX12) (T := TX12) (N := 49) hx hb hta inlX12 hown hK hP ho.1 hf_30 rfl 0 (by decide) (hta _ wk_149) (fun _ h9 => h9) rfl dX12_hour_45 ?_
        refine lv_iconst (v := 1) hx hb dX12_hour_48 (by decide) ?_
        obtain ⟨g_44, hf_43, hg_45⟩ := (show tp_gi cy (7666) (Γ (40, 7666, 0)) (f (r_31 0)) from hI0.at (show tp_r L K 40 7666 0 (r_31 0) from hr_34 0 (by decide)))
        have hn_46 : vp_in 1 (7666) := tl_in (by decide) (by decide)
        refine tp_iald (cy := cy) hx hb hK hP (show tp_r L K 40 7666 0 (r_31 0) from hr_34 0 (by decide)).1 ((tp_un hfr (show tp_r L K 40 7666 0 (r_31 0) from hr_34 0 (by decide)) (by decide)).trans hf_43) hn_46 dX12_hour_49 ?_
        refine lv_topi (fun z_47 ez_47 => ?_)
        have iz_47 : z_47.toInt = Γ (40, 7666, 0) 1 := by rw [ez_47]; exact hg_45 _ (tp_pin hn_46)
        refine lv_icmp_ge (tgt := 178) hx hb dX12_hour_50 (by decide) (fun c_48 => ?_) (fun c_48 => ?_)
        · have c_48 : z_47.toInt ≤ v7.toInt := tl_le c_48
          refine lv_iload_n hx hb dX12_hour_178 rfl (lv_at hl 6 rfl) ?_
          refine lv_if_ne (tgt := 187) hx hb dX12_hour_179 (by decide) (fun c_49 => ?_) (fun c_49 => ?_)
          · have c_49 : ¬ p2.toInt = (0 : Int) := tl_neq c_49
            refine lv_lload hx hb dX12_hour_187 (lv_at hl 1 rfl) ?_
            refine lv_l2i hx hb dX12_hour_189 rfl ?_
            refine lv_topi (fun z_50 ez_50 => ?_)
            have hpo9 : Γ_27 (39, 0, 0) 0 = Γ (39, 0, 0) 0 := (by omega)
            exact W.iret (v := z_50) hx hb hr (fun t ht hW => ⟨⟨_, (f_29, Γ_27), rfl, hpo9, by rw [ht]; exact hP, hI, hfr, hgr⟩, hS.F ht⟩) hS.2.2 dX12_hour_190
          · have c_49 : p2.toInt = (0 : Int) := tl_eq c_49
            refine lv_iload hx hb dX12_hour_182 (lv_at hl 2 rfl) ?_
            refine lv_goto (tgt := 190) hx hb dX12_hour_184 (by decide) ?_
            have hpo9 : Γ_27 (39, 0, 0) 0 = Γ (39, 0, 0) 0 := (by omega)
            exact W.iret (v := v4) hx hb hr (fun t ht hW => ⟨⟨_, (f_29, Γ_27), rfl, hpo9, by rw [ht]; exact hP, hI, hfr, hgr⟩, hS.F ht⟩) hS.2.2 dX12_hour_190
        · have c_48 : v7.toInt < z_47.toInt := tl_nle c_48
          refine lv_iconst (v := 0) hx hb dX12_hour_53 (by decide) ?_
          refine lv_istore (lv' := [(8, .int 0), (7, .int v7), (5, .long v5), (4, .int v4), (0, .ref o), (1, .int p0), (2, .int p1), (3, .int p2)]) hx hb dX12_hour_54 hl (by decide) rfl (fun ls hl => ?_)
          refine tl_ind (G := fun H locs ls => W p l e ((headSpec (tl_w yX12_hour cX12_hour 9 (some .int)) ({ frames := 8, cells := 0, slots := 0, locals := 199 })).room) s m #[.ref o, .int p0, .int p1, .int p2] below meth c H locs 0 0 (MQ below (va_Qi (fun (r : Int32) (u : (Nat → va_E) × tk_G) => u.2 (39, 0, 0) 0 = Γ (39, 0, 0) 0) (tp_BG D cy L K Γ f [39, 58, 57, 60, 61, 62, 63, 59, 64, 65, 66]) A) #[.ref o, .int p0, .int p1, .int p2] s 0 0 A) (F0 m 56 ls [])) (α := (Nat → va_E) × Int32 × Int64 × Int32) (fun aq => (24 - aq.2.1.toInt).toNat) (fun aq H locs ls => (0 ≤ aq.2.1.toInt) ∧ va_P D vwCl (va_pl L aq.1) H ∧ tp_I cy L K Γ_27 aq.1 ∧ (∀ b, (K b).1 ∉ ([39, 58, 57, 60, 61, 62, 63, 59, 64, 65, 66] : List Nat) → aq.1 b = f b) ∧ va_S A s.heap H locs ∧ lv_has ls 9 [(8, .int aq.2.1), (7, .int v7), (5, .long aq.2.2.1), (4, .int aq.2.2.2), (0, .ref o), (1, .int p0), (2, .int p1), (3, .int p2)]) ?_ (f_29, (0 : Int32), v5, v4) H locs ls ⟨(show 0 ≤ (0 : Int) from (by omega)), hP, hI, hfr, hS, lv_sub hl [0, 1, 2, 3, 4, 5, 6, 7] rfl⟩
          rintro ⟨f_53, v8, v5_51, v4_52⟩ H locs ls ⟨hr8, hP, hI, hfr, hS, hl⟩ ih56
          have hP : va_P D vwCl (va_pl L f_53) H := hP
          have hI : tp_I cy L K Γ_27 f_53 := hI
          have hfr : ∀ b, (K b).1 ∉ ([39, 58, 57, 60, 61, 62, 63, 59, 64, 65, 66] : List Nat) → f_53 b = f b := hfr
          have hD : va_D A (va_pl L f_53) := tp_D hL hAL
          have hr8 : 0 ≤ v8.toInt := hr8
          have hl : lv_has ls 9 [(8, .int v8), (7, .int v7), (5, .long v5_51), (4, .int v4_52), (0, .ref o), (1, .int p0), (2, .int p1), (3, .int p2)] := hl
          refine lv_iload hx hb dX12_hour_56 (lv_at hl 0 rfl) ?_
          refine lv_iload hx hb dX12_hour_58 (lv_at hl 1 rfl) ?_
          refine lv_icmp_ge (tgt := 172) hx hb dX12_hour_60 (by decide) (fun c_54 => ?_) (fun c_54 => ?_)
          · have c_54 : v7.toInt ≤ v8.toInt := tl_le c_54
            obtain ⟨z_55, ez_55⟩ : ∃ y : Int32, y = v7 + 1 := ⟨_, rfl⟩
            refine lv_iinc (v := z_55) (lv' := [(7, .int z_55), (8, .int v8), (5, .long v5_51), (4, .int v4_52), (0, .ref o), (1, .int p0), (2, .int p1), (3, .int p2)]) hx hb dX12_hour_172 hl (k := 1) rfl (by rw [ez_55]; rfl) (by decide) rfl (fun ls hl => ?_)
            try have iz_55 : z_55.toInt = v7.toInt + 1 := by rw [ez_55]; exact tl_addL v7 1 (by decide) (by omega) (by omega)
            refine lv_goto (tgt := 42) hx hb dX12_hour_175 (by decide) ?_
            exact ih42 (f_53, z_55, v5_51, v4_52) H locs ls (by show (24 - z_55.toInt).toNat < (24 - v7.toInt).toNat; omega) ⟨(show 0 ≤ z_55.toInt from (by omega)), hP, hI, hfr, hS, lv_sub hl [0, 2, 3, 4, 5, 6, 7] rfl⟩
          · have c_54 : v8.toInt < v7.toInt := tl_nle c_54
            refine lv_aload_n hx hb dX12_hour_63 rfl (lv_at hl 4 rfl) ?_
            refine lv_iload hx hb dX12_hour_64 (lv_at hl 1 rfl) ?_
            refine lv_iconst (v := 0) hx hb dX12_hour_66 (by decide) ?_
            obtain ⟨r_57, v_58, q_59, hf_56, hr_60, hv_61⟩ := (show tp_o_M L K 0 0 (Γ_27 (39, 0, 0)) (f_53 o) from hI.at ho)
            refine tl_si (tq_rV (As := [.int v7, .int 0]) (rest := []) ⟨hx, hb, hml, hown, hta⟩ (tp_P.pre hK hN hL hU hI hP) (tp_recv hK hP ho.1 hf_56 rfl) lk_X12_132 (r_X12_rowOf l D cy H.size L K Γ_27 f_53 o v7 0 ho (by first | omega | (simp only [Int32.toInt_toInt64]; omega) | decide | assumption) (by first | omega | (simp only [Int32.toInt_toInt64]; omega) | decide | assumption)) rfl rfl ⟨Nat.le_of_ble_eq_true rfl, Nat.le_of_ble_eq_true rfl⟩ rfl hl.1 rfl (Nat.le_of_ble_eq_true rfl) dX12_hour_67 ⟨Nat.le_of_ble_eq_true rfl, Nat.le_of_ble_eq_true rfl⟩) (fun r_70 hw_69 => ?_)
            have hw_69 : r_70.toInt = Γ_27 (40, 7666, 0) (9 + 3 * v7.toInt + (0 : Int)).toNat := hw_69
            refine lv_aload_n hx hb dX12_hour_70 rfl (lv_at hl 4 rfl) ?_
            refine lv_iload hx hb dX12_hour_71 (lv_at hl 0 rfl) ?_
            refine lv_iconst (v := 0) hx hb dX12_hour_73 (by decide) ?_
            refine tl_si (tq_rV (As := [.int v8, .int 0]) (rest := [.int r_70]) ⟨hx, hb, hml, hown, hta⟩ (tp_P.pre hK hN hL hU hI hP) (tp_recv hK hP ho.1 hf_56 rfl) lk_X12_132 (r_X12_rowOf l D cy H.size L K Γ_27 f_53 o v8 0 ho (by first | omega | (simp only [Int32.toInt_toInt64]; omega) | decide | assumption) (by first | omega | (simp only [Int32.toInt_toInt64]; omega) | decide | assumption)) rfl rfl ⟨Nat.le_of_ble_eq_true rfl, Nat.le_of_ble_eq_true rfl⟩ rfl hl.1 rfl (Nat.le_of_ble_eq_true rfl) dX12_hour_74 ⟨Nat.le_of_ble_eq_true rfl, Nat.le_of_ble_eq_true rfl⟩) (fun r_72 hw_71 => ?_)
            have hw_71 : r_72.toInt = Γ_27 (40, 7666, 0) (9 + 3 * v8.toInt + (0 : Int)).toNat := hw_71
            refine lv_icmp_eq (tgt := 166) hx hb dX12_hour_77 (by decide) (fun c_73 => ?_) (fun c_73 => ?_)
            · have c_73 : r_70.toInt = r_72.toInt := tl_eq c_73
              obtain ⟨z_74, ez_74⟩ : ∃ y : Int32, y = v8 + 1 := ⟨_, rfl⟩
              refine lv_iinc (v := z_74) (lv' := [(8, .int z_74), (7, .int v7), (5, .long v5_51), (4, .int v4_52), (0, .ref o), (1, .int p0), (2, .int p1), (3, .int p2)]) hx hb dX12_hour_166 hl (k := 0) rfl (by rw [ez_74]; rfl) (by decide) rfl (fun ls hl => ?_)
              try have iz_74 : z_74.toInt = v8.toInt + 1 := by rw [ez_74]; exact tl_addL v8 1 (by decide) (by omega) (by omega)
              refine lv_goto (tgt := 56) hx hb dX12_hour_169 (by decide) ?_
              exact ih56 (f_53, z_74, v5_51, v4_52) H locs ls (by show (24 - z_74.toInt).toNat < (24 - v8.toInt).toNat; omega) ⟨(show 0 ≤ z_74.toInt from (by omega)), hP, hI, hfr, hS, lv_sub hl [0, 1, 2, 3, 4, 5, 6, 7] rfl⟩
            · have c_73 : ¬ r_70.toInt = r_72.toInt := tl_neq c_73
              refine lv_aload_n hx hb dX12_hour_80 rfl (lv_at hl 4 rfl) ?_
              refine lv_iload hx hb dX12_hour_81 (lv_at hl 1 rfl) ?_
              refine lv_iconst (v := 1) hx hb dX12_hour_83 (by decide) ?_
              refine tl_si (tq_rV (As := [.int v7, .int 1]) (rest := []) ⟨hx, hb, hml, hown, hta⟩ (tp_P.pre hK hN hL hU hI hP) (tp_recv hK hP ho.1 hf_56 rfl) lk_X12_132 (r_X12_rowOf l D cy H.size L K Γ_27 f_53 o v7 1 ho (by first | omega | (simp only [Int32.toInt_toInt64]; omega) | decide | assumption) (by first | omega | (simp only [Int32.toInt_toInt64]; omega) | decide | assumption)) rfl rfl ⟨Nat.le_of_ble_eq_true rfl, Nat.le_of_ble_eq_true rfl⟩ rfl hl.1 rfl (Nat.le_of_ble_eq_true rfl) dX12_hour_84 ⟨Nat.le_of_ble_eq_true rfl, Nat.le_of_ble_eq_true rfl⟩) (fun r_76 hw_75 => ?_)
              have hw_75 : r_76.toInt = Γ_27 (40, 7666, 0) (9 + 3 * v7.toInt + (1 : Int)).toNat := hw_75
              refine lv_aload_n hx hb dX12_hour_87 rfl (lv_at hl 4 rfl) ?_
              refine lv_iload hx hb dX12_hour_88 (lv_at hl 0 rfl) ?_
              refine lv_iconst (v := 1) hx hb dX12_hour_90 (by decide) ?_
              refine tl_si (tq_rV (As := [.int v8, .int 1]) (rest := [.int r_76]) ⟨hx, hb, hml, hown, hta⟩ (tp_P.pre hK hN hL hU hI hP) (tp_recv hK hP ho.1 hf_56 rfl) lk_X12_132 (r_X12_rowOf l D cy H.size L K Γ_27 f_53 o v8 1 ho (by first | omega | (simp only [Int32.toInt_toInt64]; omega) | decide | assumption) (by first | omega | (simp only [Int32.toInt_toInt64]; omega) | decide | assumption)) rfl rfl ⟨Nat.le_of_ble_eq_true rfl, Nat.le_of_ble_eq_true rfl⟩ rfl hl.1 rfl (Nat.le_of_ble_eq_true rfl) dX12_hour_91 ⟨Nat.le_of_ble_eq_true rfl, Nat.le_of_ble_eq_true rfl⟩) (fun r_78 hw_77 => ?_)
              have hw_77 : r_78.toInt = Γ_27 (40, 7666, 0) (9 + 3 * v8.toInt + (1 : Int)).toNat := hw_77
              refine lv_icmp_ne (tgt := 166) hx hb dX12_hour_94 (by decide) (fun c_79 => ?_) (fun c_79 => ?_)
              · have c_79 : ¬ r_76.toInt = r_78.toInt := tl_neq c_79
                obtain ⟨z_80, ez_80⟩ : ∃ y : Int32, y = v8 + 1 := ⟨_, rfl⟩
                refine lv_iinc (v := z_80) (lv' := [(8, .int z_80), (7, .int v7), (5, .long v5_51), (4, .int v4_52), (0, .ref o), (1, .int p0), (2, .int p1), (3, .int p2)]) hx hb dX12_hour_166 hl (k := 0) rfl (by rw [ez_80]; rfl) (by decide) rfl (fun ls hl => ?_)
                try have iz_80 : z_80.toInt = v8.toInt + 1 := by rw [ez_80]; exact tl_addL v8 1 (by decide) (by omega) (by omega)
                refine lv_goto (tgt := 56) hx hb dX12_hour_169 (by decide) ?_
                exact ih56 (f_53, z_80, v5_51, v4_52) H locs ls (by show (24 - z_80.toInt).toNat < (24 - v8.toInt).toNat; omega) ⟨(show 0 ≤ z_80.toInt from (by omega)), hP, hI, hfr, hS, lv_sub hl [0, 1, 2, 3, 4, 5, 6, 7] rfl⟩
              · have c_79 : r_76.toInt = r_78.toInt := tl_eq c_79
                refine lv_aload_n hx hb dX12_hour_97 rfl (lv_at hl 4 rfl) ?_
                refine lv_iload hx hb dX12_hour_98 (lv_at hl 1 rfl) ?_
                refine lv_iload_n hx hb dX12_hour_100 rfl (lv_at hl 6 rfl) ?_
                refine tl_si (tq_rV (As := [.int v7, .int p1]) (rest := []) ⟨hx, hb, hml, hown, hta⟩ (tp_P.pre hK hN hL hU hI hP) (tp_recv hK hP ho.1 hf_56 rfl) lk_X12_503 (r_X12_isKnown l D cy H.size L K Γ_27 f_53 o v7 p1 ho (by first | omega | (simp only [Int32.toInt_toInt64]; omega) | decide | assumption)) rfl rfl ⟨Nat.le_of_ble_eq_true rfl, Nat.le_of_ble_eq_true rfl⟩ rfl hl.1 rfl (Nat.le_of_ble_eq_true rfl) dX12_hour_101 ⟨Nat.le_of_ble_eq_true rfl, Nat.le_of_ble_eq_true rfl⟩) (fun r_82 hw_81 => ?_)
                have hw_81 : tl_J r_82 (True) := hw_81
                refine lv_if_eq (tgt := 166) hx hb dX12_hour_104 (by decide) (fun c_83 => ?_) (fun c_83 => ?_)
                · have c_83 := c_83
                  obtain ⟨z_84, ez_84⟩ : ∃ y : Int32, y = v8 + 1 := ⟨_, rfl⟩
                  refine lv_iinc (v := z_84) (lv' := [(8, .int z_84), (7, .int v7), (5, .long v5_51), (4, .int v4_52), (0, .ref o), (1, .int p0), (2, .int p1), (3, .int p2)]) hx hb dX12_hour_166 hl (k := 0) rfl (by rw [ez_84]; rfl) (by decide) rfl (fun ls hl => ?_)
                  try have iz_84 : z_84.toInt = v8.toInt + 1 := by rw [ez_84]; exact tl_addL v8 1 (by decide) (by omega) (by omega)
                  refine lv_goto (tgt := 56) hx hb dX12_hour_169 (by decide) ?_
                  exact ih56 (f_53, z_84, v5_51, v4_52) H locs ls (by show (24 - z_84.toInt).toNat < (24 - v8.toInt).toNat; omega) ⟨(show 0 ≤ z_84.toInt from (by omega)), hP, hI, hfr, hS, lv_sub hl [0, 1, 2, 3, 4, 5, 6, 7] rfl⟩
                · have c_83 := hw_81.t c_83
                  refine lv_aload_n hx hb dX12_hour_107 rfl (lv_at hl 4 rfl) ?_
                  refine lv_iload hx hb dX12_hour_108 (lv_at hl 0 rfl) ?_
                  refine lv_iload_n hx hb dX12_hour_110 rfl (lv_at hl 6 rfl) ?_
                  refine tl_si (tq_rV (As := [.int v8, .int p1]) (rest := []) ⟨hx, hb, hml, hown, hta⟩ (tp_P.pre hK hN hL hU hI hP) (tp_recv hK hP ho.1 hf_56 rfl) lk_X12_503 (r_X12_isKnown l D cy H.size L K Γ_27 f_53 o v8 p1 ho (by first | omega | (simp only [Int32.toInt_toInt64]; omega) | decide | assumption)) rfl rfl ⟨Nat.le_of_ble_eq_true rfl, Nat.le_of_ble_eq_true rfl⟩ rfl hl.1 rfl (Nat.le_of_ble_eq_true rfl) dX12_hour_111 ⟨Nat.le_of_ble_eq_true rfl, Nat.le_of_ble_eq_true rfl⟩) (fun r_86 hw_85 => ?_)
                  have hw_85 : tl_J r_86 (True) := hw_85
                  refine lv_if_eq (tgt := 166) hx hb dX12_hour_114 (by decide) (fun c_87 => ?_) (fun c_87 => ?_)
                  · have c_87 := c_87
                    obtain ⟨z_88, ez_88⟩ : ∃ y : Int32, y = v8 + 1 := ⟨_, rfl⟩
                    refine lv_iinc (v := z_88) (lv' := [(8, .int z_88), (7, .int v7), (5, .long v5_51), (4, .int v4_52), (0, .ref o), (1, .int p0), (2, .int p1), (3, .int p2)]) hx hb dX12_hour_166 hl (k := 0) rfl (by rw [ez_88]; rfl) (by decide) rfl (fun ls hl => ?_)
                    try have iz_88 : z_88.toInt = v8.toInt + 1 := by rw [ez_88]; exact tl_addL v8 1 (by decide) (by omega) (by omega)
                    refine lv_goto (tgt := 56) hx hb dX12_hour_169 (by decide) ?_
                    exact ih56 (f_53, z_88, v5_51, v4_52) H locs ls (by show (24 - z_88.toInt).toNat < (24 - v8.toInt).toNat; omega) ⟨(show 0 ≤ z_88.toInt from (by omega)), hP, hI, hfr, hS, lv_sub hl [0, 1, 2, 3, 4, 5, 6, 7] rfl⟩
                  · have c_87 := hw_85.t c_87
                    refine lv_aload_n hx hb dX12_hour_117 rfl (lv_at hl 4 rfl) ?_
                    refine tp_get (cy := cy) (ci := 12) (v := .ref (r_57 25)) (C := RX12) (T := TX12) (N := 49) hx hb hta inlX12 hown hK hP ho.1 hf_56 rfl 42 (by decide) (hta _ wk_175) (fun _ h9 => h9) rfl dX12_hour_118 ?_
                    refine lv_iload hx hb dX12_hour_121 (lv_at hl 1 rfl) ?_
                    obtain ⟨g_90, hf_89⟩ := (show tp_az cy (24) (f_53 (r_57 25)) from hI.at (show tp_r L K 65 24 0 (r_57 25) from hr_60 25 (by decide)))
                    have hn_92 : vp_in v7 (24) := tl_in (by omega) (by omega)
                    refine tp_zald (cy := cy) hx hb hK hP (show tp_r L K 65 24 0 (r_57 25) from hr_60 25 (by decide)).1 hf_89 hn_92 dX12_hour_123 ?_
                    refine lv_topi (fun z_93 ez_93 => ?_)
                    refine lv_if_eq (tgt := 166) hx hb dX12_hour_124 (by decide) (fun c_94 => ?_) (fun c_94 => ?_)
                    · have c_94 : z_93.toInt = (0 : Int) := tl_eq c_94
                      obtain ⟨z_95, ez_95⟩ : ∃ y : Int32, y = v8 + 1 := ⟨_, rfl⟩
                      refine lv_iinc (v := z_95) (lv' := [(8, .int z_95), (7, .int v7), (5, .long v5_51), (4, .int v4_52), (0, .ref o), (1, .int p0), (2, .int p1), (3, .int p2)]) hx hb dX12_hour_166 hl (k := 0) rfl (by rw [ez_95]; rfl) (by decide) rfl (fun ls hl => ?_)
                      try have iz_95 : z_95.toInt = v8.toInt + 1 := by rw [ez_95]; exact tl_addL v8 1 (by decide) (by omega) (by omega)
                      refine lv_goto (tgt := 56) hx hb dX12_hour_169 (by decide) ?_
                      exact ih56 (f_53, z_95, v5_51, v4_52) H locs ls (by show (24 - z_95.toInt).toNat < (24 - v8.toInt).toNat; omega) ⟨(show 0 ≤ z_95.toInt from (by omega)), hP, hI, hfr, hS, lv_sub hl [0, 1, 2, 3, 4, 5, 6, 7] rfl⟩
                    · have c_94 : ¬ z_93.toInt = (0 : Int) := tl_neq c_94
                      refine lv_aload_n hx hb dX12_hour_127 rfl (lv_at hl 4 rfl) ?_
                      refine tp_get (cy := cy) (ci := 12) (v := .ref (r_57 25)) (C := RX12) (T := TX12) (N := 49) hx hb hta inlX12 hown hK hP ho.1 hf_56 rfl 42 (by decide) (hta _ wk_175) (fun _ h9 => h9) rfl dX12_hour_128 ?_
                      refine lv_iload hx hb dX12_hour_131 (lv_at hl 0 rfl) ?_
                      have hn_96 : vp_in v8 (24) := tl_in (by omega) (by omega)
                      refine tp_zald (cy := cy) hx hb hK hP (show tp_r L K 65 24 0 (r_57 25) from hr_60 25 (by decide)).1 hf_89 hn_96 dX12_hour_133 ?_
                      refine lv_topi (fun z_97 ez_97 => ?_)
                      refine lv_if_ne (tgt := 140) hx hb dX12_hour_134 (by decide) (fun c_98 => ?_) (fun c_98 => ?_)
                      · have c_98 : ¬ z_97.toInt = (0 : Int) := tl_neq c_98
                        obtain ⟨z_99, ez_99⟩ : ∃ y : Int32, y = v4_52 + 1 := ⟨_, rfl⟩
                        refine lv_iinc (v := z_99) (lv' := [(4, .int z_99), (8, .int v8), (7, .int v7), (5, .long v5_51), (0, .ref o), (1, .int p0), (2, .int p1), (3, .int p2)]) hx hb dX12_hour_140 hl (k := 3) rfl (by rw [ez_99]; rfl) (by decide) rfl (fun ls hl => ?_)
                        try have iz_99 : z_99.toInt = v4_52.toInt + 1 := by rw [ez_99]; exact tl_addL v4_52 1 (by decide) (by omega) (by omega)
                        refine lv_lload hx hb dX12_hour_143 (lv_at hl 3 rfl) ?_
                        refine lv_aload_n hx hb dX12_hour_145 rfl (lv_at hl 4 rfl) ?_
                        refine tp_get (cy := cy) (ci := 12) (v := .ref (r_57 24)) (C := RX12) (T := TX12) (N := 49) hx hb hta inlX12 hown hK hP ho.1 hf_56 rfl 41 (by decide) (hta _ wk_174) (fun _ h9 => h9) rfl dX12_hour_146 ?_
                        refine lv_iload hx hb dX12_hour_149 (lv_at hl 2 rfl) ?_
                        obtain ⟨g_101, hf_100⟩ := (show tp_aj cy (24) (f_53 (r_57 24)) from hI.at (show tp_r L K 64 24 0 (r_57 24) from hr_60 24 (by decide)))
                        have hn_103 : vp_in v7 (24) := tl_in (by omega) (by omega)
                        refine tp_lald (cy := cy) hx hb hK hP (show tp_r L K 64 24 0 (r_57 24) from hr_60 24 (by decide)).1 hf_100 hn_103 dX12_hour_151 ?_
                        refine lv_topl (fun z_104 ez_104 => ?_)
                        refine lv_aload_n hx hb dX12_hour_152 rfl (lv_at hl 4 rfl) ?_
                        refine tp_get (cy := cy) (ci := 12) (v := .ref (r_57 24)) (C := RX12) (T := TX12) (N := 49) hx hb hta inlX12 hown hK hP ho.1 hf_56 rfl 41 (by decide) (hta _ wk_174) (fun _ h9 => h9) rfl dX12_hour_153 ?_
                        refine lv_iload hx hb dX12_hour_156 (lv_at hl 1 rfl) ?_
                        have hn_105 : vp_in v8 (24) := tl_in (by omega) (by omega)
                        refine tp_lald (cy := cy) hx hb hK hP (show tp_r L K 64 24 0 (r_57 24) from hr_60 24 (by decide)).1 hf_100 hn_105 dX12_hour_158 ?_
                        refine lv_topl (fun z_106 ez_106 => ?_)
                        refine lv_lsub hx hb dX12_hour_159 ?_
                        refine lv_topl (fun z_107 ez_107 => ?_)
                        refine tl_sl (tq_rS (As := [.long z_107]) (rest := [.long v5_51]) ⟨hx, hb, hml, hown, hta⟩ (tp_P.pre hK hN hL hU hI hP) lk_X12_414 (r_X12_size l D cy H.size L K Γ_27 f_53 z_107 ) rfl rfl ⟨Nat.le_of_ble_eq_true rfl, Nat.le_of_ble_eq_true rfl⟩ rfl hl.1 rfl (Nat.le_of_ble_eq_true rfl) dX12_hour_160 ⟨Nat.le_of_ble_eq_true rfl, Nat.le_of_ble_eq_true rfl⟩) (fun r_109 hw_108 => ?_)
                        refine lv_ladd hx hb dX12_hour_163 ?_
                        refine lv_topl (fun z_110 ez_110 => ?_)
                        refine lv_lstore (lv' := [(5, .long z_110), (4, .int z_99), (8, .int v8), (7, .int v7), (0, .ref o), (1, .int p0), (2, .int p1), (3, .int p2)]) hx hb dX12_hour_164 hl (by decide) rfl (fun ls hl => ?_)
                        obtain ⟨z_111, ez_111⟩ : ∃ y : Int32, y = v8 + 1 := ⟨_, rfl⟩
                        refine lv_iinc (v := z_111) (lv' := [(8, .int z_111), (5, .long z_110), (4, .int z_99), (7, .int v7), (0, .ref o), (1, .int p0), (2, .int p1), (3, .int p2)]) hx hb dX12_hour_166 hl (k := 2) rfl (by rw [ez_111]; rfl) (by decide) rfl (fun ls hl => ?_)
                        try have iz_111 : z_111.toInt = v8.toInt + 1 := by rw [ez_111]; exact tl_addL v8 1 (by decide) (by omega) (by omega)
                        refine lv_goto (tgt := 56) hx hb dX12_hour_169 (by decide) ?_
                        exact ih56 (f_53, z_111, z_110, z_99) H locs ls (by show (24 - z_111.toInt).toNat < (24 - v8.toInt).toNat; omega) ⟨(show 0 ≤ z_111.toInt from (by omega)), hP, hI, hfr, hS, lv_sub hl [0, 3, 1, 2, 4, 5, 6, 7] rfl⟩
                      · have c_98 : z_97.toInt = (0 : Int) := tl_eq c_98
                        refine lv_goto (tgt := 166) hx hb dX12_hour_137 (by decide) ?_
                        obtain ⟨z_112, ez_112⟩ : ∃ y : Int32, y = v8 + 1 := ⟨_, rfl⟩
                        refine lv_iinc (v := z_112) (lv' := [(8, .int z_112), (7, .int v7), (5, .long v5_51), (4, .int v4_52), (0, .ref o), (1, .int p0), (2, .int p1), (3, .int p2)]) hx hb dX12_hour_166 hl (k := 0) rfl (by rw [ez_112]; rfl) (by decide) rfl (fun ls hl => ?_)
                        try have iz_112 : z_112.toInt = v8.toInt + 1 := by rw [ez_112]; exact tl_addL v8 1 (by decide) (by omega) (by omega)
                        refine lv_goto (tgt := 56) hx hb dX12_hour_169 (by decide) ?_
                        exact ih56 (f_53, z_112, v5_51, v4_52) H locs ls (by show (24 - z_112.toInt).toNat < (24 - v8.toInt).toNat; omega) ⟨(show 0 ≤ z_112.toInt from (by omega)), hP, hI, hfr, hS, lv_sub hl [0, 1, 2, 3, 4, 5, 6, 7] rfl⟩
      · have c_22 := hw_20.f c_22
        refine lv_iconst (v := (-1)) hx hb dX12_hour_26 (by decide) ?_
        have hpo9 : Γ (39, 0, 0) 0 = Γ (39, 0, 0) 0 := (by omega)
        exact W.iret (v := (-1)) hx hb hr (fun t ht hW => ⟨⟨_, (f, Γ), rfl, hpo9, by rw [ht]; exact hP, hI, hfr, hgr⟩, hS.F ht⟩) hS.2.2 dX12_hour_27
set_option maxHeartbeats 4000000 in
set_option maxRecDepth 100000 in
theorem r_X12_saidIn (l : Launch) (D : va_G) (cy : Nat → ClassId) (sz : Nat) (L : List Nat) (K : Nat → tk_K) (Γ : tk_G) (f : Nat → va_E) (o : Nat) (p0 : Int32) (p1 : Int32) (ho : tp_r L K 39 (0) 0 o) (hs : (0 ≤ Γ (40, 7666, 0) 1 ∧ Γ (40, 7666, 0) 1 ≤ 24) ∧ (0 ≤ Γ (40, 7666, 0) 2 ∧ Γ (40, 7666, 0) 2 ≤ 40) ∧ (0 ≤ Γ (40, 7666, 0) 3 ∧ Γ (40, 7666, 0) 3 ≤ 60) ∧ (0 ≤ Γ (40, 7666, 0) 4 ∧ Γ (40, 7666, 0) 4 ≤ 10) ∧ (0 ≤ Γ (40, 7666, 0) 7665 ∧ Γ (40, 7666, 0) 7665 ≤ 8)) : Met l yX12_saidIn (tl_w yX12_saidIn cX12_saidIn 5 (some .int)) ({ frames := 2, cells := 0, slots := 0, locals := 44 }) (va_Pc [.ref o, .int p0, .int p1] (tp_P D cy L K Γ f sz)) (vp_Si (fun r : Int32 => True)) 0 0 (fun _ => False) := by
  refine Met.ofW (cc := cX12_saidIn) (maxL := 5) (ret := (some .int)) (by decide) rfl ?_
  intro p e s m args below meth c s₁ B hml hv
  obtain ⟨rfl, hsz, hP, hK, hL, hI, hN, hU⟩ := hv
  have hx := B.exec
  have hb := B.bytes
  have hr := B.returns
  have hta := tl_hta (atoms_spec (ws := tl_w yX12_saidIn cX12_saidIn 5 (some .int)) B.pre)
  have hown : s.vm.findClass RX12 = some m.cls := findClass_of_methodNamed B.named
  have hlocks := B.notSynchronized
  subst hsz
  have hI0 := hI
  have hl := lv_entry ([.ref o, .int p0, .int p1]) (n := 5) (Nat.le_of_ble_eq_true rfl)
  rw [lg_entry_eq]
  generalize (lg_sl ([.ref o, .int p0, .int p1]) ++ List.replicate (5 - (lg_sl ([.ref o, .int p0, .int p1])).length) Slot.unset).toArray = ls at hl ⊢
  have hl : lv_has ls 5 [(0, .ref o), (1, .int p0), (2, .int p1)] := hl
  refine lv_iconst (v := 0) hx hb dX12_saidIn_0 (by decide) ?_
  refine lv_istore_n (lv' := [(3, .int 0), (0, .ref o), (1, .int p0), (2, .int p1)]) hx hb dX12_saidIn_1 rfl hl (by decide) rfl (fun ls hl => ?_)
  refine lv_iconst (v := 0) hx hb dX12_saidIn_2 (by decide) ?_
  refine lv_istore (lv' := [(4, .int 0), (3, .int 0), (0, .ref o), (1, .int p0), (2, .int p1)]) hx hb dX12_saidIn_3 hl (by decide) rfl (fun ls hl => ?_)
  refine tl_indR (G := fun ls => W p l e ((headSpec (tl_w yX12_saidIn cX12_saidIn 5 (some .int)) ({ frames := 2, cells := 0, slots := 0, locals := 44 })).room) s m #[.ref o, .int p0, .int p1] below meth c s.heap [] 0 0 (MQ below (vp_Si (fun r : Int32 => True)) #[.ref o, .int p0, .int p1] s 0 0 (fun _ => False)) (F0 m 5 ls [])) (α := Int32 × Int32) (fun aq => (24 - aq.1.toInt).toNat) (fun aq ls => (0 ≤ aq.1.toInt) ∧ (aq.1.toInt ≤ 24) ∧ lv_has ls 5 [(4, .int aq.1), (3, .int aq.2), (0, .ref o), (1, .int p0), (2, .int p1)]) ?_ ((0 : Int32), (0 : Int32)) ls ⟨(show 0 ≤ (0 : Int) from (by omega)), (show (0 : Int) ≤ 24 from (by omega)), lv_sub hl [0, 1, 2, 3, 4] rfl⟩
  rintro ⟨v4, v3⟩ ls ⟨h0, h1, hl⟩ ih5
  have h0 : 0 ≤ v4.toInt := h0
  have h1 : v4.toInt ≤ 24 := h1
  have hl : lv_has ls 5 [(4, .int v4), (3, .int v3), (0, .ref o), (1, .int p0), (2, .int p1)] := hl
  refine lv_iload hx hb dX12_saidIn_5 (lv_at hl 0 rfl) ?_
  refine lv_aload_n hx hb dX12_saidIn_7 rfl (lv_at hl 2 rfl) ?_
  obtain ⟨r_2, v_3, q_4, hf_1, hr_5, hv_6⟩ := (show tp_o_M L K 0 0 (Γ (39, 0, 0)) (f o) from hI0.at ho)
  refine tp_get (cy := cy) (ci := 12) (v := .ref (r_2 0)) (C := RX12) (T := TX12) (N := 49) hx hb hta inlX12 hown hK hP ho.1 hf_1 rfl 0 (by decide) (hta _ wk_149) (fun _ h9 => h9) rfl dX12_saidIn_8 ?_
  refine lv_iconst (v := 1) hx hb dX12_saidIn_11 (by decide) ?_
  obtain ⟨g_8, hf_7, hg_9⟩ := (show tp_gi cy (7666) (Γ (40, 7666, 0)) (f (r_2 0)) from hI0.at (show tp_r L K 40 7666 0 (r_2 0) from hr_5 0 (by decide)))
  have hn_10 : vp_in 1 (7666) := tl_in (by decide) (by decide)
  refine tp_iald (cy := cy) hx hb hK hP (show tp_r L K 40 7666 0 (r_2 0) from hr_5 0 (by decide)).1 hf_7 hn_10 dX12_saidIn_12 ?_
  refine lv_topi (fun z_11 ez_11 => ?_)
  have iz_11 : z_11.toInt = Γ (40, 7666, 0) 1 := by rw [ez_11]; exact hg_9 _ (tp_pin hn_10)
  refine lv_icmp_ge (tgt := 71) hx hb dX12_saidIn_13 (by decide) (fun c_12 => ?_) (fun c_12 => ?_)
  · have c_12 : z_11.toInt ≤ v4.toInt := tl_le c_12
    refine lv_iload_n hx hb dX12_saidIn_71 rfl (lv_at hl 1 rfl) ?_
    refine lv_iconst (v := 1) hx hb dX12_saidIn_72 (by decide) ?_
    refine lv_iand hx hb dX12_saidIn_73 ?_
    refine lv_topi (fun z_13 ez_13 => ?_)
    refine lv_iload_n hx hb dX12_saidIn_74 rfl (lv_at hl 1 rfl) ?_
    refine lv_iconst (v := 1) hx hb dX12_saidIn_75 (by decide) ?_
    refine lv_ishr hx hb dX12_saidIn_76 ?_
    refine lv_topi (fun z_14 ez_14 => ?_)
    refine lv_iconst (v := 1) hx hb dX12_saidIn_77 (by decide) ?_
    refine lv_iand hx hb dX12_saidIn_78 ?_
    refine lv_topi (fun z_15 ez_15 => ?_)
    refine lv_iadd hx hb dX12_saidIn_79 ?_
    refine lv_topi (fun z_16 ez_16 => ?_)
    try have iz_16 : z_16.toInt = z_13.toInt + z_15.toInt := by rw [ez_16]; exact tl_addN z_13 z_15 rfl rfl (by omega) (by omega)
    refine lv_iload_n hx hb dX12_saidIn_80 rfl (lv_at hl 1 rfl) ?_
    refine lv_iconst (v := 2) hx hb dX12_saidIn_81 (by decide) ?_
    refine lv_ishr hx hb dX12_saidIn_82 ?_
    refine lv_topi (fun z_17 ez_17 => ?_)
    refine lv_iconst (v := 1) hx hb dX12_saidIn_83 (by decide) ?_
    refine lv_iand hx hb dX12_saidIn_84 ?_
    refine lv_topi (fun z_18 ez_18 => ?_)
    refine lv_iadd hx hb dX12_saidIn_85 ?_
    refine lv_topi (fun z_19 ez_19 => ?_)
    try have iz_19 : z_19.toInt = z_16.toInt + z_18.toInt := by rw [ez_19]; exact tl_addN z_16 z_18 rfl rfl (by omega) (by omega)
    refine lv_iload_n hx hb dX12_saidIn_86 rfl (lv_at hl 1 rfl) ?_
    refine lv_iconst (v := 3) hx hb dX12_saidIn_87 (by decide) ?_
    refine lv_ishr hx hb dX12_saidIn_88 ?_
    refine lv_topi (fun z_20 ez_20 => ?_)
    refine lv_iconst (v := 1) hx hb dX12_saidIn_89 (by decide) ?_
    refine lv_iand hx hb dX12_saidIn_90 ?_
    refine lv_topi (fun z_21 ez_21 => ?_)
    refine lv_iadd hx hb dX12_saidIn_91 ?_
    refine lv_topi (fun z_22 ez_22 => ?_)
    try have iz_22 : z_22.toInt = z_19.toInt + z_21.toInt := by rw [ez_22]; exact tl_addN z_19 z_21 rfl rfl (by omega) (by omega)
    exact W.iret (v := z_22) hx hb hr (fun t ht hW => ⟨_, rfl, trivial, ht⟩) (fun q h => by cases h) dX12_saidIn_92
  · have c_12 : v4.toInt < z_11.toInt := tl_nle c_12
    refine lv_iload_n hx hb dX12_saidIn_16 rfl (lv_at hl 1 rfl) ?_
    refine lv_aload_n hx hb dX12_saidIn_17 rfl (lv_at hl 2 rfl) ?_
    refine lv_iload hx hb dX12_saidIn_18 (lv_at hl 0 rfl) ?_
    refine lv_iload_n hx hb dX12_saidIn_20 rfl (lv_at hl 3 rfl) ?_
    refine tl_si (tq_rV (As := [.int v4, .int p0]) (rest := [.int v3]) ⟨hx, hb, hml, hown, hta⟩ (tp_P.pre hK hN hL hU hI hP) (tp_recv hK hP ho.1 hf_1 rfl) lk_X12_503 (r_X12_isKnown l D cy s.heap.size L K Γ f o v4 p0 ho (by first | omega | (simp only [Int32.toInt_toInt64]; omega) | decide | assumption)) rfl rfl ⟨Nat.le_of_ble_eq_true rfl, Nat.le_of_ble_eq_true rfl⟩ rfl hl.1 rfl (Nat.le_of_ble_eq_true rfl) dX12_saidIn_21 ⟨Nat.le_of_ble_eq_true rfl, Nat.le_of_ble_eq_true rfl⟩) (fun r_24 hw_23 => ?_)
    have hw_23 : tl_J r_24 (True) := hw_23
    refine lv_if_eq (tgt := 62) hx hb dX12_saidIn_24 (by decide) (fun c_25 => ?_) (fun c_25 => ?_)
    · have c_25 := c_25
      refine lv_iconst (v := 0) hx hb dX12_saidIn_62 (by decide) ?_
      refine lv_ior hx hb dX12_saidIn_63 ?_
      refine lv_topi (fun z_26 ez_26 => ?_)
      refine lv_istore_n (lv' := [(3, .int z_26), (4, .int v4), (0, .ref o), (1, .int p0), (2, .int p1)]) hx hb dX12_saidIn_64 rfl hl (by decide) rfl (fun ls hl => ?_)
      obtain ⟨z_27, ez_27⟩ : ∃ y : Int32, y = v4 + 1 := ⟨_, rfl⟩
      refine lv_iinc (v := z_27) (lv' := [(4, .int z_27), (3, .int z_26), (0, .ref o), (1, .int p0), (2, .int p1)]) hx hb dX12_saidIn_65 hl (k := 1) rfl (by rw [ez_27]; rfl) (by decide) rfl (fun ls hl => ?_)
      try have iz_27 : z_27.toInt = v4.toInt + 1 := by rw [ez_27]; exact tl_addL v4 1 (by decide) (by omega) (by omega)
      refine lv_goto (tgt := 5) hx hb dX12_saidIn_68 (by decide) ?_
      exact ih5 (z_27, z_26) ls (by show (24 - z_27.toInt).toNat < (24 - v4.toInt).toNat; omega) ⟨(show 0 ≤ z_27.toInt from (by omega)), (show z_27.toInt ≤ 24 from (by omega)), lv_sub hl [0, 1, 2, 3, 4] rfl⟩
    · have c_25 := hw_23.t c_25
      refine lv_aload_n hx hb dX12_saidIn_27 rfl (lv_at hl 2 rfl) ?_
      refine tp_get (cy := cy) (ci := 12) (v := .ref (r_2 25)) (C := RX12) (T := TX12) (N := 49) hx hb hta inlX12 hown hK hP ho.1 hf_1 rfl 42 (by decide) (hta _ wk_175) (fun _ h9 => h9) rfl dX12_saidIn_28 ?_
      refine lv_iload hx hb dX12_saidIn_31 (lv_at hl 0 rfl) ?_
      obtain ⟨g_29, hf_28⟩ := (show tp_az cy (24) (f (r_2 25)) from hI0.at (show tp_r L K 65 24 0 (r_2 25) from hr_5 25 (by decide)))
      have hn_31 : vp_in v4 (24) := tl_in (by omega) (by omega)
      refine tp_zald (cy := cy) hx hb hK hP (show tp_r L K 65 24 0 (r_2 25) from hr_5 25 (by decide)).1 hf_28 hn_31 dX12_saidIn_33 ?_
      refine lv_topi (fun z_32 ez_32 => ?_)
      refine lv_if_eq (tgt := 62) hx hb dX12_saidIn_34 (by decide) (fun c_33 => ?_) (fun c_33 => ?_)
      · have c_33 : z_32.toInt = (0 : Int) := tl_eq c_33
        refine lv_iconst (v := 0) hx hb dX12_saidIn_62 (by decide) ?_
        refine lv_ior hx hb dX12_saidIn_63 ?_
        refine lv_topi (fun z_34 ez_34 => ?_)
        refine lv_istore_n (lv' := [(3, .int z_34), (4, .int v4), (0, .ref o), (1, .int p0), (2, .int p1)]) hx hb dX12_saidIn_64 rfl hl (by decide) rfl (fun ls hl => ?_)
        obtain ⟨z_35, ez_35⟩ : ∃ y : Int32, y = v4 + 1 := ⟨_, rfl⟩
        refine lv_iinc (v := z_35) (lv' := [(4, .int z_35), (3, .int z_34), (0, .ref o), (1, .int p0), (2, .int p1)]) hx hb dX12_saidIn_65 hl (k := 1) rfl (by rw [ez_35]; rfl) (by decide) rfl (fun ls hl => ?_)
        try have iz_35 : z_35.toInt = v4.toInt + 1 := by rw [ez_35]; exact tl_addL v4 1 (by decide) (by omega) (by omega)
        refine lv_goto (tgt := 5) hx hb dX12_saidIn_68 (by decide) ?_
        exact ih5 (z_35, z_34) ls (by show (24 - z_35.toInt).toNat < (24 - v4.toInt).toNat; omega) ⟨(show 0 ≤ z_35.toInt from (by omega)), (show z_35.toInt ≤ 24 from (by omega)), lv_sub hl [0, 1, 2, 3, 4] rfl⟩
      · have c_33 : ¬ z_32.toInt = (0 : Int) := tl_neq c_33
        refine lv_aload_n hx hb dX12_saidIn_37 rfl (lv_at hl 2 rfl) ?_
        refine tp_get (cy := cy) (ci := 12) (v := .ref (r_2 26)) (C := RX12) (T := TX12) (N := 49) hx hb hta inlX12 hown hK hP ho.1 hf_1 rfl 43 (by decide) (hta _ wk_176) (fun _ h9 => h9) rfl dX12_saidIn_38 ?_
        refine lv_iload hx hb dX12_saidIn_41 (lv_at hl 0 rfl) ?_
        obtain ⟨g_37, hf_36⟩ := (show tp_aj cy (24) (f (r_2 26)) from hI0.at (show tp_r L K 66 24 0 (r_2 26) from hr_5 26 (by decide)))
        have hn_39 : vp_in v4 (24) := tl_in (by omega) (by omega)
        refine tp_lald (cy := cy) hx hb hK hP (show tp_r L K 66 24 0 (r_2 26) from hr_5 26 (by decide)).1 hf_36 hn_39 dX12_saidIn_43 ?_
        refine lv_topl (fun z_40 ez_40 => ?_)
        refine lv_iload_n hx hb dX12_saidIn_44 rfl (lv_at hl 4 rfl) ?_
        refine lv_i2l (v := p1.toInt64) hx hb dX12_saidIn_45 (by first | rfl | decide) ?_
        refine W.lcmp hx hb dX12_saidIn_46 ?_
        refine lv_if_lt (tgt := 62) hx hb dX12_saidIn_47 (by decide) (fun c_41 => ?_) (fun c_41 => ?_)
        · have c_41 : z_40.toInt < p1.toInt := by have h9 := tl_cmp_lt c_41; simp only [Int32.toInt_toInt64] at h9; exact h9
          refine lv_iconst (v := 0) hx hb dX12_saidIn_62 (by decide) ?_
          refine lv_ior hx hb dX12_saidIn_63 ?_
          refine lv_topi (fun z_42 ez_42 => ?_)
          refine lv_istore_n (lv' := [(3, .int z_42), (4, .int v4), (0, .ref o), (1, .int p0), (2, .int p1)]) hx hb dX12_saidIn_64 rfl hl (by decide) rfl (fun ls hl => ?_)
          obtain ⟨z_43, ez_43⟩ : ∃ y : Int32, y = v4 + 1 := ⟨_, rfl⟩
          refine lv_iinc (v := z_43) (lv' := [(4, .int z_43), (3, .int z_42), (0, .ref o), (1, .int p0), (2, .int p1)]) hx hb dX12_saidIn_65 hl (k := 1) rfl (by rw [ez_43]; rfl) (by decide) rfl (fun ls hl => ?_)
          try have iz_43 : z_43.toInt = v4.toInt + 1 := by rw [ez_43]; exact tl_addL v4 1 (by decide) (by omega) (by omega)
          refine lv_goto (tgt := 5) hx hb dX12_saidIn_68 (by decide) ?_
          exact ih5 (z_43, z_42) ls (by show (24 - z_43.toInt).toNat < (24 - v4.toInt).toNat; omega) ⟨(show 0 ≤ z_43.toInt from (by omega)), (show z_43.toInt ≤ 24 from (by omega)), lv_sub hl [0, 1, 2, 3, 4] rfl⟩
        · have c_41 : z_40.toInt ≥ p1.toInt := by have h9 := tl_cmp_nlt c_41; simp only [Int32.toInt_toInt64] at h9; exact h9
          refine lv_iconst (v := 1) hx hb dX12_saidIn_50 (by decide) ?_
          refine lv_aload_n hx hb dX12_saidIn_51 rfl (lv_at hl 2 rfl) ?_
          refine lv_iload hx hb dX12_saidIn_52 (lv_at hl 0 rfl) ?_
          refine lv_iconst (v := 0) hx hb dX12_saidIn_54 (by decide) ?_
          refine tl_si (tq_rV (As := [.int v4, .int 0]) (rest := [.int 1, .int v3]) ⟨hx, hb, hml, hown, hta⟩ (tp_P.pre hK hN hL hU hI hP) (tp_recv hK hP ho.1 hf_1 rfl) lk_X12_132 (r_X12_rowOf l D cy s.heap.size L K Γ f o v4 0 ho (by first | omega | (simp only [Int32.toInt_toInt64]; omega) | decide | assumption) (by first | omega | (simp only [Int32.toInt_toInt64]; omega) | decide | assumption)) rfl rfl ⟨Nat.le_of_ble_eq_true rfl, Nat.le_of_ble_eq_true rfl⟩ rfl hl.1 rfl (Nat.le_of_ble_eq_true rfl) dX12_saidIn_55 ⟨Nat.le_of_ble_eq_true rfl, Nat.le_of_ble_eq_true rfl⟩) (fun r_45 hw_44 => ?_)
          have hw_44 : r_45.toInt = Γ (40, 7666, 0) (9 + 3 * v4.toInt + (0 : Int)).toNat := hw_44
          refine lv_ishl hx hb dX12_saidIn_58 ?_
          refine lv_topi (fun z_46 ez_46 => ?_)
          have rz_46 := tl_rng z_46
          refine lv_goto (tgt := 63) hx hb dX12_saidIn_59 (by decide) ?_
          refine lv_ior hx hb dX12_saidIn_63 ?_
          refine lv_topi (fun z_47 ez_47 => ?_)
          refine lv_istore_n (lv' := [(3, .int z_47), (4, .int v4), (0, .ref o), (1, .int p0), (2, .int p1)]) hx hb dX12_saidIn_64 rfl hl (by decide) rfl (fun ls hl => ?_)
          obtain ⟨z_48, ez_48⟩ : ∃ y : Int32, y = v4 + 1 := ⟨_, rfl⟩
          refine lv_iinc (v := z_48) (lv' := [(4, .int z_48), (3, .int z_47), (0, .ref o), (1, .int p0), (2, .int p1)]) hx hb dX12_saidIn_65 hl (k := 1) rfl (by rw [ez_48]; rfl) (by decide) rfl (fun ls hl => ?_)
          try have iz_48 : z_48.toInt = v4.toInt + 1 := by rw [ez_48]; exact tl_addL v4 1 (by decide) (by omega) (by omega)
          refine lv_goto (tgt := 5) hx hb dX12_saidIn_68 (by decide) ?_
          exact ih5 (z_48, z_47) ls (by show (24 - z_48.toInt).toNat < (24 - v4.toInt).toNat; omega) ⟨(show 0 ≤ z_48.toInt from (by omega)), (show z_48.toInt ≤ 24 from (by omega)), lv_sub hl [0, 1, 2, 3, 4] rfl⟩
set_option maxHeartbeats 4000000 in
set_option maxRecDepth 100000 in
theorem r_X12_said (l : Launch) (D : va_G) (cy : Nat → ClassId) (sz : Nat) (L : List Nat) (K : Nat → tk_K) (Γ : tk_G) (f : Nat → va_E) (o : Nat) (p0 : Int32) (p1 : Int32) (p2 : Int32) (ho : tp_r L K 39 (0) 0 o) (htx : tx_ok (Γ (43, 8800, 0)) (Γ (45, 1056, 0)) (Γ (46, 22, 0)) (Γ (47, 6, 0)) (Γ (48, 22, 0)) (Γ (49, 22, 0)) (Γ (50, 22, 0)) (Γ (51, 22, 0)) (Γ (42, 3, 0))) (hsd : ts_said (Γ (40, 7666, 0)) (Γ (42, 3, 0) 1)) : Met l yX12_said (tl_w yX12_said cX12_said 4 (some .int)) ({ frames := 8, cells := 0, slots := 0, locals := 199 }) (va_Pc [.ref o, .int p0, .int p1, .int p2] (tp_P D cy L K Γ f sz)) (va_Qi (fun (r : Int32) (u : (Nat → va_E) × tk_G) => u.2 (39, 0, 0) 0 = Γ (39, 0, 0) 0) (tp_BG D cy L K Γ f [39, 58, 57, 60, 61, 62, 63, 59, 64, 65, 66]) (tp_A L sz)) 0 0 (tp_A L sz) := by
  refine Met.ofW (cc := cX12_said) (maxL := 4) (ret := (some .int)) (by decide) rfl ?_
  intro p e s m args below meth c s₁ B hml hv
  obtain ⟨rfl, hsz, hP, hK, hL, hI, hN, hU⟩ := hv
  have hx := B.exec
  have hb := B.bytes
  have hr := B.returns
  have hta := tl_hta (atoms_spec (ws := tl_w yX12_said cX12_said 4 (some .int)) B.pre)
  have hown : s.vm.findClass RX12 = some m.cls := findClass_of_methodNamed B.named
  have hlocks := B.notSynchronized
  subst hsz
  have hI0 := hI
  generalize hAe : tp_A L s.heap.size = A
  have hA : ∀ q : Nat, s.heap.size ≤ q → A q := fun q h => by rw [← hAe]; exact Or.inr h
  have hAL : ∀ q ∈ L, A q := fun q h => by rw [← hAe]; exact Or.inl h
  have hAf : ∀ (H : Heap), s.heap.size ≤ H.size → ∀ q, tp_A L H.size q → A q := fun H h q hq => hq.elim (hAL q) (fun h2 => hA q (Nat.le_trans h h2))
  have hS : va_S A s.heap s.heap [] := va_S.rf
  have hD : va_D A (va_pl L f) := tp_D hL hAL
  have hfr : ∀ b, (K b).1 ∉ ([39, 58, 57, 60, 61, 62, 63, 59, 64, 65, 66] : List Nat) → f b = f b := fun _ _ => rfl
  have hgr : ∀ κ : tk_K, κ.1 ∉ ([39, 58, 57, 60, 61, 62, 63, 59, 64, 65, 66] : List Nat) → Γ κ = Γ κ := fun _ _ => rfl
  have hl := lv_entry ([.ref o, .int p0, .int p1, .int p2]) (n := 4) (Nat.le_of_ble_eq_true rfl)
  rw [lg_entry_eq]
  generalize (lg_sl ([.ref o, .int p0, .int p1, .int p2]) ++ List.replicate (4 - (lg_sl ([.ref o, .int p0, .int p1, .int p2])).length) Slot.unset).toArray = ls at hl ⊢
  have hl : lv_has ls 4 [(0, .ref o), (1, .int p0), (2, .int p1), (3, .int p2)] := hl
  have hs := ts_hs hsd
  have hraw := ts_raw hsd
  have hslp := ts_slp hsd
  have htb := htx.1
  refine lv_aload_n hx hb dX12_said_0 rfl (lv_at hl 0 rfl) ?_
  refine lv_iconst (v := 1) hx hb dX12_said_1 (by decide) ?_
  refine lv_iload_n hx hb dX12_said_2 rfl (lv_at hl 1 rfl) ?_
  obtain ⟨r_2, v_3, q_4, hf_1, hr_5, hv_6⟩ := (show tp_o_M L K 0 0 (Γ (39, 0, 0)) (f o) from hI.at ho)
  refine tl_si (tq_rV (As := [.int 1, .int p0]) (rest := []) ⟨hx, hb, hml, hown, hta⟩ (tp_P.pre hK hN hL hU hI hP) (tp_recv hK hP ho.1 hf_1 rfl) lk_X12_382 (r_isText_1 l D cy s.heap.size L K Γ f o p0 ho) rfl rfl ⟨Nat.le_of_ble_eq_true rfl, Nat.le_of_ble_eq_true rfl⟩ rfl hl.1 rfl (Nat.le_of_ble_eq_true rfl) dX12_said_3 ⟨Nat.le_of_ble_eq_true rfl, Nat.le_of_ble_eq_true rfl⟩) (fun r_15 hw_14 => ?_)
  have hw_14 : tl_E r_15 (0 ≤ p0.toInt ∧ p0.toInt < Γ (42, 3, 0) 1) 1 0 := hw_14
  refine lv_if_eq (tgt := 30) hx hb dX12_said_6 (by decide) (fun c_16 => ?_) (fun c_16 => ?_)
  · have c_16 := hw_14.f c_16
    refine lv_iconst (v := (-1)) hx hb dX12_said_30 (by decide) ?_
    have hpo9 : Γ (39, 0, 0) 0 = Γ (39, 0, 0) 0 := (by omega)
    exact W.iret (v := (-1)) hx hb hr (fun t ht hW => ⟨⟨_, (f, Γ), rfl, hpo9, by rw [ht]; exact hP, hI, hfr, hgr⟩, hS.F ht⟩) hS.2.2 dX12_said_31
  · have c_16 := hw_14.t c_16
    refine lv_iload_n hx hb dX12_said_9 rfl (lv_at hl 2 rfl) ?_
    refine tl_si (tq_rS (As := [.int p1]) (rest := []) ⟨hx, hb, hml, hown, hta⟩ (tp_P.pre hK hN hL hU hI hP) lk_X12_496 (r_X12_isWeek l D cy s.heap.size L K Γ f p1 ) rfl rfl ⟨Nat.le_of_ble_eq_true rfl, Nat.le_of_ble_eq_true rfl⟩ rfl hl.1 rfl (Nat.le_of_ble_eq_true rfl) dX12_said_10 ⟨Nat.le_of_ble_eq_true rfl, Nat.le_of_ble_eq_true rfl⟩) (fun r_18 hw_17 => ?_)
    have hw_17 : tl_E r_18 (0 ≤ p1.toInt ∧ p1.toInt ≤ 399) 1 0 := hw_17
    refine lv_if_eq (tgt := 30) hx hb dX12_said_13 (by decide) (fun c_19 => ?_) (fun c_19 => ?_)
    · have c_19 := hw_17.f c_19
      refine lv_iconst (v := (-1)) hx hb dX12_said_30 (by decide) ?_
      have hpo9 : Γ (39, 0, 0) 0 = Γ (39, 0, 0) 0 := (by omega)
      exact W.iret (v := (-1)) hx hb hr (fun t ht hW => ⟨⟨_, (f, Γ), rfl, hpo9, by rw [ht]; exact hP, hI, hfr, hgr⟩, hS.F ht⟩) hS.2.2 dX12_said_31
    · have c_19 := hw_17.t c_19
      refine lv_iload_n hx hb dX12_said_16 rfl (lv_at hl 3 rfl) ?_
      refine lv_i2l (v := p2.toInt64) hx hb dX12_said_17 (by first | rfl | decide) ?_
      refine lv_ldc2 (v := (-999999)) hx hb hown (hta _ wk_1091) dX12_said_18 ?_
      refine lv_ldc2 (v := 999999) hx hb hown (hta _ wk_1092) dX12_said_21 ?_
      refine tl_si (tq_rS (As := [.long p2.toInt64, .long (-999999), .long 999999]) (rest := []) ⟨hx, hb, hml, hown, hta⟩ (tp_P.pre hK hN hL hU hI hP) lk_X12_112 (r_X12_in l D cy s.heap.size L K Γ f p2.toInt64 (-999999) 999999 ) rfl rfl ⟨Nat.le_of_ble_eq_true rfl, Nat.le_of_ble_eq_true rfl⟩ rfl hl.1 rfl (Nat.le_of_ble_eq_true rfl) dX12_said_24 ⟨Nat.le_of_ble_eq_true rfl, Nat.le_of_ble_eq_true rfl⟩) (fun r_21 hw_20 => ?_)
      simp only [Int32.toInt_toInt64] at hw_20
      have hw_20 : tl_E r_21 ((-999999 : Int) ≤ p2.toInt ∧ p2.toInt ≤ (999999 : Int)) 1 0 := hw_20
      refine lv_if_ne (tgt := 32) hx hb dX12_said_27 (by decide) (fun c_22 => ?_) (fun c_22 => ?_)
      · have c_22 := hw_20.t c_22
        refine lv_aload_n hx hb dX12_said_32 rfl (lv_at hl 0 rfl) ?_
        refine lv_iload_n hx hb dX12_said_33 rfl (lv_at hl 1 rfl) ?_
        refine tq_cvR hS (hAf _ hS.1) (tq_rV (As := [.int p0]) (rest := []) ⟨hx, hb, hml, hown, hta⟩ (tp_P.pre hK hN hL hU hI hP) (tp_recv hK hP ho.1 hf_1 rfl) lk_X12_500 (r_X12_rows l D cy s.heap.size L K Γ f o p0 ho (by first | omega | (simp only [Int32.toInt_toInt64]; omega) | decide | assumption) (by first | omega | (simp only [Int32.toInt_toInt64]; omega) | decide | assumption) (by first | omega | (simp only [Int32.toInt_toInt64]; omega) | decide | assumption)) rfl rfl ⟨Nat.le_of_ble_eq_true rfl, Nat.le_of_ble_eq_true rfl⟩ rfl hl.1 rfl (Nat.le_of_ble_eq_true rfl) dX12_said_34 ⟨Nat.le_of_ble_eq_true rfl, Nat.le_of_ble_eq_true rfl⟩) (fun f_25 Γ_27 H locs hw_23 hP hI hc_26 hcg_28 hS => ?_)
        have hD : va_D A (va_pl L f_25) := tp_D hL hAL
        have hfr := tp_fr2 hfr hc_26 (by decide)
        have hgr : ∀ κ : tk_K, κ.1 ∉ ([39, 58, 57, 60, 61, 62, 63, 59, 64, 65, 66] : List Nat) → Γ_27 κ = Γ κ := tg_fr2 hgr hcg_28 (by decide)
        have hw_23 : Γ_27 (39, 0, 0) 0 = Γ (39, 0, 0) 0 := hw_23
        refine lv_aload_n hx hb dX12_said_37 rfl (lv_at hl 0 rfl) ?_
        refine lv_iload_n hx hb dX12_said_38 rfl (lv_at hl 2 rfl) ?_
        refine lv_iload_n hx hb dX12_said_39 rfl (lv_at hl 3 rfl) ?_
        obtain ⟨r_30, v_31, q_32, hf_29, hr_33, hv_34⟩ := (show tp_o_M L K 0 0 (Γ_27 (39, 0, 0)) (f_25 o) from hI.at ho)
        refine tl_si (tq_rV (As := [.int p1, .int p2]) (rest := []) ⟨hx, hb, hml, hown, hta⟩ (tp_P.pre hK hN hL hU hI hP) (tp_recv hK hP ho.1 hf_29 rfl) lk_X12_509 (r_X12_saidIn l D cy H.size L K Γ_27 f_25 o p1 p2 ho (by first | omega | assumption | (rw [hgr (40, 7666, 0) (by decide)]; first | assumption | omega))) rfl rfl ⟨Nat.le_of_ble_eq_true rfl, Nat.le_of_ble_eq_true rfl⟩ rfl hl.1 rfl (Nat.le_of_ble_eq_true rfl) dX12_said_40 ⟨Nat.le_of_ble_eq_true rfl, Nat.le_of_ble_eq_true rfl⟩) (fun r_43 hw_42 => ?_)
        have hpo9 : Γ_27 (39, 0, 0) 0 = Γ (39, 0, 0) 0 := (by omega)
        exact W.iret (v := r_43) hx hb hr (fun t ht hW => ⟨⟨_, (f_25, Γ_27), rfl, hpo9, by rw [ht]; exact hP, hI, hfr, hgr⟩, hS.F ht⟩) hS.2.2 dX12_said_43
      · have c_22 := hw_20.f c_22
        refine lv_iconst (v := (-1)) hx hb dX12_said_30 (by decide) ?_
        have hpo9 : Γ (39, 0, 0) 0 = Γ (39, 0, 0) 0 := (by omega)
        exact W.iret (v := (-1)) hx hb hr (fun t ht hW => ⟨⟨_, (f, Γ), rfl, hpo9, by rw [ht]; exact hP, hI, hfr, hgr⟩, hS.F ht⟩) hS.2.2 dX12_said_31
set_option maxHeartbeats 4000000 in
set_option maxRecDepth 100000 in
theorem r_X12_weeks (l : Launch) (D : va_G) (cy : Nat → ClassId) (sz : Nat) (L : List Nat) (K : Nat → tk_K) (Γ : tk_G) (f : Nat → va_E) (o : Nat) (p0 : Int32) (p1 : Int32) (p2 : Int32) (p3 : Int32) (p4 : Int32) (p5 : Int32) (ho : tp_r L K 39 (0) 0 o) (htx : tx_ok (Γ (43, 8800, 0)) (Γ (45, 1056, 0)) (Γ (46, 22, 0)) (Γ (47, 6, 0)) (Γ (48, 22, 0)) (Γ (49, 22, 0)) (Γ (50, 22, 0)) (Γ (51, 22, 0)) (Γ (42, 3, 0))) (hsd : ts_said (Γ (40, 7666, 0)) (Γ (42, 3, 0) 1)) : Met l yX12_weeks (tl_w yX12_weeks cX12_weeks 12 (some .int)) ({ frames := 8, cells := 0, slots := 0, locals := 199 }) (va_Pc [.ref o, .int p0, .int p1, .int p2, .int p3, .int p4, .int p5] (tp_P D cy L K Γ f sz)) (va_Qi (fun (r : Int32) (u : (Nat → va_E) × tk_G) => u.2 (39, 0, 0) 0 = Γ (39, 0, 0) 0) (tp_BG D cy L K Γ f [39, 58, 57, 60, 61, 62, 63, 59, 64, 65, 66]) (tp_A L sz)) 0 0 (tp_A L sz) := by
  refine Met.ofW (cc := cX12_weeks) (maxL := 12) (ret := (some .int)) (by decide) rfl ?_
  intro p e s m args below meth c s₁ B hml hv
  obtain ⟨rfl, hsz, hP, hK, hL, hI, hN, hU⟩ := hv
  have hx := B.exec
  have hb := B.bytes
  have hr := B.returns
  have hta := tl_hta (atoms_spec (ws := tl_w yX12_weeks cX12_weeks 12 (some .int)) B.pre)
  have hown : s.vm.findClass RX12 = some m.cls := findClass_of_methodNamed B.named
  have hlocks := B.notSynchronized
  subst hsz
  have hI0 := hI
  generalize hAe : tp_A L s.heap.size = A
  have hA : ∀ q : Nat, s.heap.size ≤ q → A q := fun q h => by rw [← hAe]; exact Or.inr h
  have hAL : ∀ q ∈ L, A q := fun q h => by rw [← hAe]; exact Or.inl h
  have hAf : ∀ (H : Heap), s.heap.size ≤ H.size → ∀ q, tp_A L H.size q → A q := fun H h q hq => hq.elim (hAL q) (fun h2 => hA q (Nat.le_trans h h2))
  have hS : va_S A s.heap s.heap [] := va_S.rf
  have hD : va_D A (va_pl L f) := tp_D hL hAL
  have hfr : ∀ b, (K b).1 ∉ ([39, 58, 57, 60, 61, 62, 63, 59, 64, 65, 66] : List Nat) → f b = f b := fun _ _ => rfl
  have hgr : ∀ κ : tk_K, κ.1 ∉ ([39, 58, 57, 60, 61, 62, 63, 59, 64, 65, 66] : List Nat) → Γ κ = Γ κ := fun _ _ => rfl
  have hl := lv_entry ([.ref o, .int p0, .int p1, .int p2, .int p3, .int p4, .int p5]) (n := 12) (Nat.le_of_ble_eq_true rfl)
  rw [lg_entry_eq]
  generalize (lg_sl ([.ref o, .int p0, .int p1, .int p2, .int p3, .int p4, .int p5]) ++ List.replicate (12 - (lg_sl ([.ref o, .int p0, .int p1, .int p2, .int p3, .int p4, .int p5])).length) Slot.unset).toArray = ls at hl ⊢
  have hl : lv_has ls 12 [(0, .ref o), (1, .int p0), (2, .int p1), (3, .int p2), (4, .int p3), (5, .int p4), (6, .int p5)] := hl
  have hs := ts_hs hsd
  have hraw := ts_raw hsd
  have hslp := ts_slp hsd
  have htb := htx.1
  refine lv_aload_n hx hb dX12_weeks_0 rfl (lv_at hl 0 rfl) ?_
  refine lv_iconst (v := 1) hx hb dX12_weeks_1 (by decide) ?_
  refine lv_iload_n hx hb dX12_weeks_2 rfl (lv_at hl 1 rfl) ?_
  obtain ⟨r_2, v_3, q_4, hf_1, hr_5, hv_6⟩ := (show tp_o_M L K 0 0 (Γ (39, 0, 0)) (f o) from hI.at ho)
  refine tl_si (tq_rV (As := [.int 1, .int p0]) (rest := []) ⟨hx, hb, hml, hown, hta⟩ (tp_P.pre hK hN hL hU hI hP) (tp_recv hK hP ho.1 hf_1 rfl) lk_X12_382 (r_isText_1 l D cy s.heap.size L K Γ f o p0 ho) rfl rfl ⟨Nat.le_of_ble_eq_true rfl, Nat.le_of_ble_eq_true rfl⟩ rfl hl.1 rfl (Nat.le_of_ble_eq_true rfl) dX12_weeks_3 ⟨Nat.le_of_ble_eq_true rfl, Nat.le_of_ble_eq_true rfl⟩) (fun r_15 hw_14 => ?_)
  have hw_14 : tl_E r_15 (0 ≤ p0.toInt ∧ p0.toInt < Γ (42, 3, 0) 1) 1 0 := hw_14
  refine lv_if_eq (tgt := 75) hx hb dX12_weeks_6 (by decide) (fun c_16 => ?_) (fun c_16 => ?_)
  · have c_16 := hw_14.f c_16
    refine lv_iconst (v := (-1)) hx hb dX12_weeks_75 (by decide) ?_
    have hpo9 : Γ (39, 0, 0) 0 = Γ (39, 0, 0) 0 := (by omega)
    exact W.iret (v := (-1)) hx hb hr (fun t ht hW => ⟨⟨_, (f, Γ), rfl, hpo9, by rw [ht]; exact hP, hI, hfr, hgr⟩, hS.F ht⟩) hS.2.2 dX12_weeks_76
  · have c_16 := hw_14.t c_16
    refine lv_iload_n hx hb dX12_weeks_9 rfl (lv_at hl 2 rfl) ?_
    refine tl_si (tq_rS (As := [.int p1]) (rest := []) ⟨hx, hb, hml, hown, hta⟩ (tp_P.pre hK hN hL hU hI hP) lk_X12_496 (r_X12_isWeek l D cy s.heap.size L K Γ f p1 ) rfl rfl ⟨Nat.le_of_ble_eq_true rfl, Nat.le_of_ble_eq_true rfl⟩ rfl hl.1 rfl (Nat.le_of_ble_eq_true rfl) dX12_weeks_10 ⟨Nat.le_of_ble_eq_true rfl, Nat.le_of_ble_eq_true rfl⟩) (fun r_18 hw_17 => ?_)
    have hw_17 : tl_E r_18 (0 ≤ p1.toInt ∧ p1.toInt ≤ 399) 1 0 := hw_17
    refine lv_if_eq (tgt := 75) hx hb dX12_weeks_13 (by decide) (fun c_19 => ?_) (fun c_19 => ?_)
    · have c_19 := hw_17.f c_19
      refine lv_iconst (v := (-1)) hx hb dX12_weeks_75 (by decide) ?_
      have hpo9 : Γ (39, 0, 0) 0 = Γ (39, 0, 0) 0 := (by omega)
      exact W.iret (v := (-1)) hx hb hr (fun t ht hW => ⟨⟨_, (f, Γ), rfl, hpo9, by rw [ht]; exact hP, hI, hfr, hgr⟩, hS.F ht⟩) hS.2.2 dX12_weeks_76
    · have c_19 := hw_17.t c_19
      refine lv_iload_n hx hb dX12_weeks_16 rfl (lv_at hl 3 rfl) ?_
      refine tl_si (tq_rS (As := [.int p2]) (rest := []) ⟨hx, hb, hml, hown, hta⟩ (tp_P.pre hK hN hL hU hI hP) lk_X12_496 (r_X12_isWeek l D cy s.heap.size L K Γ f p2 ) rfl rfl ⟨Nat.le_of_ble_eq_true rfl, Nat.le_of_ble_eq_true rfl⟩ rfl hl.1 rfl (Nat.le_of_ble_eq_true rfl) dX12_weeks_17 ⟨Nat.le_of_ble_eq_true rfl, Nat.le_of_ble_eq_true rfl⟩) (fun r_21 hw_20 => ?_)
      have hw_20 : tl_E r_21 (0 ≤ p2.toInt ∧ p2.toInt ≤ 399) 1 0 := hw_20
      refine lv_if_eq (tgt := 75) hx hb dX12_weeks_20 (by decide) (fun c_22 => ?_) (fun c_22 => ?_)
      · have c_22 := hw_20.f c_22
        refine lv_iconst (v := (-1)) hx hb dX12_weeks_75 (by decide) ?_
        have hpo9 : Γ (39, 0, 0) 0 = Γ (39, 0, 0) 0 := (by omega)
        exact W.iret (v := (-1)) hx hb hr (fun t ht hW => ⟨⟨_, (f, Γ), rfl, hpo9, by rw [ht]; exact hP, hI, hfr, hgr⟩, hS.F ht⟩) hS.2.2 dX12_weeks_76
      · have c_22 := hw_20.t c_22
        refine lv_iload_n hx hb dX12_weeks_23 rfl (lv_at hl 3 rfl) ?_
        refine lv_iload_n hx hb dX12_weeks_24 rfl (lv_at hl 2 rfl) ?_
        refine lv_icmp_lt (tgt := 75) hx hb dX12_weeks_25 (by decide) (fun c_23 => ?_) (fun c_23 => ?_)
        · have c_23 : p2.toInt < p1.toInt := tl_lt c_23
          refine lv_iconst (v := (-1)) hx hb dX12_weeks_75 (by decide) ?_
          have hpo9 : Γ (39, 0, 0) 0 = Γ (39, 0, 0) 0 := (by omega)
          exact W.iret (v := (-1)) hx hb hr (fun t ht hW => ⟨⟨_, (f, Γ), rfl, hpo9, by rw [ht]; exact hP, hI, hfr, hgr⟩, hS.F ht⟩) hS.2.2 dX12_weeks_76
        · have c_23 : p1.toInt ≤ p2.toInt := tl_nlt c_23
          refine lv_iload_n hx hb dX12_weeks_28 rfl (lv_at hl 3 rfl) ?_
          refine lv_iload_n hx hb dX12_weeks_29 rfl (lv_at hl 2 rfl) ?_
          refine lv_isub hx hb dX12_weeks_30 ?_
          refine lv_topi (fun z_24 ez_24 => ?_)
          try have iz_24 : z_24.toInt = p2.toInt - p1.toInt := by rw [ez_24]; exact tl_subN p2 p1 rfl rfl (by omega) (by omega)
          refine lv_bipush (v := 100) hx hb dX12_weeks_31 (by decide) ?_
          refine lv_icmp_ge (tgt := 75) hx hb dX12_weeks_33 (by decide) (fun c_25 => ?_) (fun c_25 => ?_)
          · have c_25 : (100 : Int) ≤ z_24.toInt := tl_le c_25
            refine lv_iconst (v := (-1)) hx hb dX12_weeks_75 (by decide) ?_
            have hpo9 : Γ (39, 0, 0) 0 = Γ (39, 0, 0) 0 := (by omega)
            exact W.iret (v := (-1)) hx hb hr (fun t ht hW => ⟨⟨_, (f, Γ), rfl, hpo9, by rw [ht]; exact hP, hI, hfr, hgr⟩, hS.F ht⟩) hS.2.2 dX12_weeks_76
          · have c_25 : z_24.toInt < (100 : Int) := tl_nle c_25
            refine lv_iload hx hb dX12_weeks_36 (lv_at hl 4 rfl) ?_
            refine lv_i2l (v := p3.toInt64) hx hb dX12_weeks_38 (by first | rfl | decide) ?_
            refine lv_ldc2 (v := (-999999)) hx hb hown (hta _ wk_1091) dX12_weeks_39 ?_
            refine lv_ldc2 (v := 999999) hx hb hown (hta _ wk_1092) dX12_weeks_42 ?_
            refine tl_si (tq_rS (As := [.long p3.toInt64, .long (-999999), .long 999999]) (rest := []) ⟨hx, hb, hml, hown, hta⟩ (tp_P.pre hK hN hL hU hI hP) lk_X12_112 (r_X12_in l D cy s.heap.size L K Γ f p3.toInt64 (-999999) 999999 ) rfl rfl ⟨Nat.le_of_ble_eq_true rfl, Nat.le_of_ble_eq_true rfl⟩ rfl hl.1 rfl (Nat.le_of_ble_eq_true rfl) dX12_weeks_45 ⟨Nat.le_of_ble_eq_true rfl, Nat.le_of_ble_eq_true rfl⟩) (fun r_27 hw_26 => ?_)
            simp only [Int32.toInt_toInt64] at hw_26
            have hw_26 : tl_E r_27 ((-999999 : Int) ≤ p3.toInt ∧ p3.toInt ≤ (999999 : Int)) 1 0 := hw_26
            refine lv_if_eq (tgt := 75) hx hb dX12_weeks_48 (by decide) (fun c_28 => ?_) (fun c_28 => ?_)
            · have c_28 := hw_26.f c_28
              refine lv_iconst (v := (-1)) hx hb dX12_weeks_75 (by decide) ?_
              have hpo9 : Γ (39, 0, 0) 0 = Γ (39, 0, 0) 0 := (by omega)
              exact W.iret (v := (-1)) hx hb hr (fun t ht hW => ⟨⟨_, (f, Γ), rfl, hpo9, by rw [ht]; exact hP, hI, hfr, hgr⟩, hS.F ht⟩) hS.2.2 dX12_weeks_76
            · have c_28 := hw_26.t c_28
              refine lv_iload hx hb dX12_weeks_51 (lv_at hl 5 rfl) ?_
              refine lv_i2l (v := p4.toInt64) hx hb dX12_weeks_53 (by first | rfl | decide) ?_
              refine lv_lconst (v := 1) hx hb dX12_weeks_54 (by decide) ?_
              refine lv_ldc2 (v := 4) hx hb hown (hta _ wk_989) dX12_weeks_55 ?_
              refine tl_si (tq_rS (As := [.long p4.toInt64, .long 1, .long 4]) (rest := []) ⟨hx, hb, hml, hown, hta⟩ (tp_P.pre hK hN hL hU hI hP) lk_X12_112 (r_X12_in l D cy s.heap.size L K Γ f p4.toInt64 1 4 ) rfl rfl ⟨Nat.le_of_ble_eq_true rfl, Nat.le_of_ble_eq_true rfl⟩ rfl hl.1 rfl (Nat.le_of_ble_eq_true rfl) dX12_weeks_58 ⟨Nat.le_of_ble_eq_true rfl, Nat.le_of_ble_eq_true rfl⟩) (fun r_30 hw_29 => ?_)
              simp only [Int32.toInt_toInt64] at hw_29
              have hw_29 : tl_E r_30 ((1 : Int) ≤ p4.toInt ∧ p4.toInt ≤ (4 : Int)) 1 0 := hw_29
              refine lv_if_eq (tgt := 75) hx hb dX12_weeks_61 (by decide) (fun c_31 => ?_) (fun c_31 => ?_)
              · have c_31 := hw_29.f c_31
                refine lv_iconst (v := (-1)) hx hb dX12_weeks_75 (by decide) ?_
                have hpo9 : Γ (39, 0, 0) 0 = Γ (39, 0, 0) 0 := (by omega)
                exact W.iret (v := (-1)) hx hb hr (fun t ht hW => ⟨⟨_, (f, Γ), rfl, hpo9, by rw [ht]; exact hP, hI, hfr, hgr⟩, hS.F ht⟩) hS.2.2 dX12_weeks_76
              · have c_31 := hw_29.t c_31
                refine lv_iload hx hb dX12_weeks_64 (lv_at hl 6 rfl) ?_
                refine lv_i2l (v := p5.toInt64) hx hb dX12_weeks_66 (by first | rfl | decide) ?_
                refine lv_lconst (v := 0) hx hb dX12_weeks_67 (by decide) ?_
                refine lv_lconst (v := 1) hx hb dX12_weeks_68 (by decide) ?_
                refine tl_si (tq_rS (As := [.long p5.toInt64, .long 0, .long 1]) (rest := []) ⟨hx, hb, hml, hown, hta⟩ (tp_P.pre hK hN hL hU hI hP) lk_X12_112 (r_X12_in l D cy s.heap.size L K Γ f p5.toInt64 0 1 ) rfl rfl ⟨Nat.le_of_ble_eq_true rfl, Nat.le_of_ble_eq_true rfl⟩ rfl hl.1 rfl (Nat.le_of_ble_eq_true rfl) dX12_weeks_69 ⟨Nat.le_of_ble_eq_true rfl, Nat.le_of_ble_eq_true rfl⟩) (fun r_33 hw_32 => ?_)
                simp only [Int32.toInt_toInt64] at hw_32
                have hw_32 : tl_E r_33 ((0 : Int) ≤ p5.toInt ∧ p5.toInt ≤ (1 : Int)) 1 0 := hw_32
                refine lv_if_ne (tgt := 77) hx hb dX12_weeks_72 (by decide) (fun c_34 => ?_) (fun c_34 => ?_)
                · have c_34 := hw_32.t c_34
                  refine lv_aload_n hx hb dX12_weeks_77 rfl (lv_at hl 0 rfl) ?_
                  refine lv_iload_n hx hb dX12_weeks_78 rfl (lv_at hl 1 rfl) ?_
                  refine tq_cvR hS (hAf _ hS.1) (tq_rV (As := [.int p0]) (rest := []) ⟨hx, hb, hml, hown, hta⟩ (tp_P.pre hK hN hL hU hI hP) (tp_recv hK hP ho.1 hf_1 rfl) lk_X12_500 (r_X12_rows l D cy s.heap.size L K Γ f o p0 ho (by first | omega | (simp only [Int32.toInt_toInt64]; omega) | decide | assumption) (by first | omega | (simp only [Int32.toInt_toInt64]; omega) | decide | assumption) (by first | omega | (simp only [Int32.toInt_toInt64]; omega) | decide | assumption)) rfl rfl ⟨Nat.le_of_ble_eq_true rfl, Nat.le_of_ble_eq_true rfl⟩ rfl hl.1 rfl (Nat.le_of_ble_eq_true rfl) dX12_weeks_79 ⟨Nat.le_of_ble_eq_true rfl, Nat.le_of_ble_eq_true rfl⟩) (fun f_37 Γ_39 H locs hw_35 hP hI hc_38 hcg_40 hS => ?_)
                  have hD : va_D A (va_pl L f_37) := tp_D hL hAL
                  have hfr := tp_fr2 hfr hc_38 (by decide)
                  have hgr : ∀ κ : tk_K, κ.1 ∉ ([39, 58, 57, 60, 61, 62, 63, 59, 64, 65, 66] : List Nat) → Γ_39 κ = Γ κ := tg_fr2 hgr hcg_40 (by decide)
                  have hw_35 : Γ_39 (39, 0, 0) 0 = Γ (39, 0, 0) 0 := hw_35
                  refine lv_bipush (v := (-2)) hx hb dX12_weeks_82 (by decide) ?_
                  refine lv_istore (lv' := [(7, .int (-2)), (0, .ref o), (1, .int p0), (2, .int p1), (3, .int p2), (4, .int p3), (5, .int p4), (6, .int p5)]) hx hb dX12_weeks_84 hl (by decide) rfl (fun ls hl => ?_)
                  refine lv_iconst (v := 0) hx hb dX12_weeks_86 (by decide) ?_
                  refine lv_istore (lv' := [(8, .int 0), (7, .int (-2)), (0, .ref o), (1, .int p0), (2, .int p1), (3, .int p2), (4, .int p3), (5, .int p4), (6, .int p5)]) hx hb dX12_weeks_87 hl (by decide) rfl (fun ls hl => ?_)
                  refine lv_iconst (v := 0) hx hb dX12_weeks_89 (by decide) ?_
                  refine lv_istore (lv' := [(9, .int 0), (8, .int 0), (7, .int (-2)), (0, .ref o), (1, .int p0), (2, .int p1), (3, .int p2), (4, .int p3), (5, .int p4), (6, .int p5)]) hx hb dX12_weeks_90 hl (by decide) rfl (fun ls hl => ?_)
                  refine lv_iload_n hx hb dX12_weeks_92 rfl (lv_at hl 5 rfl) ?_
                  refine lv_istore (lv' := [(10, .int p1), (9, .int 0), (8, .int 0), (7, .int (-2)), (0, .ref o), (1, .int p0), (2, .int p1), (3, .int p2), (4, .int p3), (5, .int p4), (6, .int p5)]) hx hb dX12_weeks_93 hl (by decide) rfl (fun ls hl => ?_)
                  refine tl_ind (G := fun H locs ls => W p l e ((headSpec (tl_w yX12_weeks cX12_weeks 12 (some .int)) ({ frames := 8, cells := 0, slots := 0, locals := 199 })).room) s m #[.ref o, .int p0, .int p1, .int p2, .int p3, .int p4, .int p5] below meth c H locs 0 0 (MQ below (va_Qi (fun (r : Int32) (u : (Nat → va_E) × tk_G) => u.2 (39, 0, 0) 0 = Γ (39, 0, 0) 0) (tp_BG D cy L K Γ f [39, 58, 57, 60, 61, 62, 63, 59, 64, 65, 66]) A) #[.ref o, .int p0, .int p1, .int p2, .int p3, .int p4, .int p5] s 0 0 A) (F0 m 95 ls [])) (α := (Nat → va_E) × Int32 × Int32 × Int32 × Int32) (fun aq => (400 - aq.2.1.toInt).toNat) (fun aq H locs ls => (0 ≤ aq.2.1.toInt) ∧ va_P D vwCl (va_pl L aq.1) H ∧ tp_I cy L K Γ_39 aq.1 ∧ (∀ b, (K b).1 ∉ ([39, 58, 57, 60, 61, 62, 63, 59, 64, 65, 66] : List Nat) → aq.1 b = f b) ∧ va_S A s.heap H locs ∧ lv_has ls 12 [(10, .int aq.2.1), (9, .int aq.2.2.1), (8, .int aq.2.2.2.1), (7, .int aq.2.2.2.2), (0, .ref o), (1, .int p0), (2, .int p1), (3, .int p2), (4, .int p3), (5, .int p4), (6, .int p5)]) ?_ (f_37, p1, (0 : Int32), (0 : Int32), ((-2) : Int32)) H locs ls ⟨(show 0 ≤ p1.toInt from (by omega)), hP, hI, hfr, hS, lv_sub hl [0, 1, 2, 3, 4, 5, 6, 7, 8, 9, 10] rfl⟩
                  rintro ⟨f_41, v10, v9, v8, v7⟩ H locs ls ⟨hr10, hP, hI, hfr, hS, hl⟩ ih95
                  have hP : va_P D vwCl (va_pl L f_41) H := hP
                  have hI : tp_I cy L K Γ_39 f_41 := hI
                  have hfr : ∀ b, (K b).1 ∉ ([39, 58, 57, 60, 61, 62, 63, 59, 64, 65, 66] : List Nat) → f_41 b = f b := hfr
                  have hD : va_D A (va_pl L f_41) := tp_D hL hAL
                  have hr10 : 0 ≤ v10.toInt := hr10
                  have hl : lv_has ls 12 [(10, .int v10), (9, .int v9), (8, .int v8), (7, .int v7), (0, .ref o), (1, .int p0), (2, .int p1), (3, .int p2), (4, .int p3), (5, .int p4), (6, .int p5)] := hl
                  refine lv_iload hx hb dX12_weeks_95 (lv_at hl 0 rfl) ?_
                  refine lv_iload_n hx hb dX12_weeks_97 rfl (lv_at hl 7 rfl) ?_
                  refine lv_icmp_gt (tgt := 165) hx hb dX12_weeks_98 (by decide) (fun c_42 => ?_) (fun c_42 => ?_)
                  · have c_42 : p2.toInt < v10.toInt := tl_lt c_42
                    refine lv_iload hx hb dX12_weeks_165 (lv_at hl 10 rfl) ?_
                    refine lv_if_ne (tgt := 175) hx hb dX12_weeks_167 (by decide) (fun c_43 => ?_) (fun c_43 => ?_)
                    · have c_43 : ¬ p5.toInt = (0 : Int) := tl_neq c_43
                      refine lv_iload hx hb dX12_weeks_175 (lv_at hl 2 rfl) ?_
                      have hpo9 : Γ_39 (39, 0, 0) 0 = Γ (39, 0, 0) 0 := (by omega)
                      exact W.iret (v := v8) hx hb hr (fun t ht hW => ⟨⟨_, (f_41, Γ_39), rfl, hpo9, by rw [ht]; exact hP, hI, hfr, hgr⟩, hS.F ht⟩) hS.2.2 dX12_weeks_177
                    · have c_43 : p5.toInt = (0 : Int) := tl_eq c_43
                      refine lv_iload hx hb dX12_weeks_170 (lv_at hl 3 rfl) ?_
                      refine lv_goto (tgt := 177) hx hb dX12_weeks_172 (by decide) ?_
                      have hpo9 : Γ_39 (39, 0, 0) 0 = Γ (39, 0, 0) 0 := (by omega)
                      exact W.iret (v := v7) hx hb hr (fun t ht hW => ⟨⟨_, (f_41, Γ_39), rfl, hpo9, by rw [ht]; exact hP, hI, hfr, hgr⟩, hS.F ht⟩) hS.2.2 dX12_weeks_177
                  · have c_42 : v10.toInt ≤ p2.toInt := tl_nlt c_42
                    refine lv_aload_n hx hb dX12_weeks_101 rfl (lv_at hl 4 rfl) ?_
                    refine lv_iload hx hb dX12_weeks_102 (lv_at hl 0 rfl) ?_
                    refine lv_iload hx hb dX12_weeks_104 (lv_at hl 8 rfl) ?_
                    obtain ⟨r_45, v_46, q_47, hf_44, hr_48, hv_49⟩ := (show tp_o_M L K 0 0 (Γ_39 (39, 0, 0)) (f_41 o) from hI.at ho)
                    refine tl_si (tq_rV (As := [.int v10, .int p3]) (rest := []) ⟨hx, hb, hml, hown, hta⟩ (tp_P.pre hK hN hL hU hI hP) (tp_recv hK hP ho.1 hf_44 rfl) lk_X12_509 (r_X12_saidIn l D cy H.size L K Γ_39 f_41 o v10 p3 ho (by first | omega | assumption | (rw [hgr (40, 7666, 0) (by decide)]; first | assumption | omega))) rfl rfl ⟨Nat.le_of_ble_eq_true rfl, Nat.le_of_ble_eq_true rfl⟩ rfl hl.1 rfl (Nat.le_of_ble_eq_true rfl) dX12_weeks_106 ⟨Nat.le_of_ble_eq_true rfl, Nat.le_of_ble_eq_true rfl⟩) (fun r_58 hw_57 => ?_)
                    refine lv_istore (lv' := [(11, .int r_58), (10, .int v10), (9, .int v9), (8, .int v8), (7, .int v7), (0, .ref o), (1, .int p0), (2, .int p1), (3, .int p2), (4, .int p3), (5, .int p4), (6, .int p5)]) hx hb dX12_weeks_109 hl (by decide) rfl (fun ls hl => ?_)
                    refine lv_iload hx hb dX12_weeks_111 (lv_at hl 4 rfl) ?_
                    refine lv_if_ge (tgt := 128) hx hb dX12_weeks_113 (by decide) (fun c_59 => ?_) (fun c_59 => ?_)
                    · have c_59 : (0 : Int) ≤ v7.toInt := tl_le c_59
                      refine lv_iload hx hb dX12_weeks_128 (lv_at hl 4 rfl) ?_
                      refine lv_istore (lv' := [(7, .int v7), (11, .int r_58), (10, .int v10), (9, .int v9), (8, .int v8), (0, .ref o), (1, .int p0), (2, .int p1), (3, .int p2), (4, .int p3), (5, .int p4), (6, .int p5)]) hx hb dX12_weeks_130 hl (by decide) rfl (fun ls hl => ?_)
                      refine lv_iload hx hb dX12_weeks_132 (lv_at hl 4 rfl) ?_
                      refine lv_iload hx hb dX12_weeks_134 (lv_at hl 2 rfl) ?_
                      refine lv_iload_n hx hb dX12_weeks_136 rfl (lv_at hl 7 rfl) ?_
                      refine lv_icmp_le (tgt := 151) hx hb dX12_weeks_137 (by decide) (fun c_60 => ?_) (fun c_60 => ?_)
                      · have c_60 : v10.toInt ≤ p1.toInt := tl_le c_60
                        refine lv_iconst (v := 0) hx hb dX12_weeks_151 (by decide) ?_
                        refine lv_iadd hx hb dX12_weeks_152 ?_
                        refine lv_topi (fun z_61 ez_61 => ?_)
                        try have iz_61 : z_61.toInt = v8.toInt + (0 : Int) := by rw [ez_61]; exact tl_addN v8 0 rfl rfl (by omega) (by omega)
                        refine lv_istore (lv' := [(8, .int z_61), (7, .int v7), (11, .int r_58), (10, .int v10), (9, .int v9), (0, .ref o), (1, .int p0), (2, .int p1), (3, .int p2), (4, .int p3), (5, .int p4), (6, .int p5)]) hx hb dX12_weeks_153 hl (by decide) rfl (fun ls hl => ?_)
                        refine lv_iload hx hb dX12_weeks_155 (lv_at hl 2 rfl) ?_
                        refine lv_istore (lv' := [(9, .int r_58), (8, .int z_61), (7, .int v7), (11, .int r_58), (10, .int v10), (0, .ref o), (1, .int p0), (2, .int p1), (3, .int p2), (4, .int p3), (5, .int p4), (6, .int p5)]) hx hb dX12_weeks_157 hl (by decide) rfl (fun ls hl => ?_)
                        obtain ⟨z_62, ez_62⟩ : ∃ y : Int32, y = v10 + 1 := ⟨_, rfl⟩
                        refine lv_iinc (v := z_62) (lv' := [(10, .int z_62), (9, .int r_58), (8, .int z_61), (7, .int v7), (11, .int r_58), (0, .ref o), (1, .int p0), (2, .int p1), (3, .int p2), (4, .int p3), (5, .int p4), (6, .int p5)]) hx hb dX12_weeks_159 hl (k := 4) rfl (by rw [ez_62]; rfl) (by decide) rfl (fun ls hl => ?_)
                        try have iz_62 : z_62.toInt = v10.toInt + 1 := by rw [ez_62]; exact tl_addL v10 1 (by decide) (by omega) (by omega)
                        refine lv_goto (tgt := 95) hx hb dX12_weeks_162 (by decide) ?_
                        exact ih95 (f_41, z_62, r_58, z_61, v7) H locs ls (by show (400 - z_62.toInt).toNat < (400 - v10.toInt).toNat; omega) ⟨(show 0 ≤ z_62.toInt from (by omega)), hP, hI, hfr, hS, lv_sub hl [0, 1, 2, 3, 5, 6, 7, 8, 9, 10, 11] rfl⟩
                      · have c_60 : p1.toInt < v10.toInt := tl_nle c_60
                        refine lv_iload hx hb dX12_weeks_140 (lv_at hl 1 rfl) ?_
                        refine lv_iload hx hb dX12_weeks_142 (lv_at hl 3 rfl) ?_
                        refine lv_icmp_eq (tgt := 151) hx hb dX12_weeks_144 (by decide) (fun c_63 => ?_) (fun c_63 => ?_)
                        · have c_63 : r_58.toInt = v9.toInt := tl_eq c_63
                          refine lv_iconst (v := 0) hx hb dX12_weeks_151 (by decide) ?_
                          refine lv_iadd hx hb dX12_weeks_152 ?_
                          refine lv_topi (fun z_64 ez_64 => ?_)
                          try have iz_64 : z_64.toInt = v8.toInt + (0 : Int) := by rw [ez_64]; exact tl_addN v8 0 rfl rfl (by omega) (by omega)
                          refine lv_istore (lv' := [(8, .int z_64), (7, .int v7), (11, .int r_58), (10, .int v10), (9, .int v9), (0, .ref o), (1, .int p0), (2, .int p1), (3, .int p2), (4, .int p3), (5, .int p4), (6, .int p5)]) hx hb dX12_weeks_153 hl (by decide) rfl (fun ls hl => ?_)
                          refine lv_iload hx hb dX12_weeks_155 (lv_at hl 2 rfl) ?_
                          refine lv_istore (lv' := [(9, .int r_58), (8, .int z_64), (7, .int v7), (11, .int r_58), (10, .int v10), (0, .ref o), (1, .int p0), (2, .int p1), (3, .int p2), (4, .int p3), (5, .int p4), (6, .int p5)]) hx hb dX12_weeks_157 hl (by decide) rfl (fun ls hl => ?_)
                          obtain ⟨z_65, ez_65⟩ : ∃ y : Int32, y = v10 + 1 := ⟨_, rfl⟩
                          refine lv_iinc (v := z_65) (lv' := [(10, .int z_65), (9, .int r_58), (8, .int z_64), (7, .int v7), (11, .int r_58), (0, .ref o), (1, .int p0), (2, .int p1), (3, .int p2), (4, .int p3), (5, .int p4), (6, .int p5)]) hx hb dX12_weeks_159 hl (k := 4) rfl (by rw [ez_65]; rfl) (by decide) rfl (fun ls hl => ?_)
                          try have iz_65 : z_65.toInt = v10.toInt + 1 := by rw [ez_65]; exact tl_addL v10 1 (by decide) (by omega) (by omega)
                          refine lv_goto (tgt := 95) hx hb dX12_weeks_162 (by decide) ?_
                          exact ih95 (f_41, z_65, r_58, z_64, v7) H locs ls (by show (400 - z_65.toInt).toNat < (400 - v10.toInt).toNat; omega) ⟨(show 0 ≤ z_65.toInt from (by omega)), hP, hI, hfr, hS, lv_sub hl [0, 1, 2, 3, 5, 6, 7, 8, 9, 10, 11] rfl⟩
                        · have c_63 : ¬ r_58.toInt = v9.toInt := tl_neq c_63
                          refine lv_iconst (v := 1) hx hb dX12_weeks_147 (by decide) ?_
                          refine lv_goto (tgt := 152) hx hb dX12_weeks_148 (by decide) ?_
                          refine lv_iadd hx hb dX12_weeks_152 ?_
                          refine lv_topi (fun z_66 ez_66 => ?_)
                          try have iz_66 : z_66.toInt = v8.toInt + (1 : Int) := by rw [ez_66]; exact tl_addN v8 1 rfl rfl (by omega) (by omega)
                          refine lv_istore (lv' := [(8, .int z_66), (7, .int v7), (11, .int r_58), (10, .int v10), (9, .int v9), (0, .ref o), (1, .int p0), (2, .int p1), (3, .int p2), (4, .int p3), (5, .int p4), (6, .int p5)]) hx hb dX12_weeks_153 hl (by decide) rfl (fun ls hl => ?_)
                          refine lv_iload hx hb dX12_weeks_155 (lv_at hl 2 rfl) ?_
                          refine lv_istore (lv' := [(9, .int r_58), (8, .int z_66), (7, .int v7), (11, .int r_58), (10, .int v10), (0, .ref o), (1, .int p0), (2, .int p1), (3, .int p2), (4, .int p3), (5, .int p4), (6, .int p5)]) hx hb dX12_weeks_157 hl (by decide) rfl (fun ls hl => ?_)
                          obtain ⟨z_67, ez_67⟩ : ∃ y : Int32, y = v10 + 1 := ⟨_, rfl⟩
                          refine lv_iinc (v := z_67) (lv' := [(10, .int z_67), (9, .int r_58), (8, .int z_66), (7, .int v7), (11, .int r_58), (0, .ref o), (1, .int p0), (2, .int p1), (3, .int p2), (4, .int p3), (5, .int p4), (6, .int p5)]) hx hb dX12_weeks_159 hl (k := 4) rfl (by rw [ez_67]; rfl) (by decide) rfl (fun ls hl => ?_)
                          try have iz_67 : z_67.toInt = v10.toInt + 1 := by rw [ez_67]; exact tl_addL v10 1 (by decide) (by omega) (by omega)
                          refine lv_goto (tgt := 95) hx hb dX12_weeks_162 (by decide) ?_
                          exact ih95 (f_41, z_67, r_58, z_66, v7) H locs ls (by show (400 - z_67.toInt).toNat < (400 - v10.toInt).toNat; omega) ⟨(show 0 ≤ z_67.toInt from (by omega)), hP, hI, hfr, hS, lv_sub hl [0, 1, 2, 3, 5, 6, 7, 8, 9, 10, 11] rfl⟩
                    · have c_59 : v7.toInt < (0 : Int) := tl_nle c_59
                      refine lv_iload hx hb dX12_weeks_116 (lv_at hl 0 rfl) ?_
                      refine lv_iload hx hb dX12_weeks_118 (lv_at hl 10 rfl) ?_
                      refine lv_icmp_lt (tgt := 128) hx hb dX12_weeks_120 (by decide) (fun c_68 => ?_) (fun c_68 => ?_)
                      · have c_68 : r_58.toInt < p4.toInt := tl_lt c_68
                        refine lv_iload hx hb dX12_weeks_128 (lv_at hl 4 rfl) ?_
                        refine lv_istore (lv' := [(7, .int v7), (11, .int r_58), (10, .int v10), (9, .int v9), (8, .int v8), (0, .ref o), (1, .int p0), (2, .int p1), (3, .int p2), (4, .int p3), (5, .int p4), (6, .int p5)]) hx hb dX12_weeks_130 hl (by decide) rfl (fun ls hl => ?_)
                        refine lv_iload hx hb dX12_weeks_132 (lv_at hl 4 rfl) ?_
                        refine lv_iload hx hb dX12_weeks_134 (lv_at hl 2 rfl) ?_
                        refine lv_iload_n hx hb dX12_weeks_136 rfl (lv_at hl 7 rfl) ?_
                        refine lv_icmp_le (tgt := 151) hx hb dX12_weeks_137 (by decide) (fun c_69 => ?_) (fun c_69 => ?_)
                        · have c_69 : v10.toInt ≤ p1.toInt := tl_le c_69
                          refine lv_iconst (v := 0) hx hb dX12_weeks_151 (by decide) ?_
                          refine lv_iadd hx hb dX12_weeks_152 ?_
                          refine lv_topi (fun z_70 ez_70 => ?_)
                          try have iz_70 : z_70.toInt = v8.toInt + (0 : Int) := by rw [ez_70]; exact tl_addN v8 0 rfl rfl (by omega) (by omega)
                          refine lv_istore (lv' := [(8, .int z_70), (7, .int v7), (11, .int r_58), (10, .int v10), (9, .int v9), (0, .ref o), (1, .int p0), (2, .int p1), (3, .int p2), (4, .int p3), (5, .int p4), (6, .int p5)]) hx hb dX12_weeks_153 hl (by decide) rfl (fun ls hl => ?_)
                          refine lv_iload hx hb dX12_weeks_155 (lv_at hl 2 rfl) ?_
                          refine lv_istore (lv' := [(9, .int r_58), (8, .int z_70), (7, .int v7), (11, .int r_58), (10, .int v10), (0, .ref o), (1, .int p0), (2, .int p1), (3, .int p2), (4, .int p3), (5, .int p4), (6, .int p5)]) hx hb dX12_weeks_157 hl (by decide) rfl (fun ls hl => ?_)
                          obtain ⟨z_71, ez_71⟩ : ∃ y : Int32, y = v10 + 1 := ⟨_, rfl⟩
                          refine lv_iinc (v := z_71) (lv' := [(10, .int z_71), (9, .int r_58), (8, .int z_70), (7, .int v7), (11, .int r_58), (0, .ref o), (1, .int p0), (2, .int p1), (3, .int p2), (4, .int p3), (5, .int p4), (6, .int p5)]) hx hb dX12_weeks_159 hl (k := 4) rfl (by rw [ez_71]; rfl) (by decide) rfl (fun ls hl => ?_)
                          try have iz_71 : z_71.toInt = v10.toInt + 1 := by rw [ez_71]; exact tl_addL v10 1 (by decide) (by omega) (by omega)
                          refine lv_goto (tgt := 95) hx hb dX12_weeks_162 (by decide) ?_
                          exact ih95 (f_41, z_71, r_58, z_70, v7) H locs ls (by show (400 - z_71.toInt).toNat < (400 - v10.toInt).toNat; omega) ⟨(show 0 ≤ z_71.toInt from (by omega)), hP, hI, hfr, hS, lv_sub hl [0, 1, 2, 3, 5, 6, 7, 8, 9, 10, 11] rfl⟩
                        · have c_69 : p1.toInt < v10.toInt := tl_nle c_69
                          refine lv_iload hx hb dX12_weeks_140 (lv_at hl 1 rfl) ?_
                          refine lv_iload hx hb dX12_weeks_142 (lv_at hl 3 rfl) ?_
                          refine lv_icmp_eq (tgt := 151) hx hb dX12_weeks_144 (by decide) (fun c_72 => ?_) (fun c_72 => ?_)
                          · have c_72 : r_58.toInt = v9.toInt := tl_eq c_72
                            refine lv_iconst (v := 0) hx hb dX12_weeks_151 (by decide) ?_
                            refine lv_iadd hx hb dX12_weeks_152 ?_
                            refine lv_topi (fun z_73 ez_73 => ?_)
                            try have iz_73 : z_73.toInt = v8.toInt + (0 : Int) := by rw [ez_73]; exact tl_addN v8 0 rfl rfl (by omega) (by omega)
                            refine lv_istore (lv' := [(8, .int z_73), (7, .int v7), (11, .int r_58), (10, .int v10), (9, .int v9), (0, .ref o), (1, .int p0), (2, .int p1), (3, .int p2), (4, .int p3), (5, .int p4), (6, .int p5)]) hx hb dX12_weeks_153 hl (by decide) rfl (fun ls hl => ?_)
                            refine lv_iload hx hb dX12_weeks_155 (lv_at hl 2 rfl) ?_
                            refine lv_istore (lv' := [(9, .int r_58), (8, .int z_73), (7, .int v7), (11, .int r_58), (10, .int v10), (0, .ref o), (1, .int p0), (2, .int p1), (3, .int p2), (4, .int p3), (5, .int p4), (6, .int p5)]) hx hb dX12_weeks_157 hl (by decide) rfl (fun ls hl => ?_)
                            obtain ⟨z_74, ez_74⟩ : ∃ y : Int32, y = v10 + 1 := ⟨_, rfl⟩
                            refine lv_iinc (v := z_74) (lv' := [(10, .int z_74), (9, .int r_58), (8, .int z_73), (7, .int v7), (11, .int r_58), (0, .ref o), (1, .int p0), (2, .int p1), (3, .int p2), (4, .int p3), (5, .int p4), (6, .int p5)]) hx hb dX12_weeks_159 hl (k := 4) rfl (by rw [ez_74]; rfl) (by decide) rfl (fun ls hl => ?_)
                            try have iz_74 : z_74.toInt = v10.toInt + 1 := by rw [ez_74]; exact tl_addL v10 1 (by decide) (by omega) (by omega)
                            refine lv_goto (tgt := 95) hx hb dX12_weeks_162 (by decide) ?_
                            exact ih95 (f_41, z_74, r_58, z_73, v7) H locs ls (by show (400 - z_74.toInt).toNat < (400 - v10.toInt).toNat; omega) ⟨(show 0 ≤ z_74.toInt from (by omega)), hP, hI, hfr, hS, lv_sub hl [0, 1, 2, 3, 5, 6, 7, 8, 9, 10, 11] rfl⟩
                          · have c_72 : ¬ r_58.toInt = v9.toInt := tl_neq c_72
                            refine lv_iconst (v := 1) hx hb dX12_weeks_147 (by decide) ?_
                            refine lv_goto (tgt := 152) hx hb dX12_weeks_148 (by decide) ?_
                            refine lv_iadd hx hb dX12_weeks_152 ?_
                            refine lv_topi (fun z_75 ez_75 => ?_)
                            try have iz_75 : z_75.toInt = v8.toInt + (1 : Int) := by rw [ez_75]; exact tl_addN v8 1 rfl rfl (by omega) (by omega)
                            refine lv_istore (lv' := [(8, .int z_75), (7, .int v7), (11, .int r_58), (10, .int v10), (9, .int v9), (0, .ref o), (1, .int p0), (2, .int p1), (3, .int p2), (4, .int p3), (5, .int p4), (6, .int p5)]) hx hb dX12_weeks_153 hl (by decide) rfl (fun ls hl => ?_)
                            refine lv_iload hx hb dX12_weeks_155 (lv_at hl 2 rfl) ?_
                            refine lv_istore (lv' := [(9, .int r_58), (8, .int z_75), (7, .int v7), (11, .int r_58), (10, .int v10), (0, .ref o), (1, .int p0), (2, .int p1), (3, .int p2), (4, .int p3), (5, .int p4), (6, .int p5)]) hx hb dX12_weeks_157 hl (by decide) rfl (fun ls hl => ?_)
                            obtain ⟨z_76, ez_76⟩ : ∃ y : Int32, y = v10 + 1 := ⟨_, rfl⟩
                            refine lv_iinc (v := z_76) (lv' := [(10, .int z_76), (9, .int r_58), (8, .int z_75), (7, .int v7), (11, .int r_58), (0, .ref o), (1, .int p0), (2, .int p1), (3, .int p2), (4, .int p3), (5, .int p4), (6, .int p5)]) hx hb dX12_weeks_159 hl (k := 4) rfl (by rw [ez_76]; rfl) (by decide) rfl (fun ls hl => ?_)
                            try have iz_76 : z_76.toInt = v10.toInt + 1 := by rw [ez_76]; exact tl_addL v10 1 (by decide) (by omega) (by omega)
                            refine lv_goto (tgt := 95) hx hb dX12_weeks_162 (by decide) ?_
                            exact ih95 (f_41, z_76, r_58, z_75, v7) H locs ls (by show (400 - z_76.toInt).toNat < (400 - v10.toInt).toNat; omega) ⟨(show 0 ≤ z_76.toInt from (by omega)), hP, hI, hfr, hS, lv_sub hl [0, 1, 2, 3, 5, 6, 7, 8, 9, 10, 11] rfl⟩
                      · have c_68 : p4.toInt ≤ r_58.toInt := tl_nlt c_68
                        refine lv_iload hx hb dX12_weeks_123 (lv_at hl 1 rfl) ?_
                        refine lv_goto (tgt := 130) hx hb dX12_weeks_125 (by decide) ?_
                        refine lv_istore (lv' := [(7, .int v10), (11, .int r_58), (10, .int v10), (9, .int v9), (8, .int v8), (0, .ref o), (1, .int p0), (2, .int p1), (3, .int p2), (4, .int p3), (5, .int p4), (6, .int p5)]) hx hb dX12_weeks_130 hl (by decide) rfl (fun ls hl => ?_)
                        refine lv_iload hx hb dX12_weeks_132 (lv_at hl 4 rfl) ?_
                        refine lv_iload hx hb dX12_weeks_134 (lv_at hl 2 rfl) ?_
                        refine lv_iload_n hx hb dX12_weeks_136 rfl (lv_at hl 7 rfl) ?_
                        refine lv_icmp_le (tgt := 151) hx hb dX12_weeks_137 (by decide) (fun c_77 => ?_) (fun c_77 => ?_)
                        · have c_77 : v10.toInt ≤ p1.toInt := tl_le c_77
                          refine lv_iconst (v := 0) hx hb dX12_weeks_151 (by decide) ?_
                          refine lv_iadd hx hb dX12_weeks_152 ?_
                          refine lv_topi (fun z_78 ez_78 => ?_)
                          try have iz_78 : z_78.toInt = v8.toInt + (0 : Int) := by rw [ez_78]; exact tl_addN v8 0 rfl rfl (by omega) (by omega)
                          refine lv_istore (lv' := [(8, .int z_78), (7, .int v10), (11, .int r_58), (10, .int v10), (9, .int v9), (0, .ref o), (1, .int p0), (2, .int p1), (3, .int p2), (4, .int p3), (5, .int p4), (6, .int p5)]) hx hb dX12_weeks_153 hl (by decide) rfl (fun ls hl => ?_)
                          refine lv_iload hx hb dX12_weeks_155 (lv_at hl 2 rfl) ?_
                          refine lv_istore (lv' := [(9, .int r_58), (8, .int z_78), (7, .int v10), (11, .int r_58), (10, .int v10), (0, .ref o), (1, .int p0), (2, .int p1), (3, .int p2), (4, .int p3), (5, .int p4), (6, .int p5)]) hx hb dX12_weeks_157 hl (by decide) rfl (fun ls hl => ?_)
                          obtain ⟨z_79, ez_79⟩ : ∃ y : Int32, y = v10 + 1 := ⟨_, rfl⟩
                          refine lv_iinc (v := z_79) (lv' := [(10, .int z_79), (9, .int r_58), (8, .int z_78), (7, .int v10), (11, .int r_58), (0, .ref o), (1, .int p0), (2, .int p1), (3, .int p2), (4, .int p3), (5, .int p4), (6, .int p5)]) hx hb dX12_weeks_159 hl (k := 4) rfl (by rw [ez_79]; rfl) (by decide) rfl (fun ls hl => ?_)
                          try have iz_79 : z_79.toInt = v10.toInt + 1 := by rw [ez_79]; exact tl_addL v10 1 (by decide) (by omega) (by omega)
                          refine lv_goto (tgt := 95) hx hb dX12_weeks_162 (by decide) ?_
                          exact ih95 (f_41, z_79, r_58, z_78, v10) H locs ls (by show (400 - z_79.toInt).toNat < (400 - v10.toInt).toNat; omega) ⟨(show 0 ≤ z_79.toInt from (by omega)), hP, hI, hfr, hS, lv_sub hl [0, 1, 2, 3, 5, 6, 7, 8, 9, 10, 11] rfl⟩
                        · have c_77 : p1.toInt < v10.toInt := tl_nle c_77
                          refine lv_iload hx hb dX12_weeks_140 (lv_at hl 1 rfl) ?_
                          refine lv_iload hx hb dX12_weeks_142 (lv_at hl 3 rfl) ?_
                          refine lv_icmp_eq (tgt := 151) hx hb dX12_weeks_144 (by decide) (fun c_80 => ?_) (fun c_80 => ?_)
                          · have c_80 : r_58.toInt = v9.toInt := tl_eq c_80
                            refine lv_iconst (v := 0) hx hb dX12_weeks_151 (by decide) ?_
                            refine lv_iadd hx hb dX12_weeks_152 ?_
                            refine lv_topi (fun z_81 ez_81 => ?_)
                            try have iz_81 : z_81.toInt = v8.toInt + (0 : Int) := by rw [ez_81]; exact tl_addN v8 0 rfl rfl (by omega) (by omega)
                            refine lv_istore (lv' := [(8, .int z_81), (7, .int v10), (11, .int r_58), (10, .int v10), (9, .int v9), (0, .ref o), (1, .int p0), (2, .int p1), (3, .int p2), (4, .int p3), (5, .int p4), (6, .int p5)]) hx hb dX12_weeks_153 hl (by decide) rfl (fun ls hl => ?_)
                            refine lv_iload hx hb dX12_weeks_155 (lv_at hl 2 rfl) ?_
                            refine lv_istore (lv' := [(9, .int r_58), (8, .int z_81), (7, .int v10), (11, .int r_58), (10, .int v10), (0, .ref o), (1, .int p0), (2, .int p1), (3, .int p2), (4, .int p3), (5, .int p4), (6, .int p5)]) hx hb dX12_weeks_157 hl (by decide) rfl (fun ls hl => ?_)
                            obtain ⟨z_82, ez_82⟩ : ∃ y : Int32, y = v10 + 1 := ⟨_, rfl⟩
                            refine lv_iinc (v := z_82) (lv' := [(10, .int z_82), (9, .int r_58), (8, .int z_81), (7, .int v10), (11, .int r_58), (0, .ref o), (1, .int p0), (2, .int p1), (3, .int p2), (4, .int p3), (5, .int p4), (6, .int p5)]) hx hb dX12_weeks_159 hl (k := 4) rfl (by rw [ez_82]; rfl) (by decide) rfl (fun ls hl => ?_)
                            try have iz_82 : z_82.toInt = v10.toInt + 1 := by rw [ez_82]; exact tl_addL v10 1 (by decide) (by omega) (by omega)
                            refine lv_goto (tgt := 95) hx hb dX12_weeks_162 (by decide) ?_
                            exact ih95 (f_41, z_82, r_58, z_81, v10) H locs ls (by show (400 - z_82.toInt).toNat < (400 - v10.toInt).toNat; omega) ⟨(show 0 ≤ z_82.toInt from (by omega)), hP, hI, hfr, hS, lv_sub hl [0, 1, 2, 3, 5, 6, 7, 8, 9, 10, 11] rfl⟩
                          · have c_80 : ¬ r_58.toInt = v9.toInt := tl_neq c_80
                            refine lv_iconst (v := 1) hx hb dX12_weeks_147 (by decide) ?_
                            refine lv_goto (tgt := 152) hx hb dX12_weeks_148 (by decide) ?_
                            refine lv_iadd hx hb dX12_weeks_152 ?_
                            refine lv_topi (fun z_83 ez_83 => ?_)
                            try have iz_83 : z_83.toInt = v8.toInt + (1 : Int) := by rw [ez_83]; exact tl_addN v8 1 rfl rfl (by omega) (by omega)
                            refine lv_istore (lv' := [(8, .int z_83), (7, .int v10), (11, .int r_58), (10, .int v10), (9, .int v9), (0, .ref o), (1, .int p0), (2, .int p1), (3, .int p2), (4, .int p3), (5, .int p4), (6, .int p5)]) hx hb dX12_weeks_153 hl (by decide) rfl (fun ls hl => ?_)
                            refine lv_iload hx hb dX12_weeks_155 (lv_at hl 2 rfl) ?_
                            refine lv_istore (lv' := [(9, .int r_58), (8, .int z_83), (7, .int v10), (11, .int r_58), (10, .int v10), (0, .ref o), (1, .int p0), (2, .int p1), (3, .int p2), (4, .int p3), (5, .int p4), (6, .int p5)]) hx hb dX12_weeks_157 hl (by decide) rfl (fun ls hl => ?_)
                            obtain ⟨z_84, ez_84⟩ : ∃ y : Int32, y = v10 + 1 := ⟨_, rfl⟩
                            refine lv_iinc (v := z_84) (lv' := [(10, .int z_84), (9, .int r_58), (8, .int z_83), (7, .int v10), (11, .int r_58), (0, .ref o), (1, .int p0), (2, .int p1), (3, .int p2), (4, .int p3), (5, .int p4), (6, .int p5)]) hx hb dX12_weeks_159 hl (k := 4) rfl (by rw [ez_84]; rfl) (by decide) rfl (fun ls hl => ?_)
                            try have iz_84 : z_84.toInt = v10.toInt + 1 := by rw [ez_84]; exact tl_addL v10 1 (by decide) (by omega) (by omega)
                            refine lv_goto (tgt := 95) hx hb dX12_weeks_162 (by decide) ?_
                            exact ih95 (f_41, z_84, r_58, z_83, v10) H locs ls (by show (400 - z_84.toInt).toNat < (400 - v10.toInt).toNat; omega) ⟨(show 0 ≤ z_84.toInt from (by omega)), hP, hI, hfr, hS, lv_sub hl [0, 1, 2, 3, 5, 6, 7, 8, 9, 10, 11] rfl⟩
                · have c_34 := hw_32.f c_34
                  refine lv_iconst (v := (-1)) hx hb dX12_weeks_75 (by decide) ?_
                  have hpo9 : Γ (39, 0, 0) 0 = Γ (39, 0, 0) 0 := (by omega)
                  exact W.iret (v := (-1)) hx hb hr (fun t ht hW => ⟨⟨_, (f, Γ), rfl, hpo9, by rw [ht]; exact hP, hI, hfr, hgr⟩, hS.F ht⟩) hS.2.2 dX12_weeks_76
set_option maxHeartbeats 4000000 in
set_option maxRecDepth 100000 in
theorem r_X12_odd (l : Launch) (D : va_G) (cy : Nat → ClassId) (sz : Nat) (L : List Nat) (K : Nat → tk_K) (Γ : tk_G) (f : Nat → va_E) (o : Nat) (p0 : Int32) (p1 : Int32) (ho : tp_r L K 39 (0) 0 o) (htx : tx_ok (Γ (43, 8800, 0)) (Γ (45, 1056, 0)) (Γ (46, 22, 0)) (Γ (47, 6, 0)) (Γ (48, 22, 0)) (Γ (49, 22, 0)) (Γ (50, 22, 0)) (Γ (51, 22, 0)) (Γ (42, 3, 0))) (hsd : ts_said (Γ (40, 7666, 0)) (Γ (42, 3, 0) 1)) : Met l yX12_odd (tl_w yX12_odd cX12_odd 9 (some .int)) ({ frames := 8, cells := 0, slots := 0, locals := 199 }) (va_Pc [.ref o, .int p0, .int p1] (tp_P D cy L K Γ f sz)) (va_Qi (fun (r : Int32) (u : (Nat → va_E) × tk_G) => u.2 (39, 0, 0) 0 = Γ (39, 0, 0) 0) (tp_BG D cy L K Γ f [39, 58, 57, 60, 61, 62, 63, 59, 64, 65, 66]) (tp_A L sz)) 0 0 (tp_A L sz) := by
  refine Met.ofW (cc := cX12_odd) (maxL := 9) (ret := (some .int)) (by decide) rfl ?_
  intro p e s m args below meth c s₁ B hml hv
  obtain ⟨rfl, hsz, hP, hK, hL, hI, hN, hU⟩ := hv
  have hx := B.exec
  have hb := B.bytes
  have hr := B.returns
  have hta := tl_hta (atoms_spec (ws := tl_w yX12_odd cX12_odd 9 (some .int)) B.pre)
  have hown : s.vm.findClass RX12 = some m.cls := findClass_of_methodNamed B.named
  have hlocks := B.notSynchronized
  subst hsz
  have hI0 := hI
  generalize hAe : tp_A L s.heap.size = A
  have hA : ∀ q : Nat, s.heap.size ≤ q → A q := fun q h => by rw [← hAe]; exact Or.inr h
  have hAL : ∀ q ∈ L, A q := fun q h => by rw [← hAe]; exact Or.inl h
  have hAf : ∀ (H : Heap), s.heap.size ≤ H.size → ∀ q, tp_A L H.size q → A q := fun H h q hq => hq.elim (hAL q) (fun h2 => hA q (Nat.le_trans h h2))
  have hS : va_S A s.heap s.heap [] := va_S.rf
  have hD : va_D A (va_pl L f) := tp_D hL hAL
  have hfr : ∀ b, (K b).1 ∉ ([39, 58, 57, 60, 61, 62, 63, 59, 64, 65, 66] : List Nat) → f b = f b := fun _ _ => rfl
  have hgr : ∀ κ : tk_K, κ.1 ∉ ([39, 58, 57, 60, 61, 62, 63, 59, 64, 65, 66] : List Nat) → Γ κ = Γ κ := fun _ _ => rfl
  have hl := lv_entry ([.ref o, .int p0, .int p1]) (n := 9) (Nat.le_of_ble_eq_true rfl)
  rw [lg_entry_eq]
  generalize (lg_sl ([.ref o, .int p0, .int p1]) ++ List.replicate (9 - (lg_sl ([.ref o, .int p0, .int p1])).length) Slot.unset).toArray = ls at hl ⊢
  have hl : lv_has ls 9 [(0, .ref o), (1, .int p0), (2, .int p1)] := hl
  have hs := ts_hs hsd
  have hraw := ts_raw hsd
  have hslp := ts_slp hsd
  have htb := htx.1
  refine lv_aload_n hx hb dX12_odd_0 rfl (lv_at hl 0 rfl) ?_
  refine lv_iconst (v := 1) hx hb dX12_odd_1 (by decide) ?_
  refine lv_iload_n hx hb dX12_odd_2 rfl (lv_at hl 1 rfl) ?_
  obtain ⟨r_2, v_3, q_4, hf_1, hr_5, hv_6⟩ := (show tp_o_M L K 0 0 (Γ (39, 0, 0)) (f o) from hI.at ho)
  refine tl_si (tq_rV (As := [.int 1, .int p0]) (rest := []) ⟨hx, hb, hml, hown, hta⟩ (tp_P.pre hK hN hL hU hI hP) (tp_recv hK hP ho.1 hf_1 rfl) lk_X12_382 (r_isText_1 l D cy s.heap.size L K Γ f o p0 ho) rfl rfl ⟨Nat.le_of_ble_eq_true rfl, Nat.le_of_ble_eq_true rfl⟩ rfl hl.1 rfl (Nat.le_of_ble_eq_true rfl) dX12_odd_3 ⟨Nat.le_of_ble_eq_true rfl, Nat.le_of_ble_eq_true rfl⟩) (fun r_15 hw_14 => ?_)
  have hw_14 : tl_E r_15 (0 ≤ p0.toInt ∧ p0.toInt < Γ (42, 3, 0) 1) 1 0 := hw_14
  refine lv_if_eq (tgt := 21) hx hb dX12_odd_6 (by decide) (fun c_16 => ?_) (fun c_16 => ?_)
  · have c_16 := hw_14.f c_16
    refine lv_iconst (v := (-1)) hx hb dX12_odd_21 (by decide) ?_
    have hpo9 : Γ (39, 0, 0) 0 = Γ (39, 0, 0) 0 := (by omega)
    exact W.iret (v := (-1)) hx hb hr (fun t ht hW => ⟨⟨_, (f, Γ), rfl, hpo9, by rw [ht]; exact hP, hI, hfr, hgr⟩, hS.F ht⟩) hS.2.2 dX12_odd_22
  · have c_16 := hw_14.t c_16
    refine lv_iload_n hx hb dX12_odd_9 rfl (lv_at hl 2 rfl) ?_
    refine lv_i2l (v := p1.toInt64) hx hb dX12_odd_10 (by first | rfl | decide) ?_
    refine lv_lconst (v := 0) hx hb dX12_odd_11 (by decide) ?_
    refine lv_ldc2 (v := 3) hx hb hown (hta _ wk_221) dX12_odd_12 ?_
    refine tl_si (tq_rS (As := [.long p1.toInt64, .long 0, .long 3]) (rest := []) ⟨hx, hb, hml, hown, hta⟩ (tp_P.pre hK hN hL hU hI hP) lk_X12_112 (r_X12_in l D cy s.heap.size L K Γ f p1.toInt64 0 3 ) rfl rfl ⟨Nat.le_of_ble_eq_true rfl, Nat.le_of_ble_eq_true rfl⟩ rfl hl.1 rfl (Nat.le_of_ble_eq_true rfl) dX12_odd_15 ⟨Nat.le_of_ble_eq_true rfl, Nat.le_of_ble_eq_true rfl⟩) (fun r_18 hw_17 => ?_)
    simp only [Int32.toInt_toInt64] at hw_17
    have hw_17 : tl_E r_18 ((0 : Int) ≤ p1.toInt ∧ p1.toInt ≤ (3 : Int)) 1 0 := hw_17
    refine lv_if_ne (tgt := 23) hx hb dX12_odd_18 (by decide) (fun c_19 => ?_) (fun c_19 => ?_)
    · have c_19 := hw_17.t c_19
      refine lv_aload_n hx hb dX12_odd_23 rfl (lv_at hl 0 rfl) ?_
      refine lv_iload_n hx hb dX12_odd_24 rfl (lv_at hl 1 rfl) ?_
      refine tq_cvR hS (hAf _ hS.1) (tq_rV (As := [.int p0]) (rest := []) ⟨hx, hb, hml, hown, hta⟩ (tp_P.pre hK hN hL hU hI hP) (tp_recv hK hP ho.1 hf_1 rfl) lk_X12_500 (r_X12_rows l D cy s.heap.size L K Γ f o p0 ho (by first | omega | (simp only [Int32.toInt_toInt64]; omega) | decide | assumption) (by first | omega | (simp only [Int32.toInt_toInt64]; omega) | decide | assumption) (by first | omega | (simp only [Int32.toInt_toInt64]; omega) | decide | assumption)) rfl rfl ⟨Nat.le_of_ble_eq_true rfl, Nat.le_of_ble_eq_true rfl⟩ rfl hl.1 rfl (Nat.le_of_ble_eq_true rfl) dX12_odd_25 ⟨Nat.le_of_ble_eq_true rfl, Nat.le_of_ble_eq_true rfl⟩) (fun f_22 Γ_24 H locs hw_20 hP hI hc_23 hcg_25 hS => ?_)
      have hD : va_D A (va_pl L f_22) := tp_D hL hAL
      have hfr := tp_fr2 hfr hc_23 (by decide)
      have hgr : ∀ κ : tk_K, κ.1 ∉ ([39, 58, 57, 60, 61, 62, 63, 59, 64, 65, 66] : List Nat) → Γ_24 κ = Γ κ := tg_fr2 hgr hcg_25 (by decide)
      have hw_20 : Γ_24 (39, 0, 0) 0 = Γ (39, 0, 0) 0 := hw_20
      refine lv_iconst (v := 0) hx hb dX12_odd_28 (by decide) ?_
      refine lv_istore_n (lv' := [(3, .int 0), (0, .ref o), (1, .int p0), (2, .int p1)]) hx hb dX12_odd_29 rfl hl (by decide) rfl (fun ls hl => ?_)
      refine lv_iconst (v := 0) hx hb dX12_odd_30 (by decide) ?_
      refine lv_istore (lv' := [(4, .int 0), (3, .int 0), (0, .ref o), (1, .int p0), (2, .int p1)]) hx hb dX12_odd_31 hl (by decide) rfl (fun ls hl => ?_)
      refine tl_ind (G := fun H locs ls => W p l e ((headSpec (tl_w yX12_odd cX12_odd 9 (some .int)) ({ frames := 8, cells := 0, slots := 0, locals := 199 })).room) s m #[.ref o, .int p0, .int p1] below meth c H locs 0 0 (MQ below (va_Qi (fun (r : Int32) (u : (Nat → va_E) × tk_G) => u.2 (39, 0, 0) 0 = Γ (39, 0, 0) 0) (tp_BG D cy L K Γ f [39, 58, 57, 60, 61, 62, 63, 59, 64, 65, 66]) A) #[.ref o, .int p0, .int p1] s 0 0 A) (F0 m 33 ls [])) (α := (Nat → va_E) × Int32 × Int32) (fun aq => (24 - aq.2.1.toInt).toNat) (fun aq H locs ls => (0 ≤ aq.2.1.toInt) ∧ va_P D vwCl (va_pl L aq.1) H ∧ tp_I cy L K Γ_24 aq.1 ∧ (∀ b, (K b).1 ∉ ([39, 58, 57, 60, 61, 62, 63, 59, 64, 65, 66] : List Nat) → aq.1 b = f b) ∧ va_S A s.heap H locs ∧ lv_has ls 9 [(4, .int aq.2.1), (3, .int aq.2.2), (0, .ref o), (1, .int p0), (2, .int p1)]) ?_ (f_22, (0 : Int32), (0 : Int32)) H locs ls ⟨(show 0 ≤ (0 : Int) from (by omega)), hP, hI, hfr, hS, lv_sub hl [0, 1, 2, 3, 4] rfl⟩
      rintro ⟨f_26, v4, v3⟩ H locs ls ⟨hr4, hP, hI, hfr, hS, hl⟩ ih33
      have hP : va_P D vwCl (va_pl L f_26) H := hP
      have hI : tp_I cy L K Γ_24 f_26 := hI
      have hfr : ∀ b, (K b).1 ∉ ([39, 58, 57, 60, 61, 62, 63, 59, 64, 65, 66] : List Nat) → f_26 b = f b := hfr
      have hD : va_D A (va_pl L f_26) := tp_D hL hAL
      have hr4 : 0 ≤ v4.toInt := hr4
      have hl : lv_has ls 9 [(4, .int v4), (3, .int v3), (0, .ref o), (1, .int p0), (2, .int p1)] := hl
      refine lv_iload hx hb dX12_odd_33 (lv_at hl 0 rfl) ?_
      refine lv_aload_n hx hb dX12_odd_35 rfl (lv_at hl 2 rfl) ?_
      obtain ⟨r_28, v_29, q_30, hf_27, hr_31, hv_32⟩ := (show tp_o_M L K 0 0 (Γ_24 (39, 0, 0)) (f_26 o) from hI.at ho)
      refine tp_get (cy := cy) (ci := 12) (v := .ref (r_28 0)) (C := RX12) (T := TX12) (N := 49) hx hb hta inlX12 hown hK hP ho.1 hf_27 rfl 0 (by decide) (hta _ wk_149) (fun _ h9 => h9) rfl dX12_odd_36 ?_
      refine lv_iconst (v := 1) hx hb dX12_odd_39 (by decide) ?_
      obtain ⟨g_41, hf_40, hg_42⟩ := (show tp_gi cy (7666) (Γ (40, 7666, 0)) (f (r_28 0)) from hI0.at (show tp_r L K 40 7666 0 (r_28 0) from hr_31 0 (by decide)))
      have hn_43 : vp_in 1 (7666) := tl_in (by decide) (by decide)
      refine tp_iald (cy := cy) hx hb hK hP (show tp_r L K 40 7666 0 (r_28 0) from hr_31 0 (by decide)).1 ((tp_un hfr (show tp_r L K 40 7666 0 (r_28 0) from hr_31 0 (by decide)) (by decide)).trans hf_40) hn_43 dX12_odd_40 ?_
      refine lv_topi (fun z_44 ez_44 => ?_)
      have iz_44 : z_44.toInt = Γ (40, 7666, 0) 1 := by rw [ez_44]; exact hg_42 _ (tp_pin hn_43)
      refine lv_icmp_ge (tgt := 79) hx hb dX12_odd_41 (by decide) (fun c_45 => ?_) (fun c_45 => ?_)
      · have c_45 : z_44.toInt ≤ v4.toInt := tl_le c_45
        refine lv_iload_n hx hb dX12_odd_79 rfl (lv_at hl 1 rfl) ?_
        refine lv_iconst (v := 3) hx hb dX12_odd_80 (by decide) ?_
        refine lv_icmp_ge (tgt := 87) hx hb dX12_odd_81 (by decide) (fun c_46 => ?_) (fun c_46 => ?_)
        · have c_46 : (3 : Int) ≤ v3.toInt := tl_le c_46
          refine lv_lconst (v := 0) hx hb dX12_odd_87 (by decide) ?_
          refine lv_lstore (lv' := [(4, .long 0), (3, .int v3), (0, .ref o), (1, .int p0), (2, .int p1)]) hx hb dX12_odd_88 hl (by decide) rfl (fun ls hl => ?_)
          refine lv_iconst (v := 0) hx hb dX12_odd_90 (by decide) ?_
          refine lv_istore (lv' := [(6, .int 0), (4, .long 0), (3, .int v3), (0, .ref o), (1, .int p0), (2, .int p1)]) hx hb dX12_odd_91 hl (by decide) rfl (fun ls hl => ?_)
          refine tl_ind (G := fun H locs ls => W p l e ((headSpec (tl_w yX12_odd cX12_odd 9 (some .int)) ({ frames := 8, cells := 0, slots := 0, locals := 199 })).room) s m #[.ref o, .int p0, .int p1] below meth c H locs 0 0 (MQ below (va_Qi (fun (r : Int32) (u : (Nat → va_E) × tk_G) => u.2 (39, 0, 0) 0 = Γ (39, 0, 0) 0) (tp_BG D cy L K Γ f [39, 58, 57, 60, 61, 62, 63, 59, 64, 65, 66]) A) #[.ref o, .int p0, .int p1] s 0 0 A) (F0 m 93 ls [])) (α := (Nat → va_E) × Int32 × Int64) (fun aq => (24 - aq.2.1.toInt).toNat) (fun aq H locs ls => (0 ≤ aq.2.1.toInt) ∧ va_P D vwCl (va_pl L aq.1) H ∧ tp_I cy L K Γ_24 aq.1 ∧ (∀ b, (K b).1 ∉ ([39, 58, 57, 60, 61, 62, 63, 59, 64, 65, 66] : List Nat) → aq.1 b = f b) ∧ va_S A s.heap H locs ∧ lv_has ls 9 [(6, .int aq.2.1), (4, .long aq.2.2), (3, .int v3), (0, .ref o), (1, .int p0), (2, .int p1)]) ?_ (f_26, (0 : Int32), (0 : Int64)) H locs ls ⟨(show 0 ≤ (0 : Int) from (by omega)), hP, hI, hfr, hS, lv_sub hl [0, 1, 2, 3, 4, 5] rfl⟩
          rintro ⟨f_47, v6, v4⟩ H locs ls ⟨hr6, hP, hI, hfr, hS, hl⟩ ih93
          have hP : va_P D vwCl (va_pl L f_47) H := hP
          have hI : tp_I cy L K Γ_24 f_47 := hI
          have hfr : ∀ b, (K b).1 ∉ ([39, 58, 57, 60, 61, 62, 63, 59, 64, 65, 66] : List Nat) → f_47 b = f b := hfr
          have hD : va_D A (va_pl L f_47) := tp_D hL hAL
          have hr6 : 0 ≤ v6.toInt := hr6
          have hl : lv_has ls 9 [(6, .int v6), (4, .long v4), (3, .int v3), (0, .ref o), (1, .int p0), (2, .int p1)] := hl
          refine lv_iload hx hb dX12_odd_93 (lv_at hl 0 rfl) ?_
          refine lv_aload_n hx hb dX12_odd_95 rfl (lv_at hl 3 rfl) ?_
          obtain ⟨r_49, v_50, q_51, hf_48, hr_52, hv_53⟩ := (show tp_o_M L K 0 0 (Γ_24 (39, 0, 0)) (f_47 o) from hI.at ho)
          refine tp_get (cy := cy) (ci := 12) (v := .ref (r_49 0)) (C := RX12) (T := TX12) (N := 49) hx hb hta inlX12 hown hK hP ho.1 hf_48 rfl 0 (by decide) (hta _ wk_149) (fun _ h9 => h9) rfl dX12_odd_96 ?_
          refine lv_iconst (v := 1) hx hb dX12_odd_99 (by decide) ?_
          obtain ⟨g_62, hf_61, hg_63⟩ := (show tp_gi cy (7666) (Γ (40, 7666, 0)) (f (r_49 0)) from hI0.at (show tp_r L K 40 7666 0 (r_49 0) from hr_52 0 (by decide)))
          have hn_64 : vp_in 1 (7666) := tl_in (by decide) (by decide)
          refine tp_iald (cy := cy) hx hb hK hP (show tp_r L K 40 7666 0 (r_49 0) from hr_52 0 (by decide)).1 ((tp_un hfr (show tp_r L K 40 7666 0 (r_49 0) from hr_52 0 (by decide)) (by decide)).trans hf_61) hn_64 dX12_odd_100 ?_
          refine lv_topi (fun z_65 ez_65 => ?_)
          have iz_65 : z_65.toInt = Γ (40, 7666, 0) 1 := by rw [ez_65]; exact hg_63 _ (tp_pin hn_64)
          refine lv_icmp_ge (tgt := 250) hx hb dX12_odd_101 (by decide) (fun c_66 => ?_) (fun c_66 => ?_)
          · have c_66 : z_65.toInt ≤ v6.toInt := tl_le c_66
            refine lv_iconst (v := (-1)) hx hb dX12_odd_250 (by decide) ?_
            refine lv_istore (lv' := [(6, .int (-1)), (4, .long v4), (3, .int v3), (0, .ref o), (1, .int p0), (2, .int p1)]) hx hb dX12_odd_251 hl (by decide) rfl (fun ls hl => ?_)
            refine lv_iconst (v := 0) hx hb dX12_odd_253 (by decide) ?_
            refine lv_istore (lv' := [(7, .int 0), (6, .int (-1)), (4, .long v4), (3, .int v3), (0, .ref o), (1, .int p0), (2, .int p1)]) hx hb dX12_odd_254 hl (by decide) rfl (fun ls hl => ?_)
            refine tl_ind (G := fun H locs ls => W p l e ((headSpec (tl_w yX12_odd cX12_odd 9 (some .int)) ({ frames := 8, cells := 0, slots := 0, locals := 199 })).room) s m #[.ref o, .int p0, .int p1] below meth c H locs 0 0 (MQ below (va_Qi (fun (r : Int32) (u : (Nat → va_E) × tk_G) => u.2 (39, 0, 0) 0 = Γ (39, 0, 0) 0) (tp_BG D cy L K Γ f [39, 58, 57, 60, 61, 62, 63, 59, 64, 65, 66]) A) #[.ref o, .int p0, .int p1] s 0 0 A) (F0 m 256 ls [])) (α := (Nat → va_E) × Int32 × Int32) (fun aq => (24 - aq.2.1.toInt).toNat) (fun aq H locs ls => (0 ≤ aq.2.1.toInt) ∧ (-1 ≤ aq.2.2.toInt ∧ aq.2.2.toInt ≤ 23) ∧ va_P D vwCl (va_pl L aq.1) H ∧ tp_I cy L K Γ_24 aq.1 ∧ (∀ b, (K b).1 ∉ ([39, 58, 57, 60, 61, 62, 63, 59, 64, 65, 66] : List Nat) → aq.1 b = f b) ∧ va_S A s.heap H locs ∧ lv_has ls 9 [(7, .int aq.2.1), (6, .int aq.2.2), (4, .long v4), (3, .int v3), (0, .ref o), (1, .int p0), (2, .int p1)]) ?_ (f_47, (0 : Int32), ((-1) : Int32)) H locs ls ⟨(show 0 ≤ (0 : Int) from (by omega)), (show -1 ≤ (-1 : Int) ∧ (-1 : Int) ≤ 23 from (by decide)), hP, hI, hfr, hS, lv_sub hl [0, 1, 2, 3, 4, 5, 6] rfl⟩
            rintro ⟨f_67, v7, v6⟩ H locs ls ⟨hr7, hb6, hP, hI, hfr, hS, hl⟩ ih256
            have hP : va_P D vwCl (va_pl L f_67) H := hP
            have hI : tp_I cy L K Γ_24 f_67 := hI
            have hfr : ∀ b, (K b).1 ∉ ([39, 58, 57, 60, 61, 62, 63, 59, 64, 65, 66] : List Nat) → f_67 b = f b := hfr
            have hD : va_D A (va_pl L f_67) := tp_D hL hAL
            have hr7 : 0 ≤ v7.toInt := hr7
            have hb6 : -1 ≤ v6.toInt ∧ v6.toInt ≤ 23 := hb6
            have hl : lv_has ls 9 [(7, .int v7), (6, .int v6), (4, .long v4), (3, .int v3), (0, .ref o), (1, .int p0), (2, .int p1)] := hl
            refine lv_iload hx hb dX12_odd_256 (lv_at hl 0 rfl) ?_
            refine lv_aload_n hx hb dX12_odd_258 rfl (lv_at hl 4 rfl) ?_
            obtain ⟨r_69, v_70, q_71, hf_68, hr_72, hv_73⟩ := (show tp_o_M L K 0 0 (Γ_24 (39, 0, 0)) (f_67 o) from hI.at ho)
            refine tp_get (cy := cy) (ci := 12) (v := .ref (r_69 0)) (C := RX12) (T := TX12) (N := 49) hx hb hta inlX12 hown hK hP ho.1 hf_68 rfl 0 (by decide) (hta _ wk_149) (fun _ h9 => h9) rfl dX12_odd_259 ?_
            refine lv_iconst (v := 1) hx hb dX12_odd_262 (by decide) ?_
            obtain ⟨g_82, hf_81, hg_83⟩ := (show tp_gi cy (7666) (Γ (40, 7666, 0)) (f (r_69 0)) from hI0.at (show tp_r L K 40 7666 0 (r_69 0) from hr_72 0 (by decide)))
            have hn_84 : vp_in 1 (7666) := tl_in (by decide) (by decide)
            refine tp_iald (cy := cy) hx hb hK hP (show tp_r L K 40 7666 0 (r_69 0) from hr_72 0 (by decide)).1 ((tp_un hfr (show tp_r L K 40 7666 0 (r_69 0) from hr_72 0 (by decide)) (by decide)).trans hf_81) hn_84 dX12_odd_263 ?_
            refine lv_topi (fun z_85 ez_85 => ?_)
            have iz_85 : z_85.toInt = Γ (40, 7666, 0) 1 := by rw [ez_85]; exact hg_83 _ (tp_pin hn_84)
            refine lv_icmp_ge (tgt := 336) hx hb dX12_odd_264 (by decide) (fun c_86 => ?_) (fun c_86 => ?_)
            · have c_86 : z_85.toInt ≤ v7.toInt := tl_le c_86
              refine lv_iload hx hb dX12_odd_336 (lv_at hl 1 rfl) ?_
              have hpo9 : Γ_24 (39, 0, 0) 0 = Γ (39, 0, 0) 0 := (by omega)
              exact W.iret (v := v6) hx hb hr (fun t ht hW => ⟨⟨_, (f_67, Γ_24), rfl, hpo9, by rw [ht]; exact hP, hI, hfr, hgr⟩, hS.F ht⟩) hS.2.2 dX12_odd_338
            · have c_86 : v7.toInt < z_85.toInt := tl_nle c_86
              refine lv_aload_n hx hb dX12_odd_267 rfl (lv_at hl 4 rfl) ?_
              refine tp_get (cy := cy) (ci := 12) (v := .ref (r_69 25)) (C := RX12) (T := TX12) (N := 49) hx hb hta inlX12 hown hK hP ho.1 hf_68 rfl 42 (by decide) (hta _ wk_175) (fun _ h9 => h9) rfl dX12_odd_268 ?_
              refine lv_iload hx hb dX12_odd_271 (lv_at hl 0 rfl) ?_
              obtain ⟨g_88, hf_87⟩ := (show tp_az cy (24) (f_67 (r_69 25)) from hI.at (show tp_r L K 65 24 0 (r_69 25) from hr_72 25 (by decide)))
              have hn_90 : vp_in v7 (24) := tl_in (by omega) (by omega)
              refine tp_zald (cy := cy) hx hb hK hP (show tp_r L K 65 24 0 (r_69 25) from hr_72 25 (by decide)).1 hf_87 hn_90 dX12_odd_273 ?_
              refine lv_topi (fun z_91 ez_91 => ?_)
              refine lv_if_eq (tgt := 330) hx hb dX12_odd_274 (by decide) (fun c_92 => ?_) (fun c_92 => ?_)
              · have c_92 : z_91.toInt = (0 : Int) := tl_eq c_92
                obtain ⟨z_93, ez_93⟩ : ∃ y : Int32, y = v7 + 1 := ⟨_, rfl⟩
                refine lv_iinc (v := z_93) (lv' := [(7, .int z_93), (6, .int v6), (4, .long v4), (3, .int v3), (0, .ref o), (1, .int p0), (2, .int p1)]) hx hb dX12_odd_330 hl (k := 0) rfl (by rw [ez_93]; rfl) (by decide) rfl (fun ls hl => ?_)
                try have iz_93 : z_93.toInt = v7.toInt + 1 := by rw [ez_93]; exact tl_addL v7 1 (by decide) (by omega) (by omega)
                refine lv_goto (tgt := 256) hx hb dX12_odd_333 (by decide) ?_
                exact ih256 (f_67, z_93, v6) H locs ls (by show (24 - z_93.toInt).toNat < (24 - v7.toInt).toNat; omega) ⟨(show 0 ≤ z_93.toInt from (by omega)), (show -1 ≤ v6.toInt ∧ v6.toInt ≤ 23 from (by omega)), hP, hI, hfr, hS, lv_sub hl [0, 1, 2, 3, 4, 5, 6] rfl⟩
              · have c_92 : ¬ z_91.toInt = (0 : Int) := tl_neq c_92
                refine lv_aload_n hx hb dX12_odd_277 rfl (lv_at hl 4 rfl) ?_
                refine lv_iload hx hb dX12_odd_278 (lv_at hl 0 rfl) ?_
                refine lv_iconst (v := 0) hx hb dX12_odd_280 (by decide) ?_
                refine tl_si (tq_rV (As := [.int v7, .int 0]) (rest := []) ⟨hx, hb, hml, hown, hta⟩ (tp_P.pre hK hN hL hU hI hP) (tp_recv hK hP ho.1 hf_68 rfl) lk_X12_132 (r_X12_rowOf l D cy H.size L K Γ_24 f_67 o v7 0 ho (by first | omega | (simp only [Int32.toInt_toInt64]; omega) | decide | assumption) (by first | omega | (simp only [Int32.toInt_toInt64]; omega) | decide | assumption)) rfl rfl ⟨Nat.le_of_ble_eq_true rfl, Nat.le_of_ble_eq_true rfl⟩ rfl hl.1 rfl (Nat.le_of_ble_eq_true rfl) dX12_odd_281 ⟨Nat.le_of_ble_eq_true rfl, Nat.le_of_ble_eq_true rfl⟩) (fun r_95 hw_94 => ?_)
                have hw_94 : r_95.toInt = Γ_24 (40, 7666, 0) (9 + 3 * v7.toInt + (0 : Int)).toNat := hw_94
                refine lv_iload_n hx hb dX12_odd_284 rfl (lv_at hl 6 rfl) ?_
                refine lv_icmp_eq (tgt := 291) hx hb dX12_odd_285 (by decide) (fun c_96 => ?_) (fun c_96 => ?_)
                · have c_96 : r_95.toInt = p1.toInt := tl_eq c_96
                  refine lv_iload hx hb dX12_odd_291 (lv_at hl 1 rfl) ?_
                  refine lv_if_lt (tgt := 326) hx hb dX12_odd_293 (by decide) (fun c_97 => ?_) (fun c_97 => ?_)
                  · have c_97 : v6.toInt < (0 : Int) := tl_lt c_97
                    refine lv_iload hx hb dX12_odd_326 (lv_at hl 0 rfl) ?_
                    refine lv_istore (lv' := [(6, .int v7), (7, .int v7), (4, .long v4), (3, .int v3), (0, .ref o), (1, .int p0), (2, .int p1)]) hx hb dX12_odd_328 hl (by decide) rfl (fun ls hl => ?_)
                    obtain ⟨z_98, ez_98⟩ : ∃ y : Int32, y = v7 + 1 := ⟨_, rfl⟩
                    refine lv_iinc (v := z_98) (lv' := [(7, .int z_98), (6, .int v7), (4, .long v4), (3, .int v3), (0, .ref o), (1, .int p0), (2, .int p1)]) hx hb dX12_odd_330 hl (k := 1) rfl (by rw [ez_98]; rfl) (by decide) rfl (fun ls hl => ?_)
                    try have iz_98 : z_98.toInt = v7.toInt + 1 := by rw [ez_98]; exact tl_addL v7 1 (by decide) (by omega) (by omega)
                    refine lv_goto (tgt := 256) hx hb dX12_odd_333 (by decide) ?_
                    exact ih256 (f_67, z_98, v7) H locs ls (by show (24 - z_98.toInt).toNat < (24 - v7.toInt).toNat; omega) ⟨(show 0 ≤ z_98.toInt from (by omega)), (show -1 ≤ v7.toInt ∧ v7.toInt ≤ 23 from (by omega)), hP, hI, hfr, hS, lv_sub hl [0, 1, 2, 3, 4, 5, 6] rfl⟩
                  · have c_97 : (0 : Int) ≤ v6.toInt := tl_nlt c_97
                    refine lv_aload_n hx hb dX12_odd_296 rfl (lv_at hl 4 rfl) ?_
                    refine tp_get (cy := cy) (ci := 12) (v := .ref (r_69 24)) (C := RX12) (T := TX12) (N := 49) hx hb hta inlX12 hown hK hP ho.1 hf_68 rfl 41 (by decide) (hta _ wk_174) (fun _ h9 => h9) rfl dX12_odd_297 ?_
                    refine lv_iload hx hb dX12_odd_300 (lv_at hl 0 rfl) ?_
                    obtain ⟨g_100, hf_99⟩ := (show tp_aj cy (24) (f_67 (r_69 24)) from hI.at (show tp_r L K 64 24 0 (r_69 24) from hr_72 24 (by decide)))
                    have hn_102 : vp_in v7 (24) := tl_in (by omega) (by omega)
                    refine tp_lald (cy := cy) hx hb hK hP (show tp_r L K 64 24 0 (r_69 24) from hr_72 24 (by decide)).1 hf_99 hn_102 dX12_odd_302 ?_
                    refine lv_topl (fun z_103 ez_103 => ?_)
                    refine lv_lload hx hb dX12_odd_303 (lv_at hl 2 rfl) ?_
                    refine lv_lsub hx hb dX12_odd_305 ?_
                    refine lv_topl (fun z_104 ez_104 => ?_)
                    refine tl_sl (tq_rS (As := [.long z_104]) (rest := []) ⟨hx, hb, hml, hown, hta⟩ (tp_P.pre hK hN hL hU hI hP) lk_X12_414 (r_X12_size l D cy H.size L K Γ_24 f_67 z_104 ) rfl rfl ⟨Nat.le_of_ble_eq_true rfl, Nat.le_of_ble_eq_true rfl⟩ rfl hl.1 rfl (Nat.le_of_ble_eq_true rfl) dX12_odd_306 ⟨Nat.le_of_ble_eq_true rfl, Nat.le_of_ble_eq_true rfl⟩) (fun r_106 hw_105 => ?_)
                    refine lv_aload_n hx hb dX12_odd_309 rfl (lv_at hl 4 rfl) ?_
                    refine tp_get (cy := cy) (ci := 12) (v := .ref (r_69 24)) (C := RX12) (T := TX12) (N := 49) hx hb hta inlX12 hown hK hP ho.1 hf_68 rfl 41 (by decide) (hta _ wk_174) (fun _ h9 => h9) rfl dX12_odd_310 ?_
                    refine lv_iload hx hb dX12_odd_313 (lv_at hl 1 rfl) ?_
                    have hn_107 : vp_in v6 (24) := tl_in (by omega) (by omega)
                    refine tp_lald (cy := cy) hx hb hK hP (show tp_r L K 64 24 0 (r_69 24) from hr_72 24 (by decide)).1 hf_99 hn_107 dX12_odd_315 ?_
                    refine lv_topl (fun z_108 ez_108 => ?_)
                    refine lv_lload hx hb dX12_odd_316 (lv_at hl 2 rfl) ?_
                    refine lv_lsub hx hb dX12_odd_318 ?_
                    refine lv_topl (fun z_109 ez_109 => ?_)
                    refine tl_sl (tq_rS (As := [.long z_109]) (rest := [.long r_106]) ⟨hx, hb, hml, hown, hta⟩ (tp_P.pre hK hN hL hU hI hP) lk_X12_414 (r_X12_size l D cy H.size L K Γ_24 f_67 z_109 ) rfl rfl ⟨Nat.le_of_ble_eq_true rfl, Nat.le_of_ble_eq_true rfl⟩ rfl hl.1 rfl (Nat.le_of_ble_eq_true rfl) dX12_odd_319 ⟨Nat.le_of_ble_eq_true rfl, Nat.le_of_ble_eq_true rfl⟩) (fun r_111 hw_110 => ?_)
                    refine W.lcmp hx hb dX12_odd_322 ?_
                    refine lv_if_le (tgt := 330) hx hb dX12_odd_323 (by decide) (fun c_112 => ?_) (fun c_112 => ?_)
                    · have c_112 : r_106.toInt ≤ r_111.toInt := tl_cmp_le c_112
                      obtain ⟨z_113, ez_113⟩ : ∃ y : Int32, y = v7 + 1 := ⟨_, rfl⟩
                      refine lv_iinc (v := z_113) (lv' := [(7, .int z_113), (6, .int v6), (4, .long v4), (3, .int v3), (0, .ref o), (1, .int p0), (2, .int p1)]) hx hb dX12_odd_330 hl (k := 0) rfl (by rw [ez_113]; rfl) (by decide) rfl (fun ls hl => ?_)
                      try have iz_113 : z_113.toInt = v7.toInt + 1 := by rw [ez_113]; exact tl_addL v7 1 (by decide) (by omega) (by omega)
                      refine lv_goto (tgt := 256) hx hb dX12_odd_333 (by decide) ?_
                      exact ih256 (f_67, z_113, v6) H locs ls (by show (24 - z_113.toInt).toNat < (24 - v7.toInt).toNat; omega) ⟨(show 0 ≤ z_113.toInt from (by omega)), (show -1 ≤ v6.toInt ∧ v6.toInt ≤ 23 from (by omega)), hP, hI, hfr, hS, lv_sub hl [0, 1, 2, 3, 4, 5, 6] rfl⟩
                    · have c_112 : r_106.toInt > r_111.toInt := tl_cmp_nle c_112
                      refine lv_iload hx hb dX12_odd_326 (lv_at hl 0 rfl) ?_
                      refine lv_istore (lv' := [(6, .int v7), (7, .int v7), (4, .long v4), (3, .int v3), (0, .ref o), (1, .int p0), (2, .int p1)]) hx hb dX12_odd_328 hl (by decide) rfl (fun ls hl => ?_)
                      obtain ⟨z_114, ez_114⟩ : ∃ y : Int32, y = v7 + 1 := ⟨_, rfl⟩
                      refine lv_iinc (v := z_114) (lv' := [(7, .int z_114), (6, .int v7), (4, .long v4), (3, .int v3), (0, .ref o), (1, .int p0), (2, .int p1)]) hx hb dX12_odd_330 hl (k := 1) rfl (by rw [ez_114]; rfl) (by decide) rfl (fun ls hl => ?_)
                      try have iz_114 : z_114.toInt = v7.toInt + 1 := by rw [ez_114]; exact tl_addL v7 1 (by decide) (by omega) (by omega)
                      refine lv_goto (tgt := 256) hx hb dX12_odd_333 (by decide) ?_
                      exact ih256 (f_67, z_114, v7) H locs ls (by show (24 - z_114.toInt).toNat < (24 - v7.toInt).toNat; omega) ⟨(show 0 ≤ z_114.toInt from (by omega)), (show -1 ≤ v7.toInt ∧ v7.toInt ≤ 23 from (by omega)), hP, hI, hfr, hS, lv_sub hl [0, 1, 2, 3, 4, 5, 6] rfl⟩
                · have c_96 : ¬ r_95.toInt = p1.toInt := tl_neq c_96
                  refine lv_goto (tgt := 330) hx hb dX12_odd_288 (by decide) ?_
                  obtain ⟨z_115, ez_115⟩ : ∃ y : Int32, y = v7 + 1 := ⟨_, rfl⟩
                  refine lv_iinc (v := z_115) (lv' := [(7, .int z_115), (6, .int v6), (4, .long v4), (3, .int v3), (0, .ref o), (1, .int p0), (2, .int p1)]) hx hb dX12_odd_330 hl (k := 0) rfl (by rw [ez_115]; rfl) (by decide) rfl (fun ls hl => ?_)
                  try have iz_115 : z_115.toInt = v7.toInt + 1 := by rw [ez_115]; exact tl_addL v7 1 (by decide) (by omega) (by omega)
                  refine lv_goto (tgt := 256) hx hb dX12_odd_333 (by decide) ?_
                  exact ih256 (f_67, z_115, v6) H locs ls (by show (24 - z_115.toInt).toNat < (24 - v7.toInt).toNat; omega) ⟨(show 0 ≤ z_115.toInt from (by omega)), (show -1 ≤ v6.toInt ∧ v6.toInt ≤ 23 from (by omega)), hP, hI, hfr, hS, lv_sub hl [0, 1, 2, 3, 4, 5, 6] rfl⟩
          · have c_66 : v6.toInt < z_65.toInt := tl_nle c_66
            refine lv_aload_n hx hb dX12_odd_104 rfl (lv_at hl 3 rfl) ?_
            refine tp_get (cy := cy) (ci := 12) (v := .ref (r_49 25)) (C := RX12) (T := TX12) (N := 49) hx hb hta inlX12 hown hK hP ho.1 hf_48 rfl 42 (by decide) (hta _ wk_175) (fun _ h9 => h9) rfl dX12_odd_105 ?_
            refine lv_iload hx hb dX12_odd_108 (lv_at hl 0 rfl) ?_
            obtain ⟨g_117, hf_116⟩ := (show tp_az cy (24) (f_47 (r_49 25)) from hI.at (show tp_r L K 65 24 0 (r_49 25) from hr_52 25 (by decide)))
            have hn_119 : vp_in v6 (24) := tl_in (by omega) (by omega)
            refine tp_zald (cy := cy) hx hb hK hP (show tp_r L K 65 24 0 (r_49 25) from hr_52 25 (by decide)).1 hf_116 hn_119 dX12_odd_110 ?_
            refine lv_topi (fun z_120 ez_120 => ?_)
            refine lv_if_eq (tgt := 244) hx hb dX12_odd_111 (by decide) (fun c_121 => ?_) (fun c_121 => ?_)
            · have c_121 : z_120.toInt = (0 : Int) := tl_eq c_121
              obtain ⟨z_122, ez_122⟩ : ∃ y : Int32, y = v6 + 1 := ⟨_, rfl⟩
              refine lv_iinc (v := z_122) (lv' := [(6, .int z_122), (4, .long v4), (3, .int v3), (0, .ref o), (1, .int p0), (2, .int p1)]) hx hb dX12_odd_244 hl (k := 0) rfl (by rw [ez_122]; rfl) (by decide) rfl (fun ls hl => ?_)
              try have iz_122 : z_122.toInt = v6.toInt + 1 := by rw [ez_122]; exact tl_addL v6 1 (by decide) (by omega) (by omega)
              refine lv_goto (tgt := 93) hx hb dX12_odd_247 (by decide) ?_
              exact ih93 (f_47, z_122, v4) H locs ls (by show (24 - z_122.toInt).toNat < (24 - v6.toInt).toNat; omega) ⟨(show 0 ≤ z_122.toInt from (by omega)), hP, hI, hfr, hS, lv_sub hl [0, 1, 2, 3, 4, 5] rfl⟩
            · have c_121 : ¬ z_120.toInt = (0 : Int) := tl_neq c_121
              refine lv_aload_n hx hb dX12_odd_114 rfl (lv_at hl 3 rfl) ?_
              refine lv_iload hx hb dX12_odd_115 (lv_at hl 0 rfl) ?_
              refine lv_iconst (v := 0) hx hb dX12_odd_117 (by decide) ?_
              refine tl_si (tq_rV (As := [.int v6, .int 0]) (rest := []) ⟨hx, hb, hml, hown, hta⟩ (tp_P.pre hK hN hL hU hI hP) (tp_recv hK hP ho.1 hf_48 rfl) lk_X12_132 (r_X12_rowOf l D cy H.size L K Γ_24 f_47 o v6 0 ho (by first | omega | (simp only [Int32.toInt_toInt64]; omega) | decide | assumption) (by first | omega | (simp only [Int32.toInt_toInt64]; omega) | decide | assumption)) rfl rfl ⟨Nat.le_of_ble_eq_true rfl, Nat.le_of_ble_eq_true rfl⟩ rfl hl.1 rfl (Nat.le_of_ble_eq_true rfl) dX12_odd_118 ⟨Nat.le_of_ble_eq_true rfl, Nat.le_of_ble_eq_true rfl⟩) (fun r_124 hw_123 => ?_)
              have hw_123 : r_124.toInt = Γ_24 (40, 7666, 0) (9 + 3 * v6.toInt + (0 : Int)).toNat := hw_123
              refine lv_iload_n hx hb dX12_odd_121 rfl (lv_at hl 5 rfl) ?_
              refine lv_icmp_eq (tgt := 128) hx hb dX12_odd_122 (by decide) (fun c_125 => ?_) (fun c_125 => ?_)
              · have c_125 : r_124.toInt = p1.toInt := tl_eq c_125
                refine lv_iconst (v := 0) hx hb dX12_odd_128 (by decide) ?_
                refine lv_istore (lv' := [(7, .int 0), (6, .int v6), (4, .long v4), (3, .int v3), (0, .ref o), (1, .int p0), (2, .int p1)]) hx hb dX12_odd_129 hl (by decide) rfl (fun ls hl => ?_)
                refine lv_iconst (v := 0) hx hb dX12_odd_131 (by decide) ?_
                refine lv_istore (lv' := [(8, .int 0), (7, .int 0), (6, .int v6), (4, .long v4), (3, .int v3), (0, .ref o), (1, .int p0), (2, .int p1)]) hx hb dX12_odd_132 hl (by decide) rfl (fun ls hl => ?_)
                refine tl_ind (G := fun H locs ls => W p l e ((headSpec (tl_w yX12_odd cX12_odd 9 (some .int)) ({ frames := 8, cells := 0, slots := 0, locals := 199 })).room) s m #[.ref o, .int p0, .int p1] below meth c H locs 0 0 (MQ below (va_Qi (fun (r : Int32) (u : (Nat → va_E) × tk_G) => u.2 (39, 0, 0) 0 = Γ (39, 0, 0) 0) (tp_BG D cy L K Γ f [39, 58, 57, 60, 61, 62, 63, 59, 64, 65, 66]) A) #[.ref o, .int p0, .int p1] s 0 0 A) (F0 m 134 ls [])) (α := (Nat → va_E) × Int32 × Int32) (fun aq => (24 - aq.2.1.toInt).toNat) (fun aq H locs ls => (0 ≤ aq.2.1.toInt) ∧ va_P D vwCl (va_pl L aq.1) H ∧ tp_I cy L K Γ_24 aq.1 ∧ (∀ b, (K b).1 ∉ ([39, 58, 57, 60, 61, 62, 63, 59, 64, 65, 66] : List Nat) → aq.1 b = f b) ∧ va_S A s.heap H locs ∧ lv_has ls 9 [(8, .int aq.2.1), (7, .int aq.2.2), (6, .int v6), (4, .long v4), (3, .int v3), (0, .ref o), (1, .int p0), (2, .int p1)]) ?_ (f_47, (0 : Int32), (0 : Int32)) H locs ls ⟨(show 0 ≤ (0 : Int) from (by omega)), hP, hI, hfr, hS, lv_sub hl [0, 1, 2, 3, 4, 5, 6, 7] rfl⟩
                rintro ⟨f_126, v8, v7⟩ H locs ls ⟨hr8, hP, hI, hfr, hS, hl⟩ ih134
                have hP : va_P D vwCl (va_pl L f_126) H := hP
                have hI : tp_I cy L K Γ_24 f_126 := hI
                have hfr : ∀ b, (K b).1 ∉ ([39, 58, 57, 60, 61, 62, 63, 59, 64, 65, 66] : List Nat) → f_126 b = f b := hfr
                have hD : va_D A (va_pl L f_126) := tp_D hL hAL
                have hr8 : 0 ≤ v8.toInt := hr8
                have hl : lv_has ls 9 [(8, .int v8), (7, .int v7), (6, .int v6), (4, .long v4), (3, .int v3), (0, .ref o), (1, .int p0), (2, .int p1)] := hl
                refine lv_iload hx hb dX12_odd_134 (lv_at hl 0 rfl) ?_
                refine lv_aload_n hx hb dX12_odd_136 rfl (lv_at hl 5 rfl) ?_
                obtain ⟨r_128, v_129, q_130, hf_127, hr_131, hv_132⟩ := (show tp_o_M L K 0 0 (Γ_24 (39, 0, 0)) (f_126 o) from hI.at ho)
                refine tp_get (cy := cy) (ci := 12) (v := .ref (r_128 0)) (C := RX12) (T := TX12) (N := 49) hx hb hta inlX12 hown hK hP ho.1 hf_127 rfl 0 (by decide) (hta _ wk_149) (fun _ h9 => h9) rfl dX12_odd_137 ?_
                refine lv_iconst (v := 1) hx hb dX12_odd_140 (by decide) ?_
                obtain ⟨g_141, hf_140, hg_142⟩ := (show tp_gi cy (7666) (Γ (40, 7666, 0)) (f (r_128 0)) from hI0.at (show tp_r L K 40 7666 0 (r_128 0) from hr_131 0 (by decide)))
                have hn_143 : vp_in 1 (7666) := tl_in (by decide) (by decide)
                refine tp_iald (cy := cy) hx hb hK hP (show tp_r L K 40 7666 0 (r_128 0) from hr_131 0 (by decide)).1 ((tp_un hfr (show tp_r L K 40 7666 0 (r_128 0) from hr_131 0 (by decide)) (by decide)).trans hf_140) hn_143 dX12_odd_141 ?_
                refine lv_topi (fun z_144 ez_144 => ?_)
                have iz_144 : z_144.toInt = Γ (40, 7666, 0) 1 := by rw [ez_144]; exact hg_142 _ (tp_pin hn_143)
                refine lv_icmp_ge (tgt := 225) hx hb dX12_odd_142 (by decide) (fun c_145 => ?_) (fun c_145 => ?_)
                · have c_145 : z_144.toInt ≤ v8.toInt := tl_le c_145
                  refine lv_iload hx hb dX12_odd_225 (lv_at hl 1 rfl) ?_
                  refine lv_iload_n hx hb dX12_odd_227 rfl (lv_at hl 4 rfl) ?_
                  refine lv_iconst (v := 1) hx hb dX12_odd_228 (by decide) ?_
                  refine lv_isub hx hb dX12_odd_229 ?_
                  refine lv_topi (fun z_146 ez_146 => ?_)
                  try have iz_146 : z_146.toInt = v3.toInt - (1 : Int) := by rw [ez_146]; exact tl_subN v3 1 rfl rfl (by omega) (by omega)
                  refine lv_iconst (v := 2) hx hb dX12_odd_230 (by decide) ?_
                  refine lv_idiv hx hb dX12_odd_231 (by decide) ?_
                  refine lv_topi (fun z_147 ez_147 => ?_)
                  refine lv_icmp_ne (tgt := 244) hx hb dX12_odd_232 (by decide) (fun c_148 => ?_) (fun c_148 => ?_)
                  · have c_148 : ¬ v7.toInt = z_147.toInt := tl_neq c_148
                    obtain ⟨z_149, ez_149⟩ : ∃ y : Int32, y = v6 + 1 := ⟨_, rfl⟩
                    refine lv_iinc (v := z_149) (lv' := [(6, .int z_149), (8, .int v8), (7, .int v7), (4, .long v4), (3, .int v3), (0, .ref o), (1, .int p0), (2, .int p1)]) hx hb dX12_odd_244 hl (k := 2) rfl (by rw [ez_149]; rfl) (by decide) rfl (fun ls hl => ?_)
                    try have iz_149 : z_149.toInt = v6.toInt + 1 := by rw [ez_149]; exact tl_addL v6 1 (by decide) (by omega) (by omega)
                    refine lv_goto (tgt := 93) hx hb dX12_odd_247 (by decide) ?_
                    exact ih93 (f_126, z_149, v4) H locs ls (by show (24 - z_149.toInt).toNat < (24 - v6.toInt).toNat; omega) ⟨(show 0 ≤ z_149.toInt from (by omega)), hP, hI, hfr, hS, lv_sub hl [0, 3, 4, 5, 6, 7] rfl⟩
                  · have c_148 : v7.toInt = z_147.toInt := tl_eq c_148
                    refine lv_aload_n hx hb dX12_odd_235 rfl (lv_at hl 5 rfl) ?_
                    refine tp_get (cy := cy) (ci := 12) (v := .ref (r_128 24)) (C := RX12) (T := TX12) (N := 49) hx hb hta inlX12 hown hK hP ho.1 hf_127 rfl 41 (by decide) (hta _ wk_174) (fun _ h9 => h9) rfl dX12_odd_236 ?_
                    refine lv_iload hx hb dX12_odd_239 (lv_at hl 2 rfl) ?_
                    obtain ⟨g_151, hf_150⟩ := (show tp_aj cy (24) (f_126 (r_128 24)) from hI.at (show tp_r L K 64 24 0 (r_128 24) from hr_131 24 (by decide)))
                    have hn_153 : vp_in v6 (24) := tl_in (by omega) (by omega)
                    refine tp_lald (cy := cy) hx hb hK hP (show tp_r L K 64 24 0 (r_128 24) from hr_131 24 (by decide)).1 hf_150 hn_153 dX12_odd_241 ?_
                    refine lv_topl (fun z_154 ez_154 => ?_)
                    refine lv_lstore (lv' := [(4, .long z_154), (8, .int v8), (7, .int v7), (6, .int v6), (3, .int v3), (0, .ref o), (1, .int p0), (2, .int p1)]) hx hb dX12_odd_242 hl (by decide) rfl (fun ls hl => ?_)
                    obtain ⟨z_155, ez_155⟩ : ∃ y : Int32, y = v6 + 1 := ⟨_, rfl⟩
                    refine lv_iinc (v := z_155) (lv' := [(6, .int z_155), (4, .long z_154), (8, .int v8), (7, .int v7), (3, .int v3), (0, .ref o), (1, .int p0), (2, .int p1)]) hx hb dX12_odd_244 hl (k := 3) rfl (by rw [ez_155]; rfl) (by decide) rfl (fun ls hl => ?_)
                    try have iz_155 : z_155.toInt = v6.toInt + 1 := by rw [ez_155]; exact tl_addL v6 1 (by decide) (by omega) (by omega)
                    refine lv_goto (tgt := 93) hx hb dX12_odd_247 (by decide) ?_
                    exact ih93 (f_126, z_155, z_154) H locs ls (by show (24 - z_155.toInt).toNat < (24 - v6.toInt).toNat; omega) ⟨(show 0 ≤ z_155.toInt from (by omega)), hP, hI, hfr, hS, lv_sub hl [0, 1, 4, 5, 6, 7] rfl⟩
                · have c_145 : v8.toInt < z_144.toInt := tl_nle c_145
                  refine lv_iload hx hb dX12_odd_145 (lv_at hl 1 rfl) ?_
                  refine lv_aload_n hx hb dX12_odd_147 rfl (lv_at hl 5 rfl) ?_
                  refine tp_get (cy := cy) (ci := 12) (v := .ref (r_128 25)) (C := RX12) (T := TX12) (N := 49) hx hb hta inlX12 hown hK hP ho.1 hf_127 rfl 42 (by decide) (hta _ wk_175) (fun _ h9 => h9) rfl dX12_odd_148 ?_
                  refine lv_iload hx hb dX12_odd_151 (lv_at hl 0 rfl) ?_
                  obtain ⟨g_157, hf_156⟩ := (show tp_az cy (24) (f_126 (r_128 25)) from hI.at (show tp_r L K 65 24 0 (r_128 25) from hr_131 25 (by decide)))
                  have hn_159 : vp_in v8 (24) := tl_in (by omega) (by omega)
                  refine tp_zald (cy := cy) hx hb hK hP (show tp_r L K 65 24 0 (r_128 25) from hr_131 25 (by decide)).1 hf_156 hn_159 dX12_odd_153 ?_
                  refine lv_topi (fun z_160 ez_160 => ?_)
                  refine lv_if_eq (tgt := 215) hx hb dX12_odd_154 (by decide) (fun c_161 => ?_) (fun c_161 => ?_)
                  · have c_161 : z_160.toInt = (0 : Int) := tl_eq c_161
                    refine lv_iconst (v := 0) hx hb dX12_odd_215 (by decide) ?_
                    refine lv_iadd hx hb dX12_odd_216 ?_
                    refine lv_topi (fun z_162 ez_162 => ?_)
                    try have iz_162 : z_162.toInt = v7.toInt + (0 : Int) := by rw [ez_162]; exact tl_addN v7 0 rfl rfl (by omega) (by omega)
                    refine lv_istore (lv' := [(7, .int z_162), (8, .int v8), (6, .int v6), (4, .long v4), (3, .int v3), (0, .ref o), (1, .int p0), (2, .int p1)]) hx hb dX12_odd_217 hl (by decide) rfl (fun ls hl => ?_)
                    obtain ⟨z_163, ez_163⟩ : ∃ y : Int32, y = v8 + 1 := ⟨_, rfl⟩
                    refine lv_iinc (v := z_163) (lv' := [(8, .int z_163), (7, .int z_162), (6, .int v6), (4, .long v4), (3, .int v3), (0, .ref o), (1, .int p0), (2, .int p1)]) hx hb dX12_odd_219 hl (k := 1) rfl (by rw [ez_163]; rfl) (by decide) rfl (fun ls hl => ?_)
                    try have iz_163 : z_163.toInt = v8.toInt + 1 := by rw [ez_163]; exact tl_addL v8 1 (by decide) (by omega) (by omega)
                    refine lv_goto (tgt := 134) hx hb dX12_odd_222 (by decide) ?_
                    exact ih134 (f_126, z_163, z_162) H locs ls (by show (24 - z_163.toInt).toNat < (24 - v8.toInt).toNat; omega) ⟨(show 0 ≤ z_163.toInt from (by omega)), hP, hI, hfr, hS, lv_sub hl [0, 1, 2, 3, 4, 5, 6, 7] rfl⟩
                  · have c_161 : ¬ z_160.toInt = (0 : Int) := tl_neq c_161
                    refine lv_aload_n hx hb dX12_odd_157 rfl (lv_at hl 5 rfl) ?_
                    refine lv_iload hx hb dX12_odd_158 (lv_at hl 0 rfl) ?_
                    refine lv_iconst (v := 0) hx hb dX12_odd_160 (by decide) ?_
                    refine tl_si (tq_rV (As := [.int v8, .int 0]) (rest := [.int v7]) ⟨hx, hb, hml, hown, hta⟩ (tp_P.pre hK hN hL hU hI hP) (tp_recv hK hP ho.1 hf_127 rfl) lk_X12_132 (r_X12_rowOf l D cy H.size L K Γ_24 f_126 o v8 0 ho (by first | omega | (simp only [Int32.toInt_toInt64]; omega) | decide | assumption) (by first | omega | (simp only [Int32.toInt_toInt64]; omega) | decide | assumption)) rfl rfl ⟨Nat.le_of_ble_eq_true rfl, Nat.le_of_ble_eq_true rfl⟩ rfl hl.1 rfl (Nat.le_of_ble_eq_true rfl) dX12_odd_161 ⟨Nat.le_of_ble_eq_true rfl, Nat.le_of_ble_eq_true rfl⟩) (fun r_165 hw_164 => ?_)
                    have hw_164 : r_165.toInt = Γ_24 (40, 7666, 0) (9 + 3 * v8.toInt + (0 : Int)).toNat := hw_164
                    refine lv_iload_n hx hb dX12_odd_164 rfl (lv_at hl 7 rfl) ?_
                    refine lv_icmp_ne (tgt := 215) hx hb dX12_odd_165 (by decide) (fun c_166 => ?_) (fun c_166 => ?_)
                    · have c_166 : ¬ r_165.toInt = p1.toInt := tl_neq c_166
                      refine lv_iconst (v := 0) hx hb dX12_odd_215 (by decide) ?_
                      refine lv_iadd hx hb dX12_odd_216 ?_
                      refine lv_topi (fun z_167 ez_167 => ?_)
                      try have iz_167 : z_167.toInt = v7.toInt + (0 : Int) := by rw [ez_167]; exact tl_addN v7 0 rfl rfl (by omega) (by omega)
                      refine lv_istore (lv' := [(7, .int z_167), (8, .int v8), (6, .int v6), (4, .long v4), (3, .int v3), (0, .ref o), (1, .int p0), (2, .int p1)]) hx hb dX12_odd_217 hl (by decide) rfl (fun ls hl => ?_)
                      obtain ⟨z_168, ez_168⟩ : ∃ y : Int32, y = v8 + 1 := ⟨_, rfl⟩
                      refine lv_iinc (v := z_168) (lv' := [(8, .int z_168), (7, .int z_167), (6, .int v6), (4, .long v4), (3, .int v3), (0, .ref o), (1, .int p0), (2, .int p1)]) hx hb dX12_odd_219 hl (k := 1) rfl (by rw [ez_168]; rfl) (by decide) rfl (fun ls hl => ?_)
                      try have iz_168 : z_168.toInt = v8.toInt + 1 := by rw [ez_168]; exact tl_addL v8 1 (by decide) (by omega) (by omega)
                      refine lv_goto (tgt := 134) hx hb dX12_odd_222 (by decide) ?_
                      exact ih134 (f_126, z_168, z_167) H locs ls (by show (24 - z_168.toInt).toNat < (24 - v8.toInt).toNat; omega) ⟨(show 0 ≤ z_168.toInt from (by omega)), hP, hI, hfr, hS, lv_sub hl [0, 1, 2, 3, 4, 5, 6, 7] rfl⟩
                    · have c_166 : r_165.toInt = p1.toInt := tl_eq c_166
                      refine lv_aload_n hx hb dX12_odd_168 rfl (lv_at hl 5 rfl) ?_
                      refine tp_get (cy := cy) (ci := 12) (v := .ref (r_128 24)) (C := RX12) (T := TX12) (N := 49) hx hb hta inlX12 hown hK hP ho.1 hf_127 rfl 41 (by decide) (hta _ wk_174) (fun _ h9 => h9) rfl dX12_odd_169 ?_
                      refine lv_iload hx hb dX12_odd_172 (lv_at hl 0 rfl) ?_
                      obtain ⟨g_170, hf_169⟩ := (show tp_aj cy (24) (f_126 (r_128 24)) from hI.at (show tp_r L K 64 24 0 (r_128 24) from hr_131 24 (by decide)))
                      have hn_172 : vp_in v8 (24) := tl_in (by omega) (by omega)
                      refine tp_lald (cy := cy) hx hb hK hP (show tp_r L K 64 24 0 (r_128 24) from hr_131 24 (by decide)).1 hf_169 hn_172 dX12_odd_174 ?_
                      refine lv_topl (fun z_173 ez_173 => ?_)
                      refine lv_aload_n hx hb dX12_odd_175 rfl (lv_at hl 5 rfl) ?_
                      refine tp_get (cy := cy) (ci := 12) (v := .ref (r_128 24)) (C := RX12) (T := TX12) (N := 49) hx hb hta inlX12 hown hK hP ho.1 hf_127 rfl 41 (by decide) (hta _ wk_174) (fun _ h9 => h9) rfl dX12_odd_176 ?_
                      refine lv_iload hx hb dX12_odd_179 (lv_at hl 2 rfl) ?_
                      have hn_174 : vp_in v6 (24) := tl_in (by omega) (by omega)
                      refine tp_lald (cy := cy) hx hb hK hP (show tp_r L K 64 24 0 (r_128 24) from hr_131 24 (by decide)).1 hf_169 hn_174 dX12_odd_181 ?_
                      refine lv_topl (fun z_175 ez_175 => ?_)
                      refine W.lcmp hx hb dX12_odd_182 ?_
                      refine lv_if_lt (tgt := 211) hx hb dX12_odd_183 (by decide) (fun c_176 => ?_) (fun c_176 => ?_)
                      · have c_176 : z_173.toInt < z_175.toInt := tl_cmp_lt c_176
                        refine lv_iconst (v := 1) hx hb dX12_odd_211 (by decide) ?_
                        refine lv_goto (tgt := 216) hx hb dX12_odd_212 (by decide) ?_
                        refine lv_iadd hx hb dX12_odd_216 ?_
                        refine lv_topi (fun z_177 ez_177 => ?_)
                        try have iz_177 : z_177.toInt = v7.toInt + (1 : Int) := by rw [ez_177]; exact tl_addN v7 1 rfl rfl (by omega) (by omega)
                        refine lv_istore (lv' := [(7, .int z_177), (8, .int v8), (6, .int v6), (4, .long v4), (3, .int v3), (0, .ref o), (1, .int p0), (2, .int p1)]) hx hb dX12_odd_217 hl (by decide) rfl (fun ls hl => ?_)
                        obtain ⟨z_178, ez_178⟩ : ∃ y : Int32, y = v8 + 1 := ⟨_, rfl⟩
                        refine lv_iinc (v := z_178) (lv' := [(8, .int z_178), (7, .int z_177), (6, .int v6), (4, .long v4), (3, .int v3), (0, .ref o), (1, .int p0), (2, .int p1)]) hx hb dX12_odd_219 hl (k := 1) rfl (by rw [ez_178]; rfl) (by decide) rfl (fun ls hl => ?_)
                        try have iz_178 : z_178.toInt = v8.toInt + 1 := by rw [ez_178]; exact tl_addL v8 1 (by decide) (by omega) (by omega)
                        refine lv_goto (tgt := 134) hx hb dX12_odd_222 (by decide) ?_
                        exact ih134 (f_126, z_178, z_177) H locs ls (by show (24 - z_178.toInt).toNat < (24 - v8.toInt).toNat; omega) ⟨(show 0 ≤ z_178.toInt from (by omega)), hP, hI, hfr, hS, lv_sub hl [0, 1, 2, 3, 4, 5, 6, 7] rfl⟩
                      · have c_176 : z_173.toInt ≥ z_175.toInt := tl_cmp_nlt c_176
                        refine lv_aload_n hx hb dX12_odd_186 rfl (lv_at hl 5 rfl) ?_
                        refine tp_get (cy := cy) (ci := 12) (v := .ref (r_128 24)) (C := RX12) (T := TX12) (N := 49) hx hb hta inlX12 hown hK hP ho.1 hf_127 rfl 41 (by decide) (hta _ wk_174) (fun _ h9 => h9) rfl dX12_odd_187 ?_
                        refine lv_iload hx hb dX12_odd_190 (lv_at hl 0 rfl) ?_
                        have hn_179 : vp_in v8 (24) := tl_in (by omega) (by omega)
                        refine tp_lald (cy := cy) hx hb hK hP (show tp_r L K 64 24 0 (r_128 24) from hr_131 24 (by decide)).1 hf_169 hn_179 dX12_odd_192 ?_
                        refine lv_topl (fun z_180 ez_180 => ?_)
                        obtain rfl : z_173 = z_180 := ez_173.trans ez_180.symm
                        refine lv_aload_n hx hb dX12_odd_193 rfl (lv_at hl 5 rfl) ?_
                        refine tp_get (cy := cy) (ci := 12) (v := .ref (r_128 24)) (C := RX12) (T := TX12) (N := 49) hx hb hta inlX12 hown hK hP ho.1 hf_127 rfl 41 (by decide) (hta _ wk_174) (fun _ h9 => h9) rfl dX12_odd_194 ?_
                        refine lv_iload hx hb dX12_odd_197 (lv_at hl 2 rfl) ?_
                        have hn_181 : vp_in v6 (24) := tl_in (by omega) (by omega)
                        refine tp_lald (cy := cy) hx hb hK hP (show tp_r L K 64 24 0 (r_128 24) from hr_131 24 (by decide)).1 hf_169 hn_181 dX12_odd_199 ?_
                        refine lv_topl (fun z_182 ez_182 => ?_)
                        obtain rfl : z_175 = z_182 := ez_175.trans ez_182.symm
                        refine W.lcmp hx hb dX12_odd_200 ?_
                        refine lv_if_ne (tgt := 215) hx hb dX12_odd_201 (by decide) (fun c_183 => ?_) (fun c_183 => ?_)
                        · have c_183 : ¬ z_173.toInt = z_175.toInt := tl_cmp_ne c_183
                          refine lv_iconst (v := 0) hx hb dX12_odd_215 (by decide) ?_
                          refine lv_iadd hx hb dX12_odd_216 ?_
                          refine lv_topi (fun z_184 ez_184 => ?_)
                          try have iz_184 : z_184.toInt = v7.toInt + (0 : Int) := by rw [ez_184]; exact tl_addN v7 0 rfl rfl (by omega) (by omega)
                          refine lv_istore (lv' := [(7, .int z_184), (8, .int v8), (6, .int v6), (4, .long v4), (3, .int v3), (0, .ref o), (1, .int p0), (2, .int p1)]) hx hb dX12_odd_217 hl (by decide) rfl (fun ls hl => ?_)
                          obtain ⟨z_185, ez_185⟩ : ∃ y : Int32, y = v8 + 1 := ⟨_, rfl⟩
                          refine lv_iinc (v := z_185) (lv' := [(8, .int z_185), (7, .int z_184), (6, .int v6), (4, .long v4), (3, .int v3), (0, .ref o), (1, .int p0), (2, .int p1)]) hx hb dX12_odd_219 hl (k := 1) rfl (by rw [ez_185]; rfl) (by decide) rfl (fun ls hl => ?_)
                          try have iz_185 : z_185.toInt = v8.toInt + 1 := by rw [ez_185]; exact tl_addL v8 1 (by decide) (by omega) (by omega)
                          refine lv_goto (tgt := 134) hx hb dX12_odd_222 (by decide) ?_
                          exact ih134 (f_126, z_185, z_184) H locs ls (by show (24 - z_185.toInt).toNat < (24 - v8.toInt).toNat; omega) ⟨(show 0 ≤ z_185.toInt from (by omega)), hP, hI, hfr, hS, lv_sub hl [0, 1, 2, 3, 4, 5, 6, 7] rfl⟩
                        · have c_183 : z_173.toInt = z_175.toInt := tl_cmp_nne c_183
                          refine lv_iload hx hb dX12_odd_204 (lv_at hl 0 rfl) ?_
                          refine lv_iload hx hb dX12_odd_206 (lv_at hl 2 rfl) ?_
                          refine lv_icmp_ge (tgt := 215) hx hb dX12_odd_208 (by decide) (fun c_186 => ?_) (fun c_186 => ?_)
                          · have c_186 : v6.toInt ≤ v8.toInt := tl_le c_186
                            refine lv_iconst (v := 0) hx hb dX12_odd_215 (by decide) ?_
                            refine lv_iadd hx hb dX12_odd_216 ?_
                            refine lv_topi (fun z_187 ez_187 => ?_)
                            try have iz_187 : z_187.toInt = v7.toInt + (0 : Int) := by rw [ez_187]; exact tl_addN v7 0 rfl rfl (by omega) (by omega)
                            refine lv_istore (lv' := [(7, .int z_187), (8, .int v8), (6, .int v6), (4, .long v4), (3, .int v3), (0, .ref o), (1, .int p0), (2, .int p1)]) hx hb dX12_odd_217 hl (by decide) rfl (fun ls hl => ?_)
                            obtain ⟨z_188, ez_188⟩ : ∃ y : Int32, y = v8 + 1 := ⟨_, rfl⟩
                            refine lv_iinc (v := z_188) (lv' := [(8, .int z_188), (7, .int z_187), (6, .int v6), (4, .long v4), (3, .int v3), (0, .ref o), (1, .int p0), (2, .int p1)]) hx hb dX12_odd_219 hl (k := 1) rfl (by rw [ez_188]; rfl) (by decide) rfl (fun ls hl => ?_)
                            try have iz_188 : z_188.toInt = v8.toInt + 1 := by rw [ez_188]; exact tl_addL v8 1 (by decide) (by omega) (by omega)
                            refine lv_goto (tgt := 134) hx hb dX12_odd_222 (by decide) ?_
                            exact ih134 (f_126, z_188, z_187) H locs ls (by show (24 - z_188.toInt).toNat < (24 - v8.toInt).toNat; omega) ⟨(show 0 ≤ z_188.toInt from (by omega)), hP, hI, hfr, hS, lv_sub hl [0, 1, 2, 3, 4, 5, 6, 7] rfl⟩
                          · have c_186 : v8.toInt < v6.toInt := tl_nle c_186
                            refine lv_iconst (v := 1) hx hb dX12_odd_211 (by decide) ?_
                            refine lv_goto (tgt := 216) hx hb dX12_odd_212 (by decide) ?_
                            refine lv_iadd hx hb dX12_odd_216 ?_
                            refine lv_topi (fun z_189 ez_189 => ?_)
                            try have iz_189 : z_189.toInt = v7.toInt + (1 : Int) := by rw [ez_189]; exact tl_addN v7 1 rfl rfl (by omega) (by omega)
                            refine lv_istore (lv' := [(7, .int z_189), (8, .int v8), (6, .int v6), (4, .long v4), (3, .int v3), (0, .ref o), (1, .int p0), (2, .int p1)]) hx hb dX12_odd_217 hl (by decide) rfl (fun ls hl => ?_)
                            obtain ⟨z_190, ez_190⟩ : ∃ y : Int32, y = v8 + 1 := ⟨_, rfl⟩
                            refine lv_iinc (v := z_190) (lv' := [(8, .int z_190), (7, .int z_189), (6, .int v6), (4, .long v4), (3, .int v3), (0, .ref o), (1, .int p0), (2, .int p1)]) hx hb dX12_odd_219 hl (k := 1) rfl (by rw [ez_190]; rfl) (by decide) rfl (fun ls hl => ?_)
                            try have iz_190 : z_190.toInt = v8.toInt + 1 := by rw [ez_190]; exact tl_addL v8 1 (by decide) (by omega) (by omega)
                            refine lv_goto (tgt := 134) hx hb dX12_odd_222 (by decide) ?_
                            exact ih134 (f_126, z_190, z_189) H locs ls (by show (24 - z_190.toInt).toNat < (24 - v8.toInt).toNat; omega) ⟨(show 0 ≤ z_190.toInt from (by omega)), hP, hI, hfr, hS, lv_sub hl [0, 1, 2, 3, 4, 5, 6, 7] rfl⟩
              · have c_125 : ¬ r_124.toInt = p1.toInt := tl_neq c_125
                refine lv_goto (tgt := 244) hx hb dX12_odd_125 (by decide) ?_
                obtain ⟨z_191, ez_191⟩ : ∃ y : Int32, y = v6 + 1 := ⟨_, rfl⟩
                refine lv_iinc (v := z_191) (lv' := [(6, .int z_191), (4, .long v4), (3, .int v3), (0, .ref o), (1, .int p0), (2, .int p1)]) hx hb dX12_odd_244 hl (k := 0) rfl (by rw [ez_191]; rfl) (by decide) rfl (fun ls hl => ?_)
                try have iz_191 : z_191.toInt = v6.toInt + 1 := by rw [ez_191]; exact tl_addL v6 1 (by decide) (by omega) (by omega)
                refine lv_goto (tgt := 93) hx hb dX12_odd_247 (by decide) ?_
                exact ih93 (f_47, z_191, v4) H locs ls (by show (24 - z_191.toInt).toNat < (24 - v6.toInt).toNat; omega) ⟨(show 0 ≤ z_191.toInt from (by omega)), hP, hI, hfr, hS, lv_sub hl [0, 1, 2, 3, 4, 5] rfl⟩
        · have c_46 : v3.toInt < (3 : Int) := tl_nle c_46
          refine lv_bipush (v := (-2)) hx hb dX12_odd_84 (by decide) ?_
          have hpo9 : Γ_24 (39, 0, 0) 0 = Γ (39, 0, 0) 0 := (by omega)
          exact W.iret (v := (-2)) hx hb hr (fun t ht hW => ⟨⟨_, (f_26, Γ_24), rfl, hpo9, by rw [ht]; exact hP, hI, hfr, hgr⟩, hS.F ht⟩) hS.2.2 dX12_odd_86
      · have c_45 : v4.toInt < z_44.toInt := tl_nle c_45
        refine lv_iload_n hx hb dX12_odd_44 rfl (lv_at hl 1 rfl) ?_
        refine lv_aload_n hx hb dX12_odd_45 rfl (lv_at hl 2 rfl) ?_
        refine tp_get (cy := cy) (ci := 12) (v := .ref (r_28 25)) (C := RX12) (T := TX12) (N := 49) hx hb hta inlX12 hown hK hP ho.1 hf_27 rfl 42 (by decide) (hta _ wk_175) (fun _ h9 => h9) rfl dX12_odd_46 ?_
        refine lv_iload hx hb dX12_odd_49 (lv_at hl 0 rfl) ?_
        obtain ⟨g_193, hf_192⟩ := (show tp_az cy (24) (f_26 (r_28 25)) from hI.at (show tp_r L K 65 24 0 (r_28 25) from hr_31 25 (by decide)))
        have hn_195 : vp_in v4 (24) := tl_in (by omega) (by omega)
        refine tp_zald (cy := cy) hx hb hK hP (show tp_r L K 65 24 0 (r_28 25) from hr_31 25 (by decide)).1 hf_192 hn_195 dX12_odd_51 ?_
        refine lv_topi (fun z_196 ez_196 => ?_)
        refine lv_if_eq (tgt := 70) hx hb dX12_odd_52 (by decide) (fun c_197 => ?_) (fun c_197 => ?_)
        · have c_197 : z_196.toInt = (0 : Int) := tl_eq c_197
          refine lv_iconst (v := 0) hx hb dX12_odd_70 (by decide) ?_
          refine lv_iadd hx hb dX12_odd_71 ?_
          refine lv_topi (fun z_198 ez_198 => ?_)
          try have iz_198 : z_198.toInt = v3.toInt + (0 : Int) := by rw [ez_198]; exact tl_addN v3 0 rfl rfl (by omega) (by omega)
          refine lv_istore_n (lv' := [(3, .int z_198), (4, .int v4), (0, .ref o), (1, .int p0), (2, .int p1)]) hx hb dX12_odd_72 rfl hl (by decide) rfl (fun ls hl => ?_)
          obtain ⟨z_199, ez_199⟩ : ∃ y : Int32, y = v4 + 1 := ⟨_, rfl⟩
          refine lv_iinc (v := z_199) (lv' := [(4, .int z_199), (3, .int z_198), (0, .ref o), (1, .int p0), (2, .int p1)]) hx hb dX12_odd_73 hl (k := 1) rfl (by rw [ez_199]; rfl) (by decide) rfl (fun ls hl => ?_)
          try have iz_199 : z_199.toInt = v4.toInt + 1 := by rw [ez_199]; exact tl_addL v4 1 (by decide) (by omega) (by omega)
          refine lv_goto (tgt := 33) hx hb dX12_odd_76 (by decide) ?_
          exact ih33 (f_26, z_199, z_198) H locs ls (by show (24 - z_199.toInt).toNat < (24 - v4.toInt).toNat; omega) ⟨(show 0 ≤ z_199.toInt from (by omega)), hP, hI, hfr, hS, lv_sub hl [0, 1, 2, 3, 4] rfl⟩
        · have c_197 : ¬ z_196.toInt = (0 : Int) := tl_neq c_197
          refine lv_aload_n hx hb dX12_odd_55 rfl (lv_at hl 2 rfl) ?_
          refine lv_iload hx hb dX12_odd_56 (lv_at hl 0 rfl) ?_
          refine lv_iconst (v := 0) hx hb dX12_odd_58 (by decide) ?_
          refine tl_si (tq_rV (As := [.int v4, .int 0]) (rest := [.int v3]) ⟨hx, hb, hml, hown, hta⟩ (tp_P.pre hK hN hL hU hI hP) (tp_recv hK hP ho.1 hf_27 rfl) lk_X12_132 (r_X12_rowOf l D cy H.size L K Γ_24 f_26 o v4 0 ho (by first | omega | (simp only [Int32.toInt_toInt64]; omega) | decide | assumption) (by first | omega | (simp only [Int32.toInt_toInt64]; omega) | decide | assumption)) rfl rfl ⟨Nat.le_of_ble_eq_true rfl, Nat.le_of_ble_eq_true rfl⟩ rfl hl.1 rfl (Nat.le_of_ble_eq_true rfl) dX12_odd_59 ⟨Nat.le_of_ble_eq_true rfl, Nat.le_of_ble_eq_true rfl⟩) (fun r_201 hw_200 => ?_)
          have hw_200 : r_201.toInt = Γ_24 (40, 7666, 0) (9 + 3 * v4.toInt + (0 : Int)).toNat := hw_200
          refine lv_iload_n hx hb dX12_odd_62 rfl (lv_at hl 4 rfl) ?_
          refine lv_icmp_ne (tgt := 70) hx hb dX12_odd_63 (by decide) (fun c_202 => ?_) (fun c_202 => ?_)
          · have c_202 : ¬ r_201.toInt = p1.toInt := tl_neq c_202
            refine lv_iconst (v := 0) hx hb dX12_odd_70 (by decide) ?_
            refine lv_iadd hx hb dX12_odd_71 ?_
            refine lv_topi (fun z_203 ez_203 => ?_)
            try have iz_203 : z_203.toInt = v3.toInt + (0 : Int) := by rw [ez_203]; exact tl_addN v3 0 rfl rfl (by omega) (by omega)
            refine lv_istore_n (lv' := [(3, .int z_203), (4, .int v4), (0, .ref o), (1, .int p0), (2, .int p1)]) hx hb dX12_odd_72 rfl hl (by decide) rfl (fun ls hl => ?_)
            obtain ⟨z_204, ez_204⟩ : ∃ y : Int32, y = v4 + 1 := ⟨_, rfl⟩
            refine lv_iinc (v := z_204) (lv' := [(4, .int z_204), (3, .int z_203), (0, .ref o), (1, .int p0), (2, .int p1)]) hx hb dX12_odd_73 hl (k := 1) rfl (by rw [ez_204]; rfl) (by decide) rfl (fun ls hl => ?_)
            try have iz_204 : z_204.toInt = v4.toInt + 1 := by rw [ez_204]; exact tl_addL v4 1 (by decide) (by omega) (by omega)
            refine lv_goto (tgt := 33) hx hb dX12_odd_76 (by decide) ?_
            exact ih33 (f_26, z_204, z_203) H locs ls (by show (24 - z_204.toInt).toNat < (24 - v4.toInt).toNat; omega) ⟨(show 0 ≤ z_204.toInt from (by omega)), hP, hI, hfr, hS, lv_sub hl [0, 1, 2, 3, 4] rfl⟩
          · have c_202 : r_201.toInt = p1.toInt := tl_eq c_202
            refine lv_iconst (v := 1) hx hb dX12_odd_66 (by decide) ?_
            refine lv_goto (tgt := 71) hx hb dX12_odd_67 (by decide) ?_
            refine lv_iadd hx hb dX12_odd_71 ?_
            refine lv_topi (fun z_205 ez_205 => ?_)
            try have iz_205 : z_205.toInt = v3.toInt + (1 : Int) := by rw [ez_205]; exact tl_addN v3 1 rfl rfl (by omega) (by omega)
            refine lv_istore_n (lv' := [(3, .int z_205), (4, .int v4), (0, .ref o), (1, .int p0), (2, .int p1)]) hx hb dX12_odd_72 rfl hl (by decide) rfl (fun ls hl => ?_)
            obtain ⟨z_206, ez_206⟩ : ∃ y : Int32, y = v4 + 1 := ⟨_, rfl⟩
            refine lv_iinc (v := z_206) (lv' := [(4, .int z_206), (3, .int z_205), (0, .ref o), (1, .int p0), (2, .int p1)]) hx hb dX12_odd_73 hl (k := 1) rfl (by rw [ez_206]; rfl) (by decide) rfl (fun ls hl => ?_)
            try have iz_206 : z_206.toInt = v4.toInt + 1 := by rw [ez_206]; exact tl_addL v4 1 (by decide) (by omega) (by omega)
            refine lv_goto (tgt := 33) hx hb dX12_odd_76 (by decide) ?_
            exact ih33 (f_26, z_206, z_205) H locs ls (by show (24 - z_206.toInt).toNat < (24 - v4.toInt).toNat; omega) ⟨(show 0 ≤ z_206.toInt from (by omega)), hP, hI, hfr, hS, lv_sub hl [0, 1, 2, 3, 4] rfl⟩
    · have c_19 := hw_17.f c_19
      refine lv_iconst (v := (-1)) hx hb dX12_odd_21 (by decide) ?_
      have hpo9 : Γ (39, 0, 0) 0 = Γ (39, 0, 0) 0 := (by omega)
      exact W.iret (v := (-1)) hx hb hr (fun t ht hW => ⟨⟨_, (f, Γ), rfl, hpo9, by rw [ht]; exact hP, hI, hfr, hgr⟩, hS.F ht⟩) hS.2.2 dX12_odd_22
